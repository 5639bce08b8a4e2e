theorem sSay_29 {E : xD} {c : Int32} (h : vp_in (E 0 29) 401) : vp_in (sSay E c 0 29) 401 := by
  unfold sSay
  split
  next hn =>
    rw [xdu_self, upd_self]
    exact (vi_ad (vi_lt h (by decide) hn) (vi_of (n := 1) (N := 2) (by decide) (by decide)) (by decide) (by decide) (by decide) (by decide)).1
  next => exact h
theorem sSay_ne {E : xD} {c : Int32} {j : Nat} (h0 : j ≠ 0) (h23 : j ≠ 23) : sSay E c j = E j := by
  unfold sSay
  split
  · rw [xdu_ne _ _ _ h0, xdu_ne _ _ _ h23]
  · rfl
theorem sSay_0 {E : xD} {c : Int32} {k : Nat} (h : k ≠ 29) : sSay E c 0 k = E 0 k := by
  unfold sSay
  split
  · rw [xdu_self, upd_ne _ _ h, xdu_ne _ _ _ (by decide)]
  · rfl
theorem sSays_29 {cs : List Int32} : ∀ {E : xD}, vp_in (E 0 29) 401 → vp_in (sSays E cs 0 29) 401 := by
  induction cs with
  | nil => intro E h; exact h
  | cons c cs ih => intro E h; exact ih (sSay_29 h)
theorem sSays_ne {cs : List Int32} {j : Nat} (h0 : j ≠ 0) (h23 : j ≠ 23) : ∀ {E : xD}, sSays E cs j = E j := by
  induction cs with
  | nil => intro E; rfl
  | cons c cs ih => intro E; rw [sSays, ih, sSay_ne h0 h23]
theorem sSays_0 {cs : List Int32} {k : Nat} (h : k ≠ 29) : ∀ {E : xD}, sSays E cs 0 k = E 0 k := by
  induction cs with
  | nil => intro E; rfl
  | cons c cs ih => intro E; rw [sSays, ih, sSay_0 h]
theorem vi_k {k n N : Nat} (h : k + (n + 1) ≤ N) (hN : N < 2 ^ 31) : vp_in (nI k) N := vi_of (by omega) hN
set_option maxRecDepth 20000 in
set_option maxHeartbeats 1000000 in
theorem r_sayText_lp {Γ : xGm} {l : Launch} {f : Nat} {G : xG} {D : xD} {R : xR} (hX : xFix G R) (hf : 1 ≤ f) {x t : Int32} (ht : vp_in t 20) : ∀ (n : Nat) (k : Nat) (E : xD) (hB : vp_in (E 0 29) 401) (hE : E 2 (ix t) = nI (k + n)) (hn : k + n ≤ 20), Ex Γ l f MX10_sayText 7 [some (.ref 17), some (.int x), some (.int t), some (.int (nI k))] [] G (mg D E) R 0 0 (xdet none G (mg D (sSayN E t (nI k) n)) R) := by
  intro n
  induction n with
  | zero =>
    intro k E hB hE hn
    refine il3 dX10_sayText_7 ?_
    refine al0 dX10_sayText_8 (by first | nofun | exact xrv_ne _) ?_
    refine rf_13 hX rfl dX10_sayText_9 ?_
    refine il2 dX10_sayText_12 ?_
    refine rb_2 hX dX10_sayText_13 ht ?_
    refine ex_icmp_ge 38 dX10_sayText_14 (by decide) (fun h14 => ?_) (fun h14 => ?_)
    · refine ex_vret dX10_sayText_38 rfl ?_
      exact ⟨rfl, rfl, rfl, rfl⟩
    · exact absurd (by rw [hE]; exact nI_le (by omega) (by omega)) h14
  | succ n ih =>
    intro k E hB hE hn
    refine il3 dX10_sayText_7 ?_
    refine al0 dX10_sayText_8 (by first | nofun | exact xrv_ne _) ?_
    refine rf_13 hX rfl dX10_sayText_9 ?_
    refine il2 dX10_sayText_12 ?_
    refine rb_2 hX dX10_sayText_13 ht ?_
    refine ex_icmp_ge 38 dX10_sayText_14 (by decide) (fun h14 => ?_) (fun h14 => ?_)
    · exact absurd h14 (by rw [hE]; exact nI_ge (by omega) (by omega))
    · refine al0 dX10_sayText_17 (by first | nofun | exact xrv_ne _) ?_
      refine al0 dX10_sayText_18 (by first | nofun | exact xrv_ne _) ?_
      refine rf_16 hX rfl dX10_sayText_19 ?_
      refine ex_bipush (v := 20) dX10_sayText_22 (by decide) ?_
      refine il2 dX10_sayText_24 ?_
      refine ex_imul dX10_sayText_25 ?_
      refine il3 dX10_sayText_26 ?_
      refine ex_iadd dX10_sayText_27 ?_
      refine rb_3 hX dX10_sayText_28 (vi_ln (N := 400) 20 ht (vi_k hn (by decide)) (by decide) (by decide) (by decide) (by decide)).1 ?_
      refine cd10_151 (f' := f - 1) rfl dX10_sayText_29 (Nat.le_of_ble_eq_true rfl) (fx17 hX) (by omega) (r_say hX hB) ?_
      refine ic3 (nI (k + 1)) dX10_sayText_32 (nI_1 k) ?_
      refine ex_goto 7 dX10_sayText_35 (by decide) ?_
      rw [show sSayN E t (nI k) (n + 1) = sSayN (sSay E (E 3 (ix (20 * t + nI k)))) t (nI (k + 1)) n by rw [sSayN, nI_1]]
      exact ih (k + 1) (sSay E (E 3 (ix (20 * t + nI k)))) (sSay_29 hB) (by rw [sSay_ne (by decide) (by decide), hE]; congr 1; omega) (by omega)
set_option maxRecDepth 20000 in
set_option maxHeartbeats 1000000 in
theorem r_sayText {Γ : xGm} {l : Launch} {f : Nat} {G : xG} {D E : xD} {R : xR} (hX : xFix G R) (hf : 1 ≤ f) (hB : vp_in (E 0 29) 401) {x : Int32} (ht : vp_in (x - 101) 20) (hs : vp_in (E 2 (ix (x - 101))) 21) : Cn Γ l f MX10_sayText [.ref 17, .int x] G (mg D E) R 0 0 (xdet none G (mg D (sSayText E x)) R) := by
  refine cn_of MX10_sayText_ok (Nat.le_of_ble_eq_true rfl) ?_
  show Ex Γ l f MX10_sayText 0 [some (.ref 17), some (.int x), none, none] [] G (mg D E) R 0 0 _
  refine il1 dX10_sayText_0 ?_
  refine ex_bipush (v := 101) dX10_sayText_1 (by decide) ?_
  refine ex_isub dX10_sayText_3 ?_
  refine is2 dX10_sayText_4 ?_
  refine ex_iconst (v := 0) dX10_sayText_5 (by decide) ?_
  refine is3 dX10_sayText_6 ?_
  exact r_sayText_lp hX hf ht (ix (E 2 (ix (x - 101)))) 0 E hB (by rw [Nat.zero_add]; exact (vi_n hs (by decide)).1) (by have := (vi_n hs (by decide)).2; omega)
set_option maxRecDepth 20000 in
set_option maxHeartbeats 1000000 in
theorem r_sayNumber {Γ : xGm} {l : Launch} {f : Nat} {G : xG} {D E : xD} {R : xR} (hX : xFix G R) (hf : 1 ≤ f) (hB : vp_in (E 0 29) 401) {v : Int32} : Cn Γ l f MX10_sayNumber [.ref 17, .int v] G (mg D E) R 0 0 (xdet none G (mg D (sSayNum E v)) R) := by
  refine cn_of MX10_sayNumber_ok (Nat.le_of_ble_eq_true rfl) ?_
  show Ex Γ l f MX10_sayNumber 0 [some (.ref 17), some (.int v)] [] G (mg D E) R 0 0 _
  refine al0 dX10_sayNumber_0 (by first | nofun | exact xrv_ne _) ?_
  refine ex_bipush (v := 40) dX10_sayNumber_1 (by decide) ?_
  refine cd10_151 (f' := f - 1) rfl dX10_sayNumber_3 (Nat.le_of_ble_eq_true rfl) (fx17 hX) (by omega) (r_say hX (by (repeat (with_reducible apply sSay_29)); with_reducible exact hB)) ?_
  refine il1 dX10_sayNumber_6 ?_
  refine ex_bipush (v := 9) dX10_sayNumber_7 (by decide) ?_
  refine ex_icmp_le 23 dX10_sayNumber_9 (by decide) (fun h9 => ?_) (fun h9 => ?_)
  · refine al0 dX10_sayNumber_23 (by first | nofun | exact xrv_ne _) ?_
    refine ex_bipush (v := 48) dX10_sayNumber_24 (by decide) ?_
    refine il1 dX10_sayNumber_26 ?_
    refine ex_bipush (v := 10) dX10_sayNumber_27 (by decide) ?_
    refine ex_irem dX10_sayNumber_29 (by decide) ?_
    refine ex_iadd dX10_sayNumber_30 ?_
    refine cd10_151 (f' := f - 1) rfl dX10_sayNumber_31 (Nat.le_of_ble_eq_true rfl) (fx17 hX) (by omega) (r_say hX (by (repeat (with_reducible apply sSay_29)); with_reducible exact hB)) ?_
    refine al0 dX10_sayNumber_34 (by first | nofun | exact xrv_ne _) ?_
    refine ex_bipush (v := 41) dX10_sayNumber_35 (by decide) ?_
    refine cd10_151 (f' := f - 1) rfl dX10_sayNumber_37 (Nat.le_of_ble_eq_true rfl) (fx17 hX) (by omega) (r_say hX (by (repeat (with_reducible apply sSay_29)); with_reducible exact hB)) ?_
    refine ex_vret dX10_sayNumber_40 rfl ?_
    refine ⟨rfl, rfl, ?_, rfl⟩
    simp [sSayNum, *]
  · refine al0 dX10_sayNumber_12 (by first | nofun | exact xrv_ne _) ?_
    refine ex_bipush (v := 48) dX10_sayNumber_13 (by decide) ?_
    refine il1 dX10_sayNumber_15 ?_
    refine ex_bipush (v := 10) dX10_sayNumber_16 (by decide) ?_
    refine ex_idiv dX10_sayNumber_18 (by decide) ?_
    refine ex_iadd dX10_sayNumber_19 ?_
    refine cd10_151 (f' := f - 1) rfl dX10_sayNumber_20 (Nat.le_of_ble_eq_true rfl) (fx17 hX) (by omega) (r_say hX (by (repeat (with_reducible apply sSay_29)); with_reducible exact hB)) ?_
    refine al0 dX10_sayNumber_23 (by first | nofun | exact xrv_ne _) ?_
    refine ex_bipush (v := 48) dX10_sayNumber_24 (by decide) ?_
    refine il1 dX10_sayNumber_26 ?_
    refine ex_bipush (v := 10) dX10_sayNumber_27 (by decide) ?_
    refine ex_irem dX10_sayNumber_29 (by decide) ?_
    refine ex_iadd dX10_sayNumber_30 ?_
    refine cd10_151 (f' := f - 1) rfl dX10_sayNumber_31 (Nat.le_of_ble_eq_true rfl) (fx17 hX) (by omega) (r_say hX (by (repeat (with_reducible apply sSay_29)); with_reducible exact hB)) ?_
    refine al0 dX10_sayNumber_34 (by first | nofun | exact xrv_ne _) ?_
    refine ex_bipush (v := 41) dX10_sayNumber_35 (by decide) ?_
    refine cd10_151 (f' := f - 1) rfl dX10_sayNumber_37 (Nat.le_of_ble_eq_true rfl) (fx17 hX) (by omega) (r_say hX (by (repeat (with_reducible apply sSay_29)); with_reducible exact hB)) ?_
    refine ex_vret dX10_sayNumber_40 rfl ?_
    refine ⟨rfl, rfl, ?_, rfl⟩
    simp [sSayNum, *]
set_option maxRecDepth 20000 in
set_option maxHeartbeats 1000000 in
theorem r_isVowel {Γ : xGm} {l : Launch} {f : Nat} {G : xG} {D E : xD} {R : xR} (hX : xFix G R) {c : Int32} : Cn Γ l f MX10_isVowel [.int c] G (mg D E) R 0 0 (xdet (some (.int (bi (sVowel c)))) G (mg D E) R) := by
  refine cn_of MX10_isVowel_ok (Nat.le_of_ble_eq_true rfl) ?_
  show Ex Γ l f MX10_isVowel 0 [some (.int c)] [] G (mg D E) R 0 0 _
  refine il0 dX10_isVowel_0 ?_
  refine ex_bipush (v := 97) dX10_isVowel_1 (by decide) ?_
  refine ex_icmp_eq 60 dX10_isVowel_3 (by decide) (fun h3 => ?_) (fun h3 => ?_)
  · refine ex_iconst (v := 1) dX10_isVowel_60 (by decide) ?_
    refine ex_goto 65 dX10_isVowel_61 (by decide) ?_
    refine ex_zret dX10_isVowel_65 rfl (by decide) ?_
    refine ⟨?_, rfl, rfl, rfl⟩
    simp [sVowel, bi, *]
  · refine il0 dX10_isVowel_6 ?_
    refine ex_bipush (v := 101) dX10_isVowel_7 (by decide) ?_
    refine ex_icmp_eq 60 dX10_isVowel_9 (by decide) (fun h9 => ?_) (fun h9 => ?_)
    · refine ex_iconst (v := 1) dX10_isVowel_60 (by decide) ?_
      refine ex_goto 65 dX10_isVowel_61 (by decide) ?_
      refine ex_zret dX10_isVowel_65 rfl (by decide) ?_
      refine ⟨?_, rfl, rfl, rfl⟩
      simp [sVowel, bi, *]
    · refine il0 dX10_isVowel_12 ?_
      refine ex_bipush (v := 105) dX10_isVowel_13 (by decide) ?_
      refine ex_icmp_eq 60 dX10_isVowel_15 (by decide) (fun h15 => ?_) (fun h15 => ?_)
      · refine ex_iconst (v := 1) dX10_isVowel_60 (by decide) ?_
        refine ex_goto 65 dX10_isVowel_61 (by decide) ?_
        refine ex_zret dX10_isVowel_65 rfl (by decide) ?_
        refine ⟨?_, rfl, rfl, rfl⟩
        simp [sVowel, bi, *]
      · refine il0 dX10_isVowel_18 ?_
        refine ex_bipush (v := 111) dX10_isVowel_19 (by decide) ?_
        refine ex_icmp_eq 60 dX10_isVowel_21 (by decide) (fun h21 => ?_) (fun h21 => ?_)
        · refine ex_iconst (v := 1) dX10_isVowel_60 (by decide) ?_
          refine ex_goto 65 dX10_isVowel_61 (by decide) ?_
          refine ex_zret dX10_isVowel_65 rfl (by decide) ?_
          refine ⟨?_, rfl, rfl, rfl⟩
          simp [sVowel, bi, *]
        · refine il0 dX10_isVowel_24 ?_
          refine ex_bipush (v := 117) dX10_isVowel_25 (by decide) ?_
          refine ex_icmp_eq 60 dX10_isVowel_27 (by decide) (fun h27 => ?_) (fun h27 => ?_)
          · refine ex_iconst (v := 1) dX10_isVowel_60 (by decide) ?_
            refine ex_goto 65 dX10_isVowel_61 (by decide) ?_
            refine ex_zret dX10_isVowel_65 rfl (by decide) ?_
            refine ⟨?_, rfl, rfl, rfl⟩
            simp [sVowel, bi, *]
          · refine il0 dX10_isVowel_30 ?_
            refine ex_bipush (v := 65) dX10_isVowel_31 (by decide) ?_
            refine ex_icmp_eq 60 dX10_isVowel_33 (by decide) (fun h33 => ?_) (fun h33 => ?_)
            · refine ex_iconst (v := 1) dX10_isVowel_60 (by decide) ?_
              refine ex_goto 65 dX10_isVowel_61 (by decide) ?_
              refine ex_zret dX10_isVowel_65 rfl (by decide) ?_
              refine ⟨?_, rfl, rfl, rfl⟩
              simp [sVowel, bi, *]
            · refine il0 dX10_isVowel_36 ?_
              refine ex_bipush (v := 69) dX10_isVowel_37 (by decide) ?_
              refine ex_icmp_eq 60 dX10_isVowel_39 (by decide) (fun h39 => ?_) (fun h39 => ?_)
              · refine ex_iconst (v := 1) dX10_isVowel_60 (by decide) ?_
                refine ex_goto 65 dX10_isVowel_61 (by decide) ?_
                refine ex_zret dX10_isVowel_65 rfl (by decide) ?_
                refine ⟨?_, rfl, rfl, rfl⟩
                simp [sVowel, bi, *]
              · refine il0 dX10_isVowel_42 ?_
                refine ex_bipush (v := 73) dX10_isVowel_43 (by decide) ?_
                refine ex_icmp_eq 60 dX10_isVowel_45 (by decide) (fun h45 => ?_) (fun h45 => ?_)
                · refine ex_iconst (v := 1) dX10_isVowel_60 (by decide) ?_
                  refine ex_goto 65 dX10_isVowel_61 (by decide) ?_
                  refine ex_zret dX10_isVowel_65 rfl (by decide) ?_
                  refine ⟨?_, rfl, rfl, rfl⟩
                  simp [sVowel, bi, *]
                · refine il0 dX10_isVowel_48 ?_
                  refine ex_bipush (v := 79) dX10_isVowel_49 (by decide) ?_
                  refine ex_icmp_eq 60 dX10_isVowel_51 (by decide) (fun h51 => ?_) (fun h51 => ?_)
                  · refine ex_iconst (v := 1) dX10_isVowel_60 (by decide) ?_
                    refine ex_goto 65 dX10_isVowel_61 (by decide) ?_
                    refine ex_zret dX10_isVowel_65 rfl (by decide) ?_
                    refine ⟨?_, rfl, rfl, rfl⟩
                    simp [sVowel, bi, *]
                  · refine il0 dX10_isVowel_54 ?_
                    refine ex_bipush (v := 85) dX10_isVowel_55 (by decide) ?_
                    refine ex_icmp_ne 64 dX10_isVowel_57 (by decide) (fun h57 => ?_) (fun h57 => ?_)
                    · refine ex_iconst (v := 0) dX10_isVowel_64 (by decide) ?_
                      refine ex_zret dX10_isVowel_65 rfl (by decide) ?_
                      refine ⟨?_, rfl, rfl, rfl⟩
                      simp [sVowel, bi, *]
                    · refine ex_iconst (v := 1) dX10_isVowel_60 (by decide) ?_
                      refine ex_goto 65 dX10_isVowel_61 (by decide) ?_
                      refine ex_zret dX10_isVowel_65 rfl (by decide) ?_
                      refine ⟨?_, rfl, rfl, rfl⟩
                      simp [sVowel, bi, *]
set_option maxRecDepth 20000 in
set_option maxHeartbeats 1000000 in
theorem r_sayArticle {Γ : xGm} {l : Launch} {f : Nat} {G : xG} {D E : xD} {R : xR} (hX : xFix G R) (hf : 1 ≤ f) (hB : vp_in (E 0 29) 401) {x a : Int32} (ht : vp_in (x - 101) 20) : Cn Γ l f MX10_sayArticle [.ref 17, .int x, .int a] G (mg D E) R 0 0 (xdet none G (mg D (sArticle E x a)) R) := by
  refine cn_of MX10_sayArticle_ok (Nat.le_of_ble_eq_true rfl) ?_
  show Ex Γ l f MX10_sayArticle 0 [some (.ref 17), some (.int x), some (.int a), none] [] G (mg D E) R 0 0 _
  refine il2 dX10_sayArticle_0 ?_
  refine ex_iconst (v := 2) dX10_sayArticle_1 (by decide) ?_
  refine ex_icmp_ne 55 dX10_sayArticle_2 (by decide) (fun h2 => ?_) (fun h2 => ?_)
  · refine il2 dX10_sayArticle_55 ?_
    refine ex_iconst (v := 1) dX10_sayArticle_56 (by decide) ?_
    refine ex_icmp_eq 65 dX10_sayArticle_57 (by decide) (fun h57 => ?_) (fun h57 => ?_)
    · refine al0 dX10_sayArticle_65 (by first | nofun | exact xrv_ne _) ?_
      refine il2 dX10_sayArticle_66 ?_
      refine ex_iconst (v := 1) dX10_sayArticle_67 (by decide) ?_
      refine ex_icmp_ne 76 dX10_sayArticle_68 (by decide) (fun h68 => ?_) (fun h68 => ?_)
      · refine ex_bipush (v := 84) dX10_sayArticle_76 (by decide) ?_
        refine cd10_151 (f' := f - 1) rfl dX10_sayArticle_78 (Nat.le_of_ble_eq_true rfl) (fx17 hX) (by omega) (r_say hX (by (repeat (with_reducible apply sSay_29)); with_reducible exact hB)) ?_
        refine al0 dX10_sayArticle_81 (by first | nofun | exact xrv_ne _) ?_
        refine ex_bipush (v := 104) dX10_sayArticle_82 (by decide) ?_
        refine cd10_151 (f' := f - 1) rfl dX10_sayArticle_84 (Nat.le_of_ble_eq_true rfl) (fx17 hX) (by omega) (r_say hX (by (repeat (with_reducible apply sSay_29)); with_reducible exact hB)) ?_
        refine al0 dX10_sayArticle_87 (by first | nofun | exact xrv_ne _) ?_
        refine ex_bipush (v := 101) dX10_sayArticle_88 (by decide) ?_
        refine cd10_151 (f' := f - 1) rfl dX10_sayArticle_90 (Nat.le_of_ble_eq_true rfl) (fx17 hX) (by omega) (r_say hX (by (repeat (with_reducible apply sSay_29)); with_reducible exact hB)) ?_
        refine al0 dX10_sayArticle_93 (by first | nofun | exact xrv_ne _) ?_
        refine ex_bipush (v := 32) dX10_sayArticle_94 (by decide) ?_
        refine cd10_151 (f' := f - 1) rfl dX10_sayArticle_96 (Nat.le_of_ble_eq_true rfl) (fx17 hX) (by omega) (r_say hX (by (repeat (with_reducible apply sSay_29)); with_reducible exact hB)) ?_
        refine ex_vret dX10_sayArticle_99 rfl ?_
        refine ⟨rfl, rfl, ?_, rfl⟩
        simp_all [sArticle, sSay_ne]
      · refine ex_bipush (v := 116) dX10_sayArticle_71 (by decide) ?_
        refine ex_goto 78 dX10_sayArticle_73 (by decide) ?_
        refine cd10_151 (f' := f - 1) rfl dX10_sayArticle_78 (Nat.le_of_ble_eq_true rfl) (fx17 hX) (by omega) (r_say hX (by (repeat (with_reducible apply sSay_29)); with_reducible exact hB)) ?_
        refine al0 dX10_sayArticle_81 (by first | nofun | exact xrv_ne _) ?_
        refine ex_bipush (v := 104) dX10_sayArticle_82 (by decide) ?_
        refine cd10_151 (f' := f - 1) rfl dX10_sayArticle_84 (Nat.le_of_ble_eq_true rfl) (fx17 hX) (by omega) (r_say hX (by (repeat (with_reducible apply sSay_29)); with_reducible exact hB)) ?_
        refine al0 dX10_sayArticle_87 (by first | nofun | exact xrv_ne _) ?_
        refine ex_bipush (v := 101) dX10_sayArticle_88 (by decide) ?_
        refine cd10_151 (f' := f - 1) rfl dX10_sayArticle_90 (Nat.le_of_ble_eq_true rfl) (fx17 hX) (by omega) (r_say hX (by (repeat (with_reducible apply sSay_29)); with_reducible exact hB)) ?_
        refine al0 dX10_sayArticle_93 (by first | nofun | exact xrv_ne _) ?_
        refine ex_bipush (v := 32) dX10_sayArticle_94 (by decide) ?_
        refine cd10_151 (f' := f - 1) rfl dX10_sayArticle_96 (Nat.le_of_ble_eq_true rfl) (fx17 hX) (by omega) (r_say hX (by (repeat (with_reducible apply sSay_29)); with_reducible exact hB)) ?_
        refine ex_vret dX10_sayArticle_99 rfl ?_
        refine ⟨rfl, rfl, ?_, rfl⟩
        simp_all [sArticle, sSay_ne]
    · refine il2 dX10_sayArticle_60 ?_
      refine ex_iconst (v := 3) dX10_sayArticle_61 (by decide) ?_
      refine ex_icmp_ne 99 dX10_sayArticle_62 (by decide) (fun h62 => ?_) (fun h62 => ?_)
      · refine ex_vret dX10_sayArticle_99 rfl ?_
        refine ⟨rfl, rfl, ?_, rfl⟩
        simp_all [sArticle, sSay_ne]
      · refine al0 dX10_sayArticle_65 (by first | nofun | exact xrv_ne _) ?_
        refine il2 dX10_sayArticle_66 ?_
        refine ex_iconst (v := 1) dX10_sayArticle_67 (by decide) ?_
        refine ex_icmp_ne 76 dX10_sayArticle_68 (by decide) (fun h68 => ?_) (fun h68 => ?_)
        · refine ex_bipush (v := 84) dX10_sayArticle_76 (by decide) ?_
          refine cd10_151 (f' := f - 1) rfl dX10_sayArticle_78 (Nat.le_of_ble_eq_true rfl) (fx17 hX) (by omega) (r_say hX (by (repeat (with_reducible apply sSay_29)); with_reducible exact hB)) ?_
          refine al0 dX10_sayArticle_81 (by first | nofun | exact xrv_ne _) ?_
          refine ex_bipush (v := 104) dX10_sayArticle_82 (by decide) ?_
          refine cd10_151 (f' := f - 1) rfl dX10_sayArticle_84 (Nat.le_of_ble_eq_true rfl) (fx17 hX) (by omega) (r_say hX (by (repeat (with_reducible apply sSay_29)); with_reducible exact hB)) ?_
          refine al0 dX10_sayArticle_87 (by first | nofun | exact xrv_ne _) ?_
          refine ex_bipush (v := 101) dX10_sayArticle_88 (by decide) ?_
          refine cd10_151 (f' := f - 1) rfl dX10_sayArticle_90 (Nat.le_of_ble_eq_true rfl) (fx17 hX) (by omega) (r_say hX (by (repeat (with_reducible apply sSay_29)); with_reducible exact hB)) ?_
          refine al0 dX10_sayArticle_93 (by first | nofun | exact xrv_ne _) ?_
          refine ex_bipush (v := 32) dX10_sayArticle_94 (by decide) ?_
          refine cd10_151 (f' := f - 1) rfl dX10_sayArticle_96 (Nat.le_of_ble_eq_true rfl) (fx17 hX) (by omega) (r_say hX (by (repeat (with_reducible apply sSay_29)); with_reducible exact hB)) ?_
          refine ex_vret dX10_sayArticle_99 rfl ?_
          refine ⟨rfl, rfl, ?_, rfl⟩
          simp_all [sArticle, sSay_ne]
        · refine ex_bipush (v := 116) dX10_sayArticle_71 (by decide) ?_
          refine ex_goto 78 dX10_sayArticle_73 (by decide) ?_
          refine cd10_151 (f' := f - 1) rfl dX10_sayArticle_78 (Nat.le_of_ble_eq_true rfl) (fx17 hX) (by omega) (r_say hX (by (repeat (with_reducible apply sSay_29)); with_reducible exact hB)) ?_
          refine al0 dX10_sayArticle_81 (by first | nofun | exact xrv_ne _) ?_
          refine ex_bipush (v := 104) dX10_sayArticle_82 (by decide) ?_
          refine cd10_151 (f' := f - 1) rfl dX10_sayArticle_84 (Nat.le_of_ble_eq_true rfl) (fx17 hX) (by omega) (r_say hX (by (repeat (with_reducible apply sSay_29)); with_reducible exact hB)) ?_
          refine al0 dX10_sayArticle_87 (by first | nofun | exact xrv_ne _) ?_
          refine ex_bipush (v := 101) dX10_sayArticle_88 (by decide) ?_
          refine cd10_151 (f' := f - 1) rfl dX10_sayArticle_90 (Nat.le_of_ble_eq_true rfl) (fx17 hX) (by omega) (r_say hX (by (repeat (with_reducible apply sSay_29)); with_reducible exact hB)) ?_
          refine al0 dX10_sayArticle_93 (by first | nofun | exact xrv_ne _) ?_
          refine ex_bipush (v := 32) dX10_sayArticle_94 (by decide) ?_
          refine cd10_151 (f' := f - 1) rfl dX10_sayArticle_96 (Nat.le_of_ble_eq_true rfl) (fx17 hX) (by omega) (r_say hX (by (repeat (with_reducible apply sSay_29)); with_reducible exact hB)) ?_
          refine ex_vret dX10_sayArticle_99 rfl ?_
          refine ⟨rfl, rfl, ?_, rfl⟩
          simp_all [sArticle, sSay_ne]
  · refine il1 dX10_sayArticle_5 ?_
    refine ex_bipush (v := 101) dX10_sayArticle_6 (by decide) ?_
    refine ex_isub dX10_sayArticle_8 ?_
    refine is3 dX10_sayArticle_9 ?_
    refine al0 dX10_sayArticle_10 (by first | nofun | exact xrv_ne _) ?_
    refine ex_bipush (v := 97) dX10_sayArticle_11 (by decide) ?_
    refine cd10_151 (f' := f - 1) rfl dX10_sayArticle_13 (Nat.le_of_ble_eq_true rfl) (fx17 hX) (by omega) (r_say hX (by (repeat (with_reducible apply sSay_29)); with_reducible exact hB)) ?_
    refine al0 dX10_sayArticle_16 (by first | nofun | exact xrv_ne _) ?_
    refine rf_13 hX rfl dX10_sayArticle_17 ?_
    refine il3 dX10_sayArticle_20 ?_
    refine rb_2 hX dX10_sayArticle_21 ht ?_
    refine ex_if_le 46 dX10_sayArticle_22 (by decide) (fun h22 => ?_) (fun h22 => ?_)
    · refine al0 dX10_sayArticle_46 (by first | nofun | exact xrv_ne _) ?_
      refine ex_bipush (v := 32) dX10_sayArticle_47 (by decide) ?_
      refine cd10_151 (f' := f - 1) rfl dX10_sayArticle_49 (Nat.le_of_ble_eq_true rfl) (fx17 hX) (by omega) (r_say hX (by (repeat (with_reducible apply sSay_29)); with_reducible exact hB)) ?_
      refine ex_goto 99 dX10_sayArticle_52 (by decide) ?_
      refine ex_vret dX10_sayArticle_99 rfl ?_
      refine ⟨rfl, rfl, ?_, rfl⟩
      simp_all [sArticle, sSay_ne]
    · refine al0 dX10_sayArticle_25 (by first | nofun | exact xrv_ne _) ?_
      refine rf_16 hX rfl dX10_sayArticle_26 ?_
      refine ex_bipush (v := 20) dX10_sayArticle_29 (by decide) ?_
      refine il3 dX10_sayArticle_31 ?_
      refine ex_imul dX10_sayArticle_32 ?_
      refine rb_3 hX dX10_sayArticle_33 (vi_sc (N := 400) 20 ht (by decide) (by decide) (by decide)).1 ?_
      refine cd10_154 (f' := f - 1) rfl dX10_sayArticle_34 (Nat.le_of_ble_eq_true rfl) (by omega) (r_isVowel hX) ?_
      refine ex_if_eq 46 dX10_sayArticle_37 (by decide) (fun h37 => ?_) (fun h37 => ?_)
      · simp only [bi_0, Bool.not_eq_false] at h37
        refine al0 dX10_sayArticle_46 (by first | nofun | exact xrv_ne _) ?_
        refine ex_bipush (v := 32) dX10_sayArticle_47 (by decide) ?_
        refine cd10_151 (f' := f - 1) rfl dX10_sayArticle_49 (Nat.le_of_ble_eq_true rfl) (fx17 hX) (by omega) (r_say hX (by (repeat (with_reducible apply sSay_29)); with_reducible exact hB)) ?_
        refine ex_goto 99 dX10_sayArticle_52 (by decide) ?_
        refine ex_vret dX10_sayArticle_99 rfl ?_
        refine ⟨rfl, rfl, ?_, rfl⟩
        simp_all [sArticle, sSay_ne]
      · simp only [bi_0, Bool.not_eq_false] at h37
        refine al0 dX10_sayArticle_40 (by first | nofun | exact xrv_ne _) ?_
        refine ex_bipush (v := 110) dX10_sayArticle_41 (by decide) ?_
        refine cd10_151 (f' := f - 1) rfl dX10_sayArticle_43 (Nat.le_of_ble_eq_true rfl) (fx17 hX) (by omega) (r_say hX (by (repeat (with_reducible apply sSay_29)); with_reducible exact hB)) ?_
        refine al0 dX10_sayArticle_46 (by first | nofun | exact xrv_ne _) ?_
        refine ex_bipush (v := 32) dX10_sayArticle_47 (by decide) ?_
        refine cd10_151 (f' := f - 1) rfl dX10_sayArticle_49 (Nat.le_of_ble_eq_true rfl) (fx17 hX) (by omega) (r_say hX (by (repeat (with_reducible apply sSay_29)); with_reducible exact hB)) ?_
        refine ex_goto 99 dX10_sayArticle_52 (by decide) ?_
        refine ex_vret dX10_sayArticle_99 rfl ?_
        refine ⟨rfl, rfl, ?_, rfl⟩
        simp_all [sArticle, sSay_ne]
theorem sMeta_in {E : xD} {v : Int32} (h : ¬ (¬ sMeta E v = 1 ∧ ¬ sMeta E v = 2)) : sIn v 1 (E 0 14) = true := by
  by_cases hs : sIn v 1 (E 0 14) = true
  · exact hs
  · exfalso
    apply h
    unfold sMeta
    rw [if_neg hs]
    split
    · decide
    · split
      · decide
      · split <;> decide
theorem sMeta_1 {E : xD} {v : Int32} (h : sMeta E v = 1) : sIn v 1 (E 0 14) = true := sMeta_in (fun q => q.1 h)
theorem sMeta_2 {E : xD} {v : Int32} (h : sMeta E v = 2) : sIn v 1 (E 0 14) = true := sMeta_in (fun q => q.2 h)
theorem vi_text {E : xD} (hB : RB E) {x : Int32} (h : 101 ≤ x ∧ x ≤ 100 + E 0 3) : vp_in (x - 101) 20 := by
  obtain ⟨e3, l3⟩ := vi_n hB.n3 (by decide)
  have e1 : (100 + E 0 3 : Int32) = nI (100 + ix (E 0 3)) := by
    conv => lhs; rw [e3]
    rw [show (100 : Int32) = nI 100 from rfl, nI_add]
  rw [e1] at h
  have h0 : ¬ x < 0 := fun q => by
    have h1 := h.1
    rw [i32_le] at h1
    rw [Int32.lt_iff_toInt_lt] at q
    have : (101 : Int32).toInt = 101 := rfl
    have : (0 : Int32).toInt = 0 := rfl
    omega
  obtain ⟨j, hj, rfl⟩ := nI_of h0
  have g1 := (nI_leI (a := 101) (by decide) hj).mp h.1
  have g2 := (nI_leI hj (by omega)).mp h.2
  rw [show (101 : Int32) = nI 101 from rfl, pk_sub g1]
  exact vi_of (by omega) (by decide)
set_option maxRecDepth 20000 in
set_option maxHeartbeats 1000000 in
theorem r_rowAt {Γ : xGm} {l : Launch} {f : Nat} {G : xG} {D E : xD} {R : xR} (hX : xFix G R) (hf : 1 ≤ f) (hB : RB E) {t n : Int32} (ht : vp_in t 41) : Cn Γ l f MX10_rowAt [.ref 17, .int t, .int n] G (mg D E) R 0 0 (xdet (some (.int (sRowAt E t n))) G (mg D E) R) := by
  refine cn_of MX10_rowAt_ok (Nat.le_of_ble_eq_true rfl) ?_
  show Ex Γ l f MX10_rowAt 0 [some (.ref 17), some (.int t), some (.int n)] [] G (mg D E) R 0 0 _
  refine il2 dX10_rowAt_0 ?_
  refine ex_iconst (v := 0) dX10_rowAt_1 (by decide) ?_
  refine ex_bipush (v := 11) dX10_rowAt_2 (by decide) ?_
  refine cd10_102 (f' := f - 1) rfl dX10_rowAt_4 (Nat.le_of_ble_eq_true rfl) (by omega) (r_in hX) ?_
  refine ex_if_eq 24 dX10_rowAt_7 (by decide) (fun h7 => ?_) (fun h7 => ?_)
  · simp only [bi_0, Bool.not_eq_false] at h7
    refine ex_iconst (v := 0) dX10_rowAt_24 (by decide) ?_
    refine ex_iret dX10_rowAt_25 rfl ?_
    refine ⟨?_, rfl, rfl, rfl⟩
    simp [sRowAt, *]
  · simp only [bi_0, Bool.not_eq_false] at h7
    refine al0 dX10_rowAt_10 (by first | nofun | exact xrv_ne _) ?_
    refine rf_53 hX rfl dX10_rowAt_11 ?_
    refine ex_bipush (v := 12) dX10_rowAt_14 (by decide) ?_
    refine il1 dX10_rowAt_16 ?_
    refine ex_imul dX10_rowAt_17 ?_
    refine il2 dX10_rowAt_18 ?_
    refine ex_iadd dX10_rowAt_19 ?_
    refine rb_15 hX dX10_rowAt_20 (vi_ln (N := 492) 12 ht (vi_n11 h7) (by decide) (by decide) (by decide) (by decide)).1 ?_
    refine ex_goto 25 dX10_rowAt_21 (by decide) ?_
    refine ex_iret dX10_rowAt_25 rfl ?_
    refine ⟨?_, rfl, rfl, rfl⟩
    simp [sRowAt, *]
set_option maxRecDepth 20000 in
set_option maxHeartbeats 1000000 in
theorem r_wrong {Γ : xGm} {l : Launch} {f : Nat} {G : xG} {D E : xD} {R : xR} (hX : xFix G R) (hf : 2 ≤ f) (hB : RB E) {t n i : Int32} : Cn Γ l f MX10_wrong [.ref 17, .int t, .int n, .int i] G (mg D E) R 0 0 (xdet (some (.int (sWrong E t n i))) G (mg D E) R) := by
  refine cn_of MX10_wrong_ok (Nat.le_of_ble_eq_true rfl) ?_
  show Ex Γ l f MX10_wrong 0 [some (.ref 17), some (.int t), some (.int n), some (.int i), none] [] G (mg D E) R 0 0 _
  refine al0 dX10_wrong_0 (by first | nofun | exact xrv_ne _) ?_
  refine il1 dX10_wrong_1 ?_
  refine cd10_141 (f' := f - 1) rfl dX10_wrong_2 (Nat.le_of_ble_eq_true rfl) (fx17 hX) (by omega) (r_meta hX (by omega) hB) ?_
  refine is4 dX10_wrong_5 ?_
  refine il4 dX10_wrong_7 ?_
  refine ex_iconst (v := 1) dX10_wrong_9 (by decide) ?_
  refine ex_icmp_eq 23 dX10_wrong_10 (by decide) (fun h10 => ?_) (fun h10 => ?_)
  · refine al0 dX10_wrong_23 (by first | nofun | exact xrv_ne _) ?_
    refine il1 dX10_wrong_24 ?_
    refine il2 dX10_wrong_25 ?_
    refine cd10_166 (f' := f - 1) rfl dX10_wrong_26 (Nat.le_of_ble_eq_true rfl) (fx17 hX) (by omega) (r_rowAt hX (by omega) hB (hB.in14 (by first | exact sMeta_1 (by assumption) | exact sMeta_2 (by assumption)))) ?_
    refine ex_if_ne 36 dX10_wrong_29 (by decide) (fun h29 => ?_) (fun h29 => ?_)
    · refine il3 dX10_wrong_36 ?_
      refine ex_iconst (v := 0) dX10_wrong_37 (by decide) ?_
      refine al0 dX10_wrong_38 (by first | nofun | exact xrv_ne _) ?_
      refine il1 dX10_wrong_39 ?_
      refine il2 dX10_wrong_40 ?_
      refine cd10_166 (f' := f - 1) rfl dX10_wrong_41 (Nat.le_of_ble_eq_true rfl) (fx17 hX) (by omega) (r_rowAt hX (by omega) hB (hB.in14 (by first | exact sMeta_1 (by assumption) | exact sMeta_2 (by assumption)))) ?_
      refine ex_iconst (v := 1) dX10_wrong_44 (by decide) ?_
      refine ex_isub dX10_wrong_45 ?_
      refine cd10_102 (f' := f - 1) rfl dX10_wrong_46 (Nat.le_of_ble_eq_true rfl) (by omega) (r_in hX) ?_
      refine ex_if_ne 56 dX10_wrong_49 (by decide) (fun h49 => ?_) (fun h49 => ?_)
      · simp only [bi_0, Bool.not_eq_false] at h49
        refine ex_iconst (v := 0) dX10_wrong_56 (by decide) ?_
        refine ex_iret dX10_wrong_57 rfl ?_
        refine ⟨?_, rfl, rfl, rfl⟩
        simp [sWrong, *]
      · simp only [bi_0, Bool.not_eq_false] at h49
        refine ex_iconst (v := 5) dX10_wrong_52 (by decide) ?_
        refine ex_goto 57 dX10_wrong_53 (by decide) ?_
        refine ex_iret dX10_wrong_57 rfl ?_
        refine ⟨?_, rfl, rfl, rfl⟩
        simp [sWrong, *]
    · refine ex_iconst (v := 3) dX10_wrong_32 (by decide) ?_
      refine ex_goto 57 dX10_wrong_33 (by decide) ?_
      refine ex_iret dX10_wrong_57 rfl ?_
      refine ⟨?_, rfl, rfl, rfl⟩
      simp [sWrong, *]
  · refine il4 dX10_wrong_13 ?_
    refine ex_iconst (v := 2) dX10_wrong_15 (by decide) ?_
    refine ex_icmp_eq 23 dX10_wrong_16 (by decide) (fun h16 => ?_) (fun h16 => ?_)
    · refine al0 dX10_wrong_23 (by first | nofun | exact xrv_ne _) ?_
      refine il1 dX10_wrong_24 ?_
      refine il2 dX10_wrong_25 ?_
      refine cd10_166 (f' := f - 1) rfl dX10_wrong_26 (Nat.le_of_ble_eq_true rfl) (fx17 hX) (by omega) (r_rowAt hX (by omega) hB (hB.in14 (by first | exact sMeta_1 (by assumption) | exact sMeta_2 (by assumption)))) ?_
      refine ex_if_ne 36 dX10_wrong_29 (by decide) (fun h29 => ?_) (fun h29 => ?_)
      · refine il3 dX10_wrong_36 ?_
        refine ex_iconst (v := 0) dX10_wrong_37 (by decide) ?_
        refine al0 dX10_wrong_38 (by first | nofun | exact xrv_ne _) ?_
        refine il1 dX10_wrong_39 ?_
        refine il2 dX10_wrong_40 ?_
        refine cd10_166 (f' := f - 1) rfl dX10_wrong_41 (Nat.le_of_ble_eq_true rfl) (fx17 hX) (by omega) (r_rowAt hX (by omega) hB (hB.in14 (by first | exact sMeta_1 (by assumption) | exact sMeta_2 (by assumption)))) ?_
        refine ex_iconst (v := 1) dX10_wrong_44 (by decide) ?_
        refine ex_isub dX10_wrong_45 ?_
        refine cd10_102 (f' := f - 1) rfl dX10_wrong_46 (Nat.le_of_ble_eq_true rfl) (by omega) (r_in hX) ?_
        refine ex_if_ne 56 dX10_wrong_49 (by decide) (fun h49 => ?_) (fun h49 => ?_)
        · simp only [bi_0, Bool.not_eq_false] at h49
          refine ex_iconst (v := 0) dX10_wrong_56 (by decide) ?_
          refine ex_iret dX10_wrong_57 rfl ?_
          refine ⟨?_, rfl, rfl, rfl⟩
          simp [sWrong, *]
        · simp only [bi_0, Bool.not_eq_false] at h49
          refine ex_iconst (v := 5) dX10_wrong_52 (by decide) ?_
          refine ex_goto 57 dX10_wrong_53 (by decide) ?_
          refine ex_iret dX10_wrong_57 rfl ?_
          refine ⟨?_, rfl, rfl, rfl⟩
          simp [sWrong, *]
      · refine ex_iconst (v := 3) dX10_wrong_32 (by decide) ?_
        refine ex_goto 57 dX10_wrong_33 (by decide) ?_
        refine ex_iret dX10_wrong_57 rfl ?_
        refine ⟨?_, rfl, rfl, rfl⟩
        simp [sWrong, *]
    · refine ex_iconst (v := 1) dX10_wrong_19 (by decide) ?_
      refine ex_goto 57 dX10_wrong_20 (by decide) ?_
      refine ex_iret dX10_wrong_57 rfl ?_
      refine ⟨?_, rfl, rfl, rfl⟩
      simp [sWrong, *]
theorem sWrong_0 {E : xD} (hB : RB E) {t n i : Int32} (h : sWrong E t n i ≤ 0) : vp_in t 41 ∧ vp_in n 12 ∧ vp_in i 4 ∧ sRowAt E t n = E 15 (ix (12 * t + n)) ∧ vp_in (12 * t + n) 492 ∧ sIn i 0 (E 15 (ix (12 * t + n)) - 1) = true := by
  unfold sWrong at h
  split at h
  · exact absurd h (by decide)
  next hm =>
    split at h
    · exact absurd h (by decide)
    next hr =>
      split at h
      · exact absurd h (by decide)
      next hi =>
        have ht := hB.in14 (sMeta_in hm)
        have hn : sIn n 0 11 = true := by
          by_cases q : sIn n 0 11 = true
          · exact q
          · exact absurd (by unfold sRowAt; rw [if_neg q]) hr
        have e : sRowAt E t n = E 15 (ix (12 * t + n)) := by unfold sRowAt; rw [if_pos hn]
        have hv := (vi_ln (N := 492) 12 ht (vi_n11 hn) (by decide) (by decide) (by decide) (by decide)).1
        have hi2 : sIn i 0 (sRowAt E t n - 1) = true := by simpa using hi
        have hb : vp_in (sRowAt E t n) 5 := by rw [e]; exact hB.a15 (vi_n hv (by decide)).2
        exact ⟨ht, vi_n11 hn, vi_pred hb (by decide) hi2, e, hv, by rw [← e]; exact hi2⟩
set_option maxRecDepth 20000 in
set_option maxHeartbeats 1000000 in
theorem r_read {Γ : xGm} {l : Launch} {f : Nat} {G : xG} {D E : xD} {R : xR} (hX : xFix G R) (hf : 3 ≤ f) (hB : RB E) {t n i : Int32} : Cn Γ l f MX10_read [.ref 17, .int t, .int n, .int i] G (mg D E) R 0 0 (xdet (some (.int (sRead E t n i).1)) G (mg D (sRead E t n i).2) R) := by
  refine cn_of MX10_read_ok (Nat.le_of_ble_eq_true rfl) ?_
  show Ex Γ l f MX10_read 0 [some (.ref 17), some (.int t), some (.int n), some (.int i), none] [] G (mg D E) R 0 0 _
  refine al0 dX10_read_0 (by first | nofun | exact xrv_ne _) ?_
  refine il1 dX10_read_1 ?_
  refine il2 dX10_read_2 ?_
  refine il3 dX10_read_3 ?_
  refine cd10_170 (f' := f - 1) rfl dX10_read_4 (Nat.le_of_ble_eq_true rfl) (fx17 hX) (by omega) (r_wrong hX (by omega) hB) ?_
  refine is4 dX10_read_7 ?_
  refine il4 dX10_read_9 ?_
  refine ex_if_le 25 dX10_read_11 (by decide) (fun h11 => ?_) (fun h11 => ?_)
  · refine al0 dX10_read_25 (by first | nofun | exact xrv_ne _) ?_
    refine rf_56 hX rfl dX10_read_26 ?_
    refine ex_iconst (v := 4) dX10_read_29 (by decide) ?_
    refine ex_bipush (v := 12) dX10_read_30 (by decide) ?_
    refine il1 dX10_read_32 ?_
    refine ex_imul dX10_read_33 ?_
    refine il2 dX10_read_34 ?_
    refine ex_iadd dX10_read_35 ?_
    refine ex_imul dX10_read_36 ?_
    refine il3 dX10_read_37 ?_
    refine ex_iadd dX10_read_38 ?_
    refine rb_16 hX dX10_read_39 (by obtain ⟨-, -, gi, -, gv, -⟩ := sWrong_0 hB h11; exact (vi_ln (N := 1968) 4 gv gi (by decide) (by decide) (by decide) (by decide)).1) ?_
    refine ex_iret dX10_read_40 rfl ?_
    refine ⟨?_, rfl, ?_, rfl⟩ <;> simp [sRead, xdu_self, upd_self, xdu_ne, upd_ne, *]
  · refine al0 dX10_read_14 (by first | nofun | exact xrv_ne _) ?_
    refine il4 dX10_read_15 ?_
    refine il1 dX10_read_17 ?_
    refine il2 dX10_read_18 ?_
    refine cd10_174 (f' := f - 1) rfl dX10_read_19 (Nat.le_of_ble_eq_true rfl) (fx17 hX) (by omega) (r_fails hX hB.n27) ?_
    refine ex_goto 40 dX10_read_22 (by decide) ?_
    refine ex_iret dX10_read_40 rfl ?_
    refine ⟨?_, rfl, ?_, rfl⟩ <;> simp [sRead, xdu_self, upd_self, xdu_ne, upd_ne, *]
set_option maxRecDepth 20000 in
set_option maxHeartbeats 1000000 in
theorem r_write {Γ : xGm} {l : Launch} {f : Nat} {G : xG} {D E : xD} {R : xR} (hX : xFix G R) (hf : 3 ≤ f) (hB : RB E) {t n i v : Int32} : Cn Γ l f MX10_write [.ref 17, .int t, .int n, .int i, .int v] G (mg D E) R 0 0 (xdet (some (.int (sWrite E t n i v).1)) G (mg D (sWrite E t n i v).2) R) := by
  refine cn_of MX10_write_ok (Nat.le_of_ble_eq_true rfl) ?_
  show Ex Γ l f MX10_write 0 [some (.ref 17), some (.int t), some (.int n), some (.int i), some (.int v), none] [] G (mg D E) R 0 0 _
  refine al0 dX10_write_0 (by first | nofun | exact xrv_ne _) ?_
  refine il1 dX10_write_1 ?_
  refine il2 dX10_write_2 ?_
  refine il3 dX10_write_3 ?_
  refine cd10_170 (f' := f - 1) rfl dX10_write_4 (Nat.le_of_ble_eq_true rfl) (fx17 hX) (by omega) (r_wrong hX (by omega) hB) ?_
  refine is5 dX10_write_7 ?_
  refine il5 dX10_write_9 ?_
  refine ex_if_le 23 dX10_write_11 (by decide) (fun h11 => ?_) (fun h11 => ?_)
  · refine al0 dX10_write_23 (by first | nofun | exact xrv_ne _) ?_
    refine rf_56 hX rfl dX10_write_24 ?_
    refine ex_iconst (v := 4) dX10_write_27 (by decide) ?_
    refine ex_bipush (v := 12) dX10_write_28 (by decide) ?_
    refine il1 dX10_write_30 ?_
    refine ex_imul dX10_write_31 ?_
    refine il2 dX10_write_32 ?_
    refine ex_iadd dX10_write_33 ?_
    refine ex_imul dX10_write_34 ?_
    refine il3 dX10_write_35 ?_
    refine ex_iadd dX10_write_36 ?_
    refine il4 dX10_write_37 ?_
    refine rt_16 hX dX10_write_39 (by obtain ⟨-, -, gi, -, gv, -⟩ := sWrong_0 hB h11; exact (vi_ln (N := 1968) 4 gv gi (by decide) (by decide) (by decide) (by decide)).1) ?_
    refine il4 dX10_write_40 ?_
    refine ex_iret dX10_write_42 rfl ?_
    refine ⟨?_, rfl, ?_, rfl⟩ <;> simp [sWrite, xdu_self, upd_self, xdu_ne, upd_ne, *]
  · refine al0 dX10_write_14 (by first | nofun | exact xrv_ne _) ?_
    refine il5 dX10_write_15 ?_
    refine il1 dX10_write_17 ?_
    refine il2 dX10_write_18 ?_
    refine cd10_174 (f' := f - 1) rfl dX10_write_19 (Nat.le_of_ble_eq_true rfl) (fx17 hX) (by omega) (r_fails hX hB.n27) ?_
    refine ex_iret dX10_write_22 rfl ?_
    refine ⟨?_, rfl, ?_, rfl⟩ <;> simp [sWrite, xdu_self, upd_self, xdu_ne, upd_ne, *]
set_option maxRecDepth 20000 in
set_option maxHeartbeats 1000000 in
theorem r_provides {Γ : xGm} {l : Launch} {f : Nat} {G : xG} {D E : xD} {R : xR} (hX : xFix G R) (hf : 2 ≤ f) (hB : RB E) {v n : Int32} : Cn Γ l f MX10_provides [.ref 17, .int v, .int n] G (mg D E) R 0 0 (xdet (some (.int (sProvides E v n))) G (mg D E) R) := by
  refine cn_of MX10_provides_ok (Nat.le_of_ble_eq_true rfl) ?_
  show Ex Γ l f MX10_provides 0 [some (.ref 17), some (.int v), some (.int n), none] [] G (mg D E) R 0 0 _
  refine al0 dX10_provides_0 (by first | nofun | exact xrv_ne _) ?_
  refine il1 dX10_provides_1 ?_
  refine cd10_141 (f' := f - 1) rfl dX10_provides_2 (Nat.le_of_ble_eq_true rfl) (fx17 hX) (by omega) (r_meta hX (by omega) hB) ?_
  refine is3 dX10_provides_5 ?_
  refine il3 dX10_provides_6 ?_
  refine ex_iconst (v := 1) dX10_provides_7 (by decide) ?_
  refine ex_icmp_eq 16 dX10_provides_8 (by decide) (fun h8 => ?_) (fun h8 => ?_)
  · refine al0 dX10_provides_16 (by first | nofun | exact xrv_ne _) ?_
    refine il1 dX10_provides_17 ?_
    refine il2 dX10_provides_18 ?_
    refine cd10_166 (f' := f - 1) rfl dX10_provides_19 (Nat.le_of_ble_eq_true rfl) (fx17 hX) (by omega) (r_rowAt hX (by omega) hB (hB.in14 (by first | exact sMeta_1 (by assumption) | exact sMeta_2 (by assumption)))) ?_
    refine ex_goto 26 dX10_provides_22 (by decide) ?_
    refine ex_iret dX10_provides_26 rfl ?_
    refine ⟨?_, rfl, rfl, rfl⟩
    simp [sProvides, *]
  · refine il3 dX10_provides_11 ?_
    refine ex_iconst (v := 2) dX10_provides_12 (by decide) ?_
    refine ex_icmp_ne 25 dX10_provides_13 (by decide) (fun h13 => ?_) (fun h13 => ?_)
    · refine ex_iconst (v := 0) dX10_provides_25 (by decide) ?_
      refine ex_iret dX10_provides_26 rfl ?_
      refine ⟨?_, rfl, rfl, rfl⟩
      simp [sProvides, *]
    · refine al0 dX10_provides_16 (by first | nofun | exact xrv_ne _) ?_
      refine il1 dX10_provides_17 ?_
      refine il2 dX10_provides_18 ?_
      refine cd10_166 (f' := f - 1) rfl dX10_provides_19 (Nat.le_of_ble_eq_true rfl) (fx17 hX) (by omega) (r_rowAt hX (by omega) hB (hB.in14 (by first | exact sMeta_1 (by assumption) | exact sMeta_2 (by assumption)))) ?_
      refine ex_goto 26 dX10_provides_22 (by decide) ?_
      refine ex_iret dX10_provides_26 rfl ?_
      refine ⟨?_, rfl, rfl, rfl⟩
      simp [sProvides, *]
set_option maxRecDepth 20000 in
set_option maxHeartbeats 1000000 in
theorem r_out {Γ : xGm} {l : Launch} {f : Nat} {G : xG} {D E : xD} {R : xR} (hX : xFix G R) (hf : 1 ≤ f) (hB : RB E) {i : Int32} : Cn Γ l f MX10_out [.ref 17, .int i] G (mg D E) R 0 0 (xdet (some (.int (sOut E i))) G (mg D E) R) := by
  refine cn_of MX10_out_ok (Nat.le_of_ble_eq_true rfl) ?_
  show Ex Γ l f MX10_out 0 [some (.ref 17), some (.int i)] [] G (mg D E) R 0 0 _
  refine il1 dX10_out_0 ?_
  refine ex_iconst (v := 0) dX10_out_1 (by decide) ?_
  refine al0 dX10_out_2 (by first | nofun | exact xrv_ne _) ?_
  refine rf_148 hX rfl dX10_out_3 ?_
  refine ex_iconst (v := 1) dX10_out_6 (by decide) ?_
  refine ex_isub dX10_out_7 ?_
  refine cd10_102 (f' := f - 1) rfl dX10_out_8 (Nat.le_of_ble_eq_true rfl) (by omega) (r_in hX) ?_
  refine ex_if_eq 23 dX10_out_11 (by decide) (fun h11 => ?_) (fun h11 => ?_)
  · simp only [bi_0, Bool.not_eq_false] at h11
    refine ex_iconst (v := (-1)) dX10_out_23 (by decide) ?_
    refine ex_iret dX10_out_24 rfl ?_
    refine ⟨?_, rfl, rfl, rfl⟩
    simp [sOut, *]
  · simp only [bi_0, Bool.not_eq_false] at h11
    refine al0 dX10_out_14 (by first | nofun | exact xrv_ne _) ?_
    refine rf_77 hX rfl dX10_out_15 ?_
    refine il1 dX10_out_18 ?_
    refine rb_23 hX dX10_out_19 (vi_pred hB.n29 (by decide) h11) ?_
    refine ex_goto 24 dX10_out_20 (by decide) ?_
    refine ex_iret dX10_out_24 rfl ?_
    refine ⟨?_, rfl, rfl, rfl⟩
    simp [sOut, *]
set_option maxRecDepth 20000 in
set_option maxHeartbeats 1000000 in
theorem r_clear {Γ : xGm} {l : Launch} {f : Nat} {G : xG} {D E : xD} {R : xR} (hX : xFix G R) : Cn Γ l f MX10_clear [.ref 17] G (mg D E) R 0 0 (xdet (some (.int (sClear E).1)) G (mg D (sClear E).2) R) := by
  refine cn_of MX10_clear_ok (Nat.le_of_ble_eq_true rfl) ?_
  show Ex Γ l f MX10_clear 0 [some (.ref 17), none] [] G (mg D E) R 0 0 _
  refine al0 dX10_clear_0 (by first | nofun | exact xrv_ne _) ?_
  refine rf_148 hX rfl dX10_clear_1 ?_
  refine is1 dX10_clear_4 ?_
  refine al0 dX10_clear_5 (by first | nofun | exact xrv_ne _) ?_
  refine ex_iconst (v := 0) dX10_clear_6 (by decide) ?_
  refine rp_148 hX rfl dX10_clear_7 ?_
  refine il1 dX10_clear_10 ?_
  refine ex_iret dX10_clear_11 rfl ?_
  exact ⟨rfl, rfl, rfl, rfl⟩
theorem vi_n2 {n : Int32} (h : sIn n 0 2 = true) : vp_in n 3 := vi_btw (a := 0) (x := 2) (A := 3) (vi_of (n := 2) (by decide) (by decide)) (sIn_t.mp h).1 (sIn_t.mp h).2 (by decide) (by decide)
set_option maxRecDepth 20000 in
set_option maxHeartbeats 1000000 in
theorem r_fault {Γ : xGm} {l : Launch} {f : Nat} {G : xG} {D E : xD} {R : xR} (hX : xFix G R) (hf : 1 ≤ f) (hB : RB E) {i w : Int32} : Cn Γ l f MX10_fault [.ref 17, .int i, .int w] G (mg D E) R 0 0 (xdet (some (.int (sFault E i w))) G (mg D E) R) := by
  refine cn_of MX10_fault_ok (Nat.le_of_ble_eq_true rfl) ?_
  show Ex Γ l f MX10_fault 0 [some (.ref 17), some (.int i), some (.int w)] [] G (mg D E) R 0 0 _
  refine il1 dX10_fault_0 ?_
  refine ex_iconst (v := 0) dX10_fault_1 (by decide) ?_
  refine al0 dX10_fault_2 (by first | nofun | exact xrv_ne _) ?_
  refine rf_145 hX rfl dX10_fault_3 ?_
  refine ex_iconst (v := 1) dX10_fault_6 (by decide) ?_
  refine ex_isub dX10_fault_7 ?_
  refine cd10_102 (f' := f - 1) rfl dX10_fault_8 (Nat.le_of_ble_eq_true rfl) (by omega) (r_in hX) ?_
  refine ex_if_eq 36 dX10_fault_11 (by decide) (fun h11 => ?_) (fun h11 => ?_)
  · simp only [bi_0, Bool.not_eq_false] at h11
    refine ex_iconst (v := (-1)) dX10_fault_36 (by decide) ?_
    refine ex_iret dX10_fault_37 rfl ?_
    refine ⟨?_, rfl, rfl, rfl⟩
    simp [sFault, *]
  · simp only [bi_0, Bool.not_eq_false] at h11
    refine il2 dX10_fault_14 ?_
    refine ex_iconst (v := 0) dX10_fault_15 (by decide) ?_
    refine ex_iconst (v := 2) dX10_fault_16 (by decide) ?_
    refine cd10_102 (f' := f - 1) rfl dX10_fault_17 (Nat.le_of_ble_eq_true rfl) (by omega) (r_in hX) ?_
    refine ex_if_eq 36 dX10_fault_20 (by decide) (fun h20 => ?_) (fun h20 => ?_)
    · simp only [bi_0, Bool.not_eq_false] at h20
      refine ex_iconst (v := (-1)) dX10_fault_36 (by decide) ?_
      refine ex_iret dX10_fault_37 rfl ?_
      refine ⟨?_, rfl, rfl, rfl⟩
      simp [sFault, *]
    · simp only [bi_0, Bool.not_eq_false] at h20
      refine al0 dX10_fault_23 (by first | nofun | exact xrv_ne _) ?_
      refine rf_74 hX rfl dX10_fault_24 ?_
      refine ex_iconst (v := 3) dX10_fault_27 (by decide) ?_
      refine il1 dX10_fault_28 ?_
      refine ex_imul dX10_fault_29 ?_
      refine il2 dX10_fault_30 ?_
      refine ex_iadd dX10_fault_31 ?_
      refine rb_22 hX dX10_fault_32 (vi_ln (N := 90) 3 (vi_pred hB.n27 (by decide) h11) (vi_n2 h20) (by decide) (by decide) (by decide) (by decide)).1 ?_
      refine ex_goto 37 dX10_fault_33 (by decide) ?_
      refine ex_iret dX10_fault_37 rfl ?_
      refine ⟨?_, rfl, rfl, rfl⟩
      simp [sFault, *]
