set_option maxRecDepth 20000 in
set_option maxHeartbeats 1000000 in
theorem r_count {Γ : xGm} {l : Launch} {f : Nat} {G : xG} {D E : xD} {R : xR} (hX : xFix G R) {w : Int32} : Cn Γ l f MX10_count [.ref 17, .int w] G (mg D E) R 0 0 (xdet (some (.int (sCountOf E w))) G (mg D E) R) := by
  refine cn_of MX10_count_ok (Nat.le_of_ble_eq_true rfl) ?_
  show Ex Γ l f MX10_count 0 [some (.ref 17), some (.int w)] [] G (mg D E) R 0 0 _
  refine il1 dX10_count_0 ?_
  refine ex_table 0 88 [48, 53, 58, 63, 68, 73, 78, 83] dX10_count_1 (by decide) (by decide) (by decide) (by decide) (by decide) ⟨fun h1 => ?_, fun h1 => ?_, fun h1 => ?_, fun h1 => ?_, fun h1 => ?_, fun h1 => ?_, fun h1 => ?_, fun h1 => ?_, trivial⟩ (fun h1 => ?_)
  · change _ = (0 : Int32) at h1
    refine al0 dX10_count_48 (by first | nofun | exact xrv_ne _) ?_
    refine rf_119 hX rfl dX10_count_49 ?_
    refine ex_iret dX10_count_52 rfl ?_
    refine ⟨?_, rfl, rfl, rfl⟩
    simp [sCountOf, *]
  · change _ = (1 : Int32) at h1
    refine al0 dX10_count_53 (by first | nofun | exact xrv_ne _) ?_
    refine rf_110 hX rfl dX10_count_54 ?_
    refine ex_iret dX10_count_57 rfl ?_
    refine ⟨?_, rfl, rfl, rfl⟩
    simp [sCountOf, *]
  · change _ = (2 : Int32) at h1
    refine al0 dX10_count_58 (by first | nofun | exact xrv_ne _) ?_
    refine rf_113 hX rfl dX10_count_59 ?_
    refine ex_iret dX10_count_62 rfl ?_
    refine ⟨?_, rfl, rfl, rfl⟩
    simp [sCountOf, *]
  · change _ = (3 : Int32) at h1
    refine al0 dX10_count_63 (by first | nofun | exact xrv_ne _) ?_
    refine rf_116 hX rfl dX10_count_64 ?_
    refine ex_iret dX10_count_67 rfl ?_
    refine ⟨?_, rfl, rfl, rfl⟩
    simp [sCountOf, *]
  · change _ = (4 : Int32) at h1
    refine al0 dX10_count_68 (by first | nofun | exact xrv_ne _) ?_
    refine rf_145 hX rfl dX10_count_69 ?_
    refine ex_iret dX10_count_72 rfl ?_
    refine ⟨?_, rfl, rfl, rfl⟩
    simp [sCountOf, *]
  · change _ = (5 : Int32) at h1
    refine al0 dX10_count_73 (by first | nofun | exact xrv_ne _) ?_
    refine rf_148 hX rfl dX10_count_74 ?_
    refine ex_iret dX10_count_77 rfl ?_
    refine ⟨?_, rfl, rfl, rfl⟩
    simp [sCountOf, *]
  · change _ = (6 : Int32) at h1
    refine al0 dX10_count_78 (by first | nofun | exact xrv_ne _) ?_
    refine rf_220 hX rfl dX10_count_79 ?_
    refine ex_iret dX10_count_82 rfl ?_
    refine ⟨?_, rfl, rfl, rfl⟩
    simp [sCountOf, *]
  · change _ = (7 : Int32) at h1
    refine al0 dX10_count_83 (by first | nofun | exact xrv_ne _) ?_
    refine rf_106 hX rfl dX10_count_84 ?_
    refine ex_iret dX10_count_87 rfl ?_
    refine ⟨?_, rfl, rfl, rfl⟩
    simp [sCountOf, *]
  · obtain ⟨h1_0, h1_1, h1_2, h1_3, h1_4, h1_5, h1_6, h1_7, -⟩ := h1
    change ¬ _ = (0 : Int32) at h1_0
    change ¬ _ = (1 : Int32) at h1_1
    change ¬ _ = (2 : Int32) at h1_2
    change ¬ _ = (3 : Int32) at h1_3
    change ¬ _ = (4 : Int32) at h1_4
    change ¬ _ = (5 : Int32) at h1_5
    change ¬ _ = (6 : Int32) at h1_6
    change ¬ _ = (7 : Int32) at h1_7
    refine ex_iconst (v := (-1)) dX10_count_88 (by decide) ?_
    refine ex_iret dX10_count_89 rfl ?_
    refine ⟨?_, rfl, rfl, rfl⟩
    simp [sCountOf, *]
theorem sMeta_5 {E : xD} {v : Int32} (h : sMeta E v = 5) : 301 ≤ v ∧ v ≤ 300 + E 0 11 := by
  unfold sMeta at h
  split at h
  · split at h
    · exact absurd h (by decide)
    · split at h <;> exact absurd h (by decide)
  · split at h
    · exact absurd h (by decide)
    · split at h
      · exact absurd h (by decide)
      · split at h
        next q => exact sIn_t.mp q
        next => exact absurd h (by decide)
theorem vi_off {v x : Int32} {b N : Nat} (hx : vp_in x (N + 1)) (hN : N < 2 ^ 20) (hb : b < 2 ^ 20) (h1 : nI (b + 1) ≤ v) (h2 : v ≤ nI b + x) : vp_in (v - nI (b + 1)) N := by
  obtain ⟨e3, l3⟩ := vi_n hx (by omega)
  have e1 : (nI b + x : Int32) = nI (b + ix x) := by
    conv => lhs; rw [e3]
    rw [nI_add]
  rw [e1] at h2
  have h0 : ¬ v < 0 := fun q => by
    rw [i32_le, nI_toInt (by omega)] at h1
    rw [Int32.lt_iff_toInt_lt] at q
    have : (0 : Int32).toInt = 0 := rfl
    omega
  obtain ⟨j, hj, rfl⟩ := nI_of h0
  have g1 := (nI_leI (by omega) hj).mp h1
  have g2 := (nI_leI hj (by omega)).mp h2
  rw [pk_sub g1]
  exact vi_of (by omega) (by omega)
theorem vi_arr {E : xD} (hB : RB E) {v : Int32} (h : sMeta E v = 5) : vp_in (v - 301) 10 := vi_off (b := 300) hB.n11 (by decide) (by decide) (sMeta_5 h).1 (sMeta_5 h).2
set_option maxRecDepth 20000 in
set_option maxHeartbeats 1000000 in
theorem r_isWrongWord {Γ : xGm} {l : Launch} {f : Nat} {G : xG} {D E : xD} {R : xR} (hX : xFix G R) (hf : 2 ≤ f) (hB : RB E) {a i m : Int32} : Cn Γ l f MX10_isWrongWord [.ref 17, .int a, .int i, .int m] G (mg D E) R 0 0 (xdet (some (.int (bi (sWrongWord E a i m).1))) G (mg D (sWrongWord E a i m).2) R) := by
  refine cn_of MX10_isWrongWord_ok (Nat.le_of_ble_eq_true rfl) ?_
  show Ex Γ l f MX10_isWrongWord 0 [some (.ref 17), some (.int a), some (.int i), some (.int m)] [] G (mg D E) R 0 0 _
  refine al0 dX10_isWrongWord_0 (by first | nofun | exact xrv_ne _) ?_
  refine il1 dX10_isWrongWord_1 ?_
  refine cd10_141 (f' := f - 1) rfl dX10_isWrongWord_2 (Nat.le_of_ble_eq_true rfl) (fx17 hX) (by omega) (r_meta hX (by omega) hB) ?_
  refine ex_iconst (v := 5) dX10_isWrongWord_5 (by decide) ?_
  refine ex_icmp_eq 26 dX10_isWrongWord_6 (by decide) (fun h6 => ?_) (fun h6 => ?_)
  · refine il2 dX10_isWrongWord_26 ?_
    refine ex_iconst (v := 0) dX10_isWrongWord_27 (by decide) ?_
    refine il3 dX10_isWrongWord_28 ?_
    refine al0 dX10_isWrongWord_29 (by first | nofun | exact xrv_ne _) ?_
    refine rf_31 hX rfl dX10_isWrongWord_30 ?_
    refine il1 dX10_isWrongWord_33 ?_
    refine ex_sipush (v := 301) dX10_isWrongWord_34 (by decide) ?_
    refine ex_isub dX10_isWrongWord_37 ?_
    refine rb_8 hX dX10_isWrongWord_38 (vi_arr hB h6) ?_
    refine ex_imul dX10_isWrongWord_39 ?_
    refine ex_iconst (v := 1) dX10_isWrongWord_40 (by decide) ?_
    refine ex_isub dX10_isWrongWord_41 ?_
    refine cd10_102 (f' := f - 1) rfl dX10_isWrongWord_42 (Nat.le_of_ble_eq_true rfl) (by omega) (r_in hX) ?_
    refine ex_if_ne 63 dX10_isWrongWord_45 (by decide) (fun h45 => ?_) (fun h45 => ?_)
    · simp only [bi_0, Bool.not_eq_false] at h45
      refine ex_iconst (v := 0) dX10_isWrongWord_63 (by decide) ?_
      refine ex_zret dX10_isWrongWord_64 rfl (by decide) ?_
      refine ⟨?_, rfl, ?_, rfl⟩ <;> simp [sWrongWord, bi, *]
    · simp only [bi_0, Bool.not_eq_false] at h45
      refine al0 dX10_isWrongWord_48 (by first | nofun | exact xrv_ne _) ?_
      refine ex_bipush (v := 12) dX10_isWrongWord_49 (by decide) ?_
      refine il1 dX10_isWrongWord_51 ?_
      refine il2 dX10_isWrongWord_52 ?_
      refine cd10_174 (f' := f - 1) rfl dX10_isWrongWord_53 (Nat.le_of_ble_eq_true rfl) (fx17 hX) (by omega) (r_fails hX hB.n27) ?_
      refine ex_if_ne 63 dX10_isWrongWord_56 (by decide) (fun h56 => ?_) (fun h56 => ?_)
      · exact absurd rfl h56
      · refine ex_iconst (v := 1) dX10_isWrongWord_59 (by decide) ?_
        refine ex_goto 64 dX10_isWrongWord_60 (by decide) ?_
        refine ex_zret dX10_isWrongWord_64 rfl (by decide) ?_
        refine ⟨?_, rfl, ?_, rfl⟩ <;> simp [sWrongWord, bi, *]
  · refine al0 dX10_isWrongWord_9 (by first | nofun | exact xrv_ne _) ?_
    refine ex_bipush (v := 14) dX10_isWrongWord_10 (by decide) ?_
    refine il1 dX10_isWrongWord_12 ?_
    refine il2 dX10_isWrongWord_13 ?_
    refine cd10_174 (f' := f - 1) rfl dX10_isWrongWord_14 (Nat.le_of_ble_eq_true rfl) (fx17 hX) (by omega) (r_fails hX hB.n27) ?_
    refine ex_if_ne 24 dX10_isWrongWord_17 (by decide) (fun h17 => ?_) (fun h17 => ?_)
    · exact absurd rfl h17
    · refine ex_iconst (v := 1) dX10_isWrongWord_20 (by decide) ?_
      refine ex_goto 25 dX10_isWrongWord_21 (by decide) ?_
      refine ex_zret dX10_isWrongWord_25 rfl (by decide) ?_
      refine ⟨?_, rfl, ?_, rfl⟩ <;> simp [sWrongWord, bi, *]
theorem sWrong_w {E : xD} (hB : RB E) {a i m : Int32} (h : (sWrongWord E a i m).1 = false) : vp_in (a - 301) 10 ∧ sIn i 0 (m * E 8 (ix (a - 301)) - 1) = true ∧ (sWrongWord E a i m).2 = E := by
  unfold sWrongWord at h ⊢
  split at h
  · cases h
  next h5 =>
    have h5 : sMeta E a = 5 := Decidable.not_not.mp h5
    split at h
    next hs => exact ⟨vi_arr hB h5, hs, by rw [if_neg (fun q => q h5), if_pos hs]⟩
    next => cases h
theorem vi_word {E : xD} (hB : RB E) {a i : Int32} (h : (sWrongWord E a i 1).1 = false) : vp_in (10 * (a - 301) + i) 100 := by
  obtain ⟨h1, h2, -⟩ := sWrong_w hB h
  rw [Int32.one_mul] at h2
  exact (vi_ln (N := 100) 10 h1 (vi_pred (N := 10) (hB.a8 (vi_n h1 (by decide)).2) (by decide) h2) (by decide) (by decide) (by decide) (by decide)).1
theorem vi_byte {E : xD} (hB : RB E) {a i : Int32} (h : (sWrongWord E a i 4).1 = false) : vp_in i 40 ∧ vp_in (10 * (a - 301) + i / 4) 100 := by
  obtain ⟨h1, h2, -⟩ := sWrong_w hB h
  have h8 := hB.a8 (vi_n h1 (by decide)).2
  have hi : vp_in i 40 := vi_pred (N := 40) (vi_sc (N := 41) 4 h8 (by decide) (by decide) (by decide)).1 (by decide) h2
  obtain ⟨ei, li⟩ := vi_n hi (by decide)
  have hd : vp_in (i / 4) 10 := by
    rw [ei, show (4 : Int32) = nI 4 from rfl, pk_div (by omega) (by decide) (by decide)]
    exact vi_of (by omega) (by decide)
  exact ⟨hi, (vi_ln (N := 100) 10 h1 hd (by decide) (by decide) (by decide) (by decide)).1⟩
set_option maxRecDepth 20000 in
set_option maxHeartbeats 1000000 in
theorem r_word {Γ : xGm} {l : Launch} {f : Nat} {G : xG} {D E : xD} {R : xR} (hX : xFix G R) (hf : 3 ≤ f) (hB : RB E) {a i : Int32} : Cn Γ l f MX10_word [.ref 17, .int a, .int i] G (mg D E) R 0 0 (xdet (some (.int (sWord E a i).1)) G (mg D (sWord E a i).2) R) := by
  refine cn_of MX10_word_ok (Nat.le_of_ble_eq_true rfl) ?_
  show Ex Γ l f MX10_word 0 [some (.ref 17), some (.int a), some (.int i)] [] G (mg D E) R 0 0 _
  refine al0 dX10_word_0 (by first | nofun | exact xrv_ne _) ?_
  refine il1 dX10_word_1 ?_
  refine il2 dX10_word_2 ?_
  refine ex_iconst (v := 1) dX10_word_3 (by decide) ?_
  refine cd10_265 (f' := f - 1) rfl dX10_word_4 (Nat.le_of_ble_eq_true rfl) (fx17 hX) (by omega) (r_isWrongWord hX (by omega) hB) ?_
  refine ex_if_eq 14 dX10_word_7 (by decide) (fun h7 => ?_) (fun h7 => ?_)
  · simp only [bi_0, Bool.not_eq_false] at h7
    rw [(sWrong_w hB h7).2.2]
    refine al0 dX10_word_14 (by first | nofun | exact xrv_ne _) ?_
    refine rf_34 hX rfl dX10_word_15 ?_
    refine ex_bipush (v := 10) dX10_word_18 (by decide) ?_
    refine il1 dX10_word_20 ?_
    refine ex_sipush (v := 301) dX10_word_21 (by decide) ?_
    refine ex_isub dX10_word_24 ?_
    refine ex_imul dX10_word_25 ?_
    refine il2 dX10_word_26 ?_
    refine ex_iadd dX10_word_27 ?_
    refine rb_9 hX dX10_word_28 (vi_word hB h7) ?_
    refine ex_iret dX10_word_29 rfl ?_
    refine ⟨?_, rfl, ?_, rfl⟩ <;> simp [sWord, *]
  · simp only [bi_0, Bool.not_eq_false] at h7
    refine ex_iconst (v := 0) dX10_word_10 (by decide) ?_
    refine ex_goto 29 dX10_word_11 (by decide) ?_
    refine ex_iret dX10_word_29 rfl ?_
    refine ⟨?_, rfl, ?_, rfl⟩ <;> simp [sWord, *]
set_option maxRecDepth 20000 in
set_option maxHeartbeats 1000000 in
theorem r_setWord {Γ : xGm} {l : Launch} {f : Nat} {G : xG} {D E : xD} {R : xR} (hX : xFix G R) (hf : 3 ≤ f) (hB : RB E) {a i v : Int32} : Cn Γ l f MX10_setWord [.ref 17, .int a, .int i, .int v] G (mg D E) R 0 0 (xdet (some (.int (sSetWord E a i v).1)) G (mg D (sSetWord E a i v).2) R) := by
  refine cn_of MX10_setWord_ok (Nat.le_of_ble_eq_true rfl) ?_
  show Ex Γ l f MX10_setWord 0 [some (.ref 17), some (.int a), some (.int i), some (.int v)] [] G (mg D E) R 0 0 _
  refine al0 dX10_setWord_0 (by first | nofun | exact xrv_ne _) ?_
  refine il1 dX10_setWord_1 ?_
  refine il2 dX10_setWord_2 ?_
  refine ex_iconst (v := 1) dX10_setWord_3 (by decide) ?_
  refine cd10_265 (f' := f - 1) rfl dX10_setWord_4 (Nat.le_of_ble_eq_true rfl) (fx17 hX) (by omega) (r_isWrongWord hX (by omega) hB) ?_
  refine ex_if_eq 12 dX10_setWord_7 (by decide) (fun h7 => ?_) (fun h7 => ?_)
  · simp only [bi_0, Bool.not_eq_false] at h7
    rw [(sWrong_w hB h7).2.2]
    refine al0 dX10_setWord_12 (by first | nofun | exact xrv_ne _) ?_
    refine rf_34 hX rfl dX10_setWord_13 ?_
    refine ex_bipush (v := 10) dX10_setWord_16 (by decide) ?_
    refine il1 dX10_setWord_18 ?_
    refine ex_sipush (v := 301) dX10_setWord_19 (by decide) ?_
    refine ex_isub dX10_setWord_22 ?_
    refine ex_imul dX10_setWord_23 ?_
    refine il2 dX10_setWord_24 ?_
    refine ex_iadd dX10_setWord_25 ?_
    refine il3 dX10_setWord_26 ?_
    refine rt_9 hX dX10_setWord_27 (vi_word hB h7) ?_
    refine il3 dX10_setWord_28 ?_
    refine ex_iret dX10_setWord_29 rfl ?_
    refine ⟨?_, rfl, ?_, rfl⟩ <;> simp [sSetWord, *]
  · simp only [bi_0, Bool.not_eq_false] at h7
    refine ex_iconst (v := 0) dX10_setWord_10 (by decide) ?_
    refine ex_iret dX10_setWord_11 rfl ?_
    refine ⟨?_, rfl, ?_, rfl⟩ <;> simp [sSetWord, *]
set_option maxRecDepth 20000 in
set_option maxHeartbeats 1000000 in
theorem r_byteOf {Γ : xGm} {l : Launch} {f : Nat} {G : xG} {D E : xD} {R : xR} (hX : xFix G R) (hf : 3 ≤ f) (hB : RB E) {a i : Int32} : Cn Γ l f MX10_byteOf [.ref 17, .int a, .int i] G (mg D E) R 0 0 (xdet (some (.int (sByteOf E a i).1)) G (mg D (sByteOf E a i).2) R) := by
  refine cn_of MX10_byteOf_ok (Nat.le_of_ble_eq_true rfl) ?_
  show Ex Γ l f MX10_byteOf 0 [some (.ref 17), some (.int a), some (.int i)] [] G (mg D E) R 0 0 _
  refine al0 dX10_byteOf_0 (by first | nofun | exact xrv_ne _) ?_
  refine il1 dX10_byteOf_1 ?_
  refine il2 dX10_byteOf_2 ?_
  refine ex_iconst (v := 4) dX10_byteOf_3 (by decide) ?_
  refine cd10_265 (f' := f - 1) rfl dX10_byteOf_4 (Nat.le_of_ble_eq_true rfl) (fx17 hX) (by omega) (r_isWrongWord hX (by omega) hB) ?_
  refine ex_if_eq 14 dX10_byteOf_7 (by decide) (fun h7 => ?_) (fun h7 => ?_)
  · simp only [bi_0, Bool.not_eq_false] at h7
    rw [(sWrong_w hB h7).2.2]
    refine al0 dX10_byteOf_14 (by first | nofun | exact xrv_ne _) ?_
    refine rf_34 hX rfl dX10_byteOf_15 ?_
    refine ex_bipush (v := 10) dX10_byteOf_18 (by decide) ?_
    refine il1 dX10_byteOf_20 ?_
    refine ex_sipush (v := 301) dX10_byteOf_21 (by decide) ?_
    refine ex_isub dX10_byteOf_24 ?_
    refine ex_imul dX10_byteOf_25 ?_
    refine il2 dX10_byteOf_26 ?_
    refine ex_iconst (v := 4) dX10_byteOf_27 (by decide) ?_
    refine ex_idiv dX10_byteOf_28 (by decide) ?_
    refine ex_iadd dX10_byteOf_29 ?_
    refine rb_9 hX dX10_byteOf_30 (vi_byte hB h7).2 ?_
    refine ex_bipush (v := 24) dX10_byteOf_31 (by decide) ?_
    refine ex_bipush (v := 8) dX10_byteOf_33 (by decide) ?_
    refine il2 dX10_byteOf_35 ?_
    refine ex_iconst (v := 4) dX10_byteOf_36 (by decide) ?_
    refine ex_irem dX10_byteOf_37 (by decide) ?_
    refine ex_imul dX10_byteOf_38 ?_
    refine ex_isub dX10_byteOf_39 ?_
    refine ex_ishr dX10_byteOf_40 ?_
    refine ex_sipush (v := 255) dX10_byteOf_41 (by decide) ?_
    refine ex_iand dX10_byteOf_44 ?_
    refine ex_iret dX10_byteOf_45 rfl ?_
    refine ⟨?_, rfl, ?_, rfl⟩ <;> simp [sByteOf, *]
  · simp only [bi_0, Bool.not_eq_false] at h7
    refine ex_iconst (v := 0) dX10_byteOf_10 (by decide) ?_
    refine ex_goto 45 dX10_byteOf_11 (by decide) ?_
    refine ex_iret dX10_byteOf_45 rfl ?_
    refine ⟨?_, rfl, ?_, rfl⟩ <;> simp [sByteOf, *]
theorem sArticle_ne {E : xD} {x a : Int32} {j : Nat} (h0 : j ≠ 0) (h23 : j ≠ 23) : sArticle E x a j = E j := by
  unfold sArticle
  split
  · rw [sSay_ne h0 h23]
    split
    · rw [sSay_ne h0 h23, sSay_ne h0 h23]
    · rw [sSay_ne h0 h23]
  · split
    · rw [sSay_ne h0 h23, sSay_ne h0 h23, sSay_ne h0 h23, sSay_ne h0 h23]
    · rfl
theorem sArticle_29 {E : xD} {x a : Int32} (h : vp_in (E 0 29) 401) : vp_in (sArticle E x a 0 29) 401 := by
  unfold sArticle
  split
  · apply sSay_29
    split
    · exact sSay_29 (sSay_29 h)
    · exact sSay_29 h
  · split
    · exact sSay_29 (sSay_29 (sSay_29 (sSay_29 h)))
    · exact h
theorem sName_t {E : xD} (hB : RB E) {v : Int32} (h : ¬ (¬ sMeta E v = 1 ∧ ¬ sMeta E v = 2)) (h0 : ¬ E 17 (ix v) = 0) : vp_in (E 17 (ix v) - 101) 20 ∧ vp_in (E 2 (ix (E 17 (ix v) - 101))) 21 := by
  have h1 := vi_text hB ((hB.a17 (vi_lt41 (hB.in14 (sMeta_in h)))).resolve_left h0)
  exact ⟨h1, hB.a2 (vi_n h1 (by decide)).2⟩
