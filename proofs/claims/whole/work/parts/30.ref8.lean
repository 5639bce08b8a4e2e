theorem isC_iff {E : xD} {x : Int32} : sIsClass E x = true ↔ isC E x := by simp [sIsClass, isC]
theorem nI_T {E : xD} (h : LN E) : E 0 14 + 1 = nI (ix (E 0 14) + 1) := by
  conv => lhs; rw [h.n.1]
  exact nI_1 _
set_option maxRecDepth 20000 in
set_option maxHeartbeats 1000000 in
theorem r_pool_lp {Γ : xGm} {l : Launch} {f : Nat} {G : xG} {D : xD} {R : xR} (hX : xFix G R) (hf : 2 ≤ f) {c : Nat} {p : Int32} {a b : Option Value} : ∀ (n k : Nat) (E : xD) (hN : LN E) (hT : ix (E 0 14) + n ≤ 40) (hc : c ≤ ix (E 0 14)) (hp : p = nI (k + n)) (hkn : k + n ≤ 40) (z : Option Value), Ex Γ l f MX10_group 96 [some (.ref 17), a, b, some (.int p), some (.int (nI c)), some (.int (nI k)), z] [] G (mg D E) R 0 0 (xdet (some (.int (nI c))) G (mg D (sPool E (nI c) n)) R) := by
  intro n
  induction n with
  | zero =>
    intro k E hN hT hc hp hkn z
    refine il5 dX10_group_96 ?_
    refine il3 dX10_group_98 ?_
    refine ex_icmp_ge 129 dX10_group_99 (by decide) (fun h99 => ?_) (fun h99 => ?_)
    · refine il4 dX10_group_129 ?_
      refine ex_iret dX10_group_131 rfl ?_
      exact ⟨rfl, rfl, rfl, rfl⟩
    · exact absurd (by rw [hp]; exact nI_le (by omega) (by omega)) h99
  | succ n ih =>
    intro k E hN hT hc hp hkn z
    have e1 := nI_T hN
    obtain ⟨n1, en, e0⟩ := sNew_LN (b := 0) hN (by omega)
    obtain ⟨n2, s2⟩ := sJoin_LN (t := ix (E 0 14) + 1) (g := c) n1 (by rw [e0, ix_nI (by omega)]; omega) (by omega) (by omega)
    obtain ⟨n3, s3⟩ := sRows_LN (o := ix (E 0 14) + 1) n2 (by omega)
    have e3 : sRows (sJoin (sNew E 0) (nI (ix (E 0 14) + 1)) (nI c)) (nI (ix (E 0 14) + 1)) 0 14 = nI (ix (E 0 14) + 1) := by
      rw [s3 0 (by decide) (by decide), s2.1 0 (by decide) (by decide)]
      exact e0
    refine il5 dX10_group_96 ?_
    refine il3 dX10_group_98 ?_
    refine ex_icmp_ge 129 dX10_group_99 (by decide) (fun h99 => ?_) (fun h99 => ?_)
    · exact absurd h99 (by rw [hp]; exact nI_ge (by omega) (by omega))
    · refine al0 dX10_group_102 (by first | nofun | exact xrv_ne _) ?_
      refine ex_iconst (v := 0) dX10_group_103 (by decide) ?_
      refine cd10_130 (f' := f - 1) rfl dX10_group_104 (Nat.le_of_ble_eq_true rfl) (fx17 hX) (by omega) (r_newThing hX (by rw [e1]; exact vi_of (by omega) (by decide)) (Or.inl rfl)) ?_
      rw [e1]
      refine is6 dX10_group_107 ?_
      refine al0 dX10_group_109 (by first | nofun | exact xrv_ne _) ?_
      refine il6 dX10_group_110 ?_
      refine il4 dX10_group_112 ?_
      refine cd10_134 (f' := f - 1) rfl dX10_group_114 (Nat.le_of_ble_eq_true rfl) (fx17 hX) (by omega) (r_joinLine hX (by omega) (t := ix (E 0 14) + 1) (g := c) (by omega) (by omega) (by omega) (n1.2.2 _ (by omega)).1 (fun _ => (n1.2.2 _ (by omega)).1)) ?_
      refine al0 dX10_group_117 (by first | nofun | exact xrv_ne _) ?_
      refine il6 dX10_group_118 ?_
      refine cd10_137 (f' := f - 1) rfl dX10_group_120 (Nat.le_of_ble_eq_true rfl) (fx17 hX) (by omega) (r_rowsAnew hX (o := ix (E 0 14) + 1) (by omega) n2.2.1 (n2.2.2 _ (by omega)).1 (n2.no (by omega) (by rw [s2.1 10 (by decide) (by decide), en, xdu_self, upd_self]))) ?_
      refine ic5 (nI (k + 1)) dX10_group_123 (nI_1 k) ?_
      refine ex_goto 96 dX10_group_126 (by decide) ?_
      rw [show sPool E (nI c) (n + 1) = sPool (sRows (sJoin (sNew E 0) (nI (ix (E 0 14) + 1)) (nI c)) (nI (ix (E 0 14) + 1))) (nI c) n by rw [sPool, sPool1, e1]]
      exact ih (k + 1) _ n3 (by rw [e3, ix_nI (by omega)]; omega) (by rw [e3, ix_nI (by omega)]; omega) (by rw [hp]; congr 1; omega) (by omega) _
set_option maxRecDepth 20000 in
set_option maxHeartbeats 1000000 in
theorem r_group_27 {Γ : xGm} {l : Launch} {f : Nat} {G : xG} {D : xD} {R : xR} (hX : xFix G R) (hf : 2 ≤ f) {E : xD} (hN : LN E) {ga gb : Nat} (hga : ga < 41) (hgb : gb < 41) (ha : nI ga = 0 ∨ isC E (nI ga)) (hb : nI gb = 0 ∨ isC E (nI gb)) {p : Int32} : Ex Γ l f MX10_group 27 [some (.ref 17), some (.int (nI ga)), some (.int (nI gb)), some (.int p), none, none, none] [] G (mg D E) R 0 0 (xdet (some (.int (sGroup E (nI ga) (nI gb) p).1)) G (mg D (sGroup E (nI ga) (nI gb) p).2) R) := by
  have hcond : ¬ ((¬ nI ga = 0 ∧ sIsClass E (nI ga) = false) ∨ (¬ nI gb = 0 ∧ sIsClass E (nI gb) = false)) := by
    rintro (⟨q1, q2⟩ | ⟨q1, q2⟩)
    · rw [isC_iff.mpr (ha.resolve_left q1)] at q2; cases q2
    · rw [isC_iff.mpr (hb.resolve_left q1)] at q2; cases q2
  have hn := hN.n
  have e1 := nI_T hN
  have la : ga ≤ ix (E 0 14) := by
    rcases ha with q | q
    · have := congrArg ix q
      rw [ix_nI (by omega)] at this
      rw [this]; exact Nat.zero_le _
    · have := (isC_n hN.1 q).2.2.1
      rw [ix_nI (by omega)] at this
      exact this
  have lb : gb ≤ ix (E 0 14) := by
    rcases hb with q | q
    · have := congrArg ix q
      rw [ix_nI (by omega)] at this
      rw [this]; exact Nat.zero_le _
    · have := (isC_n hN.1 q).2.2.1
      rw [ix_nI (by omega)] at this
      exact this
  unfold sGroup
  rw [if_neg hcond]
  refine il3 dX10_group_27 ?_
  refine ex_iconst (v := 0) dX10_group_28 (by decide) ?_
  refine ex_bipush (v := 6) dX10_group_29 (by decide) ?_
  refine cd10_102 (f' := f - 1) rfl dX10_group_31 (Nat.le_of_ble_eq_true rfl) (by omega) (r_in hX) ?_
  refine ex_if_ne 40 dX10_group_34 (by decide) (fun h34 => ?_) (fun h34 => ?_)
  · simp only [bi_0, Bool.not_eq_false] at h34
    refine al0 dX10_group_40 (by first | nofun | exact xrv_ne _) ?_
    refine rf_119 hX rfl dX10_group_41 ?_
    refine ex_iconst (v := 1) dX10_group_44 (by decide) ?_
    refine ex_iadd dX10_group_45 ?_
    refine il3 dX10_group_46 ?_
    refine ex_iadd dX10_group_47 ?_
    refine ex_bipush (v := 40) dX10_group_48 (by decide) ?_
    refine ex_icmp_le 56 dX10_group_50 (by decide) (fun h50 => ?_) (fun h50 => ?_)
    · have hp : vp_in p 7 := vi_btw (a := 0) (x := 6) (A := 7) (vi_of (n := 6) (by decide) (by decide)) (sIn_t.mp h34).1 (sIn_t.mp h34).2 (by decide) (by decide)
      obtain ⟨ep, lp⟩ := vi_n hp (by decide)
      have hT : ix (E 0 14) + 1 + ix p ≤ 40 := by
        have q := h50
        rw [e1, ep, nI_add] at q
        exact (nI_leI (by omega) (by decide)).mp q
      rw [if_neg (by rw [h34]; decide), if_neg (fun q => q h50), e1]
      obtain ⟨n1, en, e0⟩ := sNew_LN (b := 1) hN (by omega)
      have c1 : isC (sNew E 1) (nI (ix (E 0 14) + 1)) := ⟨sIn_t.mpr ⟨nI_le (a := 1) (by omega) (by omega), by rw [e0]; exact nI_le (Nat.le_refl _) (by omega)⟩, by rw [ix_nI (by omega), en, xdu_self, upd_self]; decide⟩
      obtain ⟨n2, s2⟩ := sAddTo_LN (t := ix (E 0 14) + 1) n1 (by rw [e0, ix_nI (by omega)]; omega) c1 (by omega)
      have e02 : sAddTo (sNew E 1) (nI (ix (E 0 14) + 1)) (nI (ix (E 0 14) + 1)) 0 14 = nI (ix (E 0 14) + 1) := by rw [s2.1 0 (by decide) (by decide)]; exact e0
      obtain ⟨n3, s3⟩ := sJoin_LN (t := ix (E 0 14) + 1) (g := ga) n2 (by rw [e02, ix_nI (by omega)]; omega) hga (by omega)
      have e03 := (congrFun (s3.1 0 (by decide) (by decide)) 14).trans e02
      obtain ⟨n4, s4⟩ := sJoin_LN (t := ix (E 0 14) + 1) (g := gb) n3 (by rw [e03, ix_nI (by omega)]; omega) hgb (by omega)
      have e04 := (congrFun (s4.1 0 (by decide) (by decide)) 14).trans e03
      refine al0 dX10_group_56 (by first | nofun | exact xrv_ne _) ?_
      refine ex_iconst (v := 1) dX10_group_57 (by decide) ?_
      refine cd10_130 (f' := f - 1) rfl dX10_group_58 (Nat.le_of_ble_eq_true rfl) (fx17 hX) (by omega) (r_newThing hX (by rw [e1]; exact vi_of (by omega) (by decide)) (Or.inr rfl)) ?_
      rw [e1]
      refine is4 dX10_group_61 ?_
      refine al0 dX10_group_63 (by first | nofun | exact xrv_ne _) ?_
      refine il4 dX10_group_64 ?_
      refine il4 dX10_group_66 ?_
      refine cd10_122 (f' := f - 1) rfl dX10_group_68 (Nat.le_of_ble_eq_true rfl) (fx17 hX) (by omega) (r_addToLine hX (vi_of (by omega) (by decide)) (by rw [ix_nI (by omega)]; exact (n1.2.2 _ (by omega)).1.1)) ?_
      refine al0 dX10_group_71 (by first | nofun | exact xrv_ne _) ?_
      refine il4 dX10_group_72 ?_
      refine il1 dX10_group_74 ?_
      refine cd10_134 (f' := f - 1) rfl dX10_group_75 (Nat.le_of_ble_eq_true rfl) (fx17 hX) (by omega) (r_joinLine hX (by omega) (t := ix (E 0 14) + 1) (g := ga) (by omega) hga (by omega) (n2.2.2 _ (by omega)).1 (fun _ => (n2.2.2 _ hga).1)) ?_
      refine al0 dX10_group_78 (by first | nofun | exact xrv_ne _) ?_
      refine il4 dX10_group_79 ?_
      refine il2 dX10_group_81 ?_
      refine cd10_134 (f' := f - 1) rfl dX10_group_82 (Nat.le_of_ble_eq_true rfl) (fx17 hX) (by omega) (r_joinLine hX (by omega) (t := ix (E 0 14) + 1) (g := gb) (by omega) hgb (by omega) (n3.2.2 _ (by omega)).1 (fun _ => (n3.2.2 _ hgb).1)) ?_
      refine al0 dX10_group_85 (by first | nofun | exact xrv_ne _) ?_
      refine rf_44 hX rfl dX10_group_86 ?_
      refine il4 dX10_group_89 ?_
      refine il3 dX10_group_91 ?_
      refine rt_12 hX dX10_group_92 (vi_of (by omega) (by decide)) ?_
      refine ex_iconst (v := 0) dX10_group_93 (by decide) ?_
      refine is5 dX10_group_94 ?_
      have n5 := n4.same (E' := xdu (sJoin (sJoin (sAddTo (sNew E 1) (nI (ix (E 0 14) + 1)) (nI (ix (E 0 14) + 1))) (nI (ix (E 0 14) + 1)) (nI ga)) (nI (ix (E 0 14) + 1)) (nI gb)) 12 (ix (nI (ix (E 0 14) + 1))) p) (by rw [xdu_ne _ _ _ (by decide)]) (xdu_ne _ _ _ (by decide)) (xdu_ne _ _ _ (by decide)) (xdu_ne _ _ _ (by decide)) (by rw [xdu_ne _ _ _ (by decide)]; exact n4.2.1)
      exact r_pool_lp hX hf (ix p) 0 _ n5 (by rw [xdu_ne _ _ _ (by decide), e04, ix_nI (by omega)]; omega) (by rw [xdu_ne _ _ _ (by decide), e04, ix_nI (by omega)]; omega) (by rw [Nat.zero_add]; exact ep) (by omega) _
    · refine ex_bipush (v := (-4)) dX10_group_53 (by decide) ?_
      refine ex_iret dX10_group_55 rfl ?_
      refine ⟨?_, rfl, ?_, rfl⟩ <;> rw [if_neg (by rw [h34]; decide), if_pos h50]
  · simp only [bi_0, Bool.not_eq_false] at h34
    refine ex_bipush (v := (-3)) dX10_group_37 (by decide) ?_
    refine ex_iret dX10_group_39 rfl ?_
    refine ⟨?_, rfl, ?_, rfl⟩ <;> simp [h34]
theorem okc_n {E : xD} (hN : LN E) {a : Int32} (h : a = 0 ∨ sIsClass E a = true) : ∃ g, a = nI g ∧ g < 41 ∧ (nI g = 0 ∨ isC E (nI g)) := by
  rcases h with rfl | h
  · exact ⟨0, rfl, by decide, Or.inl rfl⟩
  · have h2 := isC_iff.mp h
    obtain ⟨q1, q2, q3, q4⟩ := isC_n hN.1 h2
    exact ⟨ix a, q1, by omega, Or.inr (by rw [← q1]; exact h2)⟩
set_option maxRecDepth 20000 in
set_option maxHeartbeats 1000000 in
theorem r_group {Γ : xGm} {l : Launch} {f : Nat} {G : xG} {D E : xD} {R : xR} (hX : xFix G R) (hf : 2 ≤ f) (hB : RB E) (hN : LN E) {a b p : Int32} : Cn Γ l f MX10_group [.ref 17, .int a, .int b, .int p] G (mg D E) R 0 0 (xdet (some (.int (sGroup E a b p).1)) G (mg D (sGroup E a b p).2) R) := by
  refine cn_of MX10_group_ok (Nat.le_of_ble_eq_true rfl) ?_
  show Ex Γ l f MX10_group 0 [some (.ref 17), some (.int a), some (.int b), some (.int p), none, none, none] [] G (mg D E) R 0 0 _
  refine il1 dX10_group_0 ?_
  refine ex_if_eq 12 dX10_group_1 (by decide) (fun h1 => ?_) (fun h1 => ?_)
  · refine il2 dX10_group_12 ?_
    refine ex_if_eq 27 dX10_group_13 (by decide) (fun h13 => ?_) (fun h13 => ?_)
    · obtain ⟨ga, ea, hga, ca⟩ := okc_n hN (a := a) (by first | exact Or.inl (by assumption) | exact Or.inr (by assumption))
      obtain ⟨gb, eb, hgb, cb⟩ := okc_n hN (a := b) (by first | exact Or.inl (by assumption) | exact Or.inr (by assumption))
      rw [ea, eb]
      exact r_group_27 hX (by omega) hN hga hgb ca cb
    · refine al0 dX10_group_16 (by first | nofun | exact xrv_ne _) ?_
      refine il2 dX10_group_17 ?_
      refine cd10_126 (f' := f - 1) rfl dX10_group_18 (Nat.le_of_ble_eq_true rfl) (fx17 hX) (by omega) (r_isClass hX (by omega) hB) ?_
      refine ex_if_ne 27 dX10_group_21 (by decide) (fun h21 => ?_) (fun h21 => ?_)
      · simp only [bi_0, Bool.not_eq_false] at h21
        obtain ⟨ga, ea, hga, ca⟩ := okc_n hN (a := a) (by first | exact Or.inl (by assumption) | exact Or.inr (by assumption))
        obtain ⟨gb, eb, hgb, cb⟩ := okc_n hN (a := b) (by first | exact Or.inl (by assumption) | exact Or.inr (by assumption))
        rw [ea, eb]
        exact r_group_27 hX (by omega) hN hga hgb ca cb
      · simp only [bi_0, Bool.not_eq_false] at h21
        refine ex_bipush (v := (-2)) dX10_group_24 (by decide) ?_
        refine ex_iret dX10_group_26 rfl ?_
        refine ⟨?_, rfl, ?_, rfl⟩ <;> simp [sGroup, *]
  · refine al0 dX10_group_4 (by first | nofun | exact xrv_ne _) ?_
    refine il1 dX10_group_5 ?_
    refine cd10_126 (f' := f - 1) rfl dX10_group_6 (Nat.le_of_ble_eq_true rfl) (fx17 hX) (by omega) (r_isClass hX (by omega) hB) ?_
    refine ex_if_eq 24 dX10_group_9 (by decide) (fun h9 => ?_) (fun h9 => ?_)
    · simp only [bi_0, Bool.not_eq_false] at h9
      refine ex_bipush (v := (-2)) dX10_group_24 (by decide) ?_
      refine ex_iret dX10_group_26 rfl ?_
      refine ⟨?_, rfl, ?_, rfl⟩ <;> simp [sGroup, *]
    · simp only [bi_0, Bool.not_eq_false] at h9
      refine il2 dX10_group_12 ?_
      refine ex_if_eq 27 dX10_group_13 (by decide) (fun h13 => ?_) (fun h13 => ?_)
      · obtain ⟨ga, ea, hga, ca⟩ := okc_n hN (a := a) (by first | exact Or.inl (by assumption) | exact Or.inr (by assumption))
        obtain ⟨gb, eb, hgb, cb⟩ := okc_n hN (a := b) (by first | exact Or.inl (by assumption) | exact Or.inr (by assumption))
        rw [ea, eb]
        exact r_group_27 hX (by omega) hN hga hgb ca cb
      · refine al0 dX10_group_16 (by first | nofun | exact xrv_ne _) ?_
        refine il2 dX10_group_17 ?_
        refine cd10_126 (f' := f - 1) rfl dX10_group_18 (Nat.le_of_ble_eq_true rfl) (fx17 hX) (by omega) (r_isClass hX (by omega) hB) ?_
        refine ex_if_ne 27 dX10_group_21 (by decide) (fun h21 => ?_) (fun h21 => ?_)
        · simp only [bi_0, Bool.not_eq_false] at h21
          obtain ⟨ga, ea, hga, ca⟩ := okc_n hN (a := a) (by first | exact Or.inl (by assumption) | exact Or.inr (by assumption))
          obtain ⟨gb, eb, hgb, cb⟩ := okc_n hN (a := b) (by first | exact Or.inl (by assumption) | exact Or.inr (by assumption))
          rw [ea, eb]
          exact r_group_27 hX (by omega) hN hga hgb ca cb
        · simp only [bi_0, Bool.not_eq_false] at h21
          refine ex_bipush (v := (-2)) dX10_group_24 (by decide) ?_
          refine ex_iret dX10_group_26 rfl ?_
          refine ⟨?_, rfl, ?_, rfl⟩ <;> simp [sGroup, *]
set_option maxRecDepth 20000 in
set_option maxHeartbeats 1000000 in
theorem r_object_27 {Γ : xGm} {l : Launch} {f : Nat} {G : xG} {D : xD} {R : xR} (hX : xFix G R) (hf : 2 ≤ f) {E : xD} (hN : LN E) {ga gb : Nat} (hga : ga < 41) (hgb : gb < 41) (ha : nI ga = 0 ∨ isC E (nI ga)) (hb : nI gb = 0 ∨ isC E (nI gb)) : Ex Γ l f MX10_object 27 [some (.ref 17), some (.int (nI ga)), some (.int (nI gb)), none] [] G (mg D E) R 0 0 (xdet (some (.int (sObject E (nI ga) (nI gb)).1)) G (mg D (sObject E (nI ga) (nI gb)).2) R) := by
  have hcond : ¬ ((¬ nI ga = 0 ∧ sIsClass E (nI ga) = false) ∨ (¬ nI gb = 0 ∧ sIsClass E (nI gb) = false)) := by
    rintro (⟨q1, q2⟩ | ⟨q1, q2⟩)
    · rw [isC_iff.mpr (ha.resolve_left q1)] at q2; cases q2
    · rw [isC_iff.mpr (hb.resolve_left q1)] at q2; cases q2
  have hn := hN.n
  have e1 := nI_T hN
  have la : ga ≤ ix (E 0 14) := by
    rcases ha with q | q
    · have := congrArg ix q
      rw [ix_nI (by omega)] at this
      rw [this]; exact Nat.zero_le _
    · have := (isC_n hN.1 q).2.2.1
      rw [ix_nI (by omega)] at this
      exact this
  have lb : gb ≤ ix (E 0 14) := by
    rcases hb with q | q
    · have := congrArg ix q
      rw [ix_nI (by omega)] at this
      rw [this]; exact Nat.zero_le _
    · have := (isC_n hN.1 q).2.2.1
      rw [ix_nI (by omega)] at this
      exact this
  unfold sObject
  rw [if_neg hcond]
  refine al0 dX10_object_27 (by first | nofun | exact xrv_ne _) ?_
  refine rf_119 hX rfl dX10_object_28 ?_
  refine ex_bipush (v := 40) dX10_object_31 (by decide) ?_
  refine ex_icmp_ne 39 dX10_object_33 (by decide) (fun h33 => ?_) (fun h33 => ?_)
  · have hT : ix (E 0 14) < 40 := by
      have q : ¬ ix (E 0 14) = 40 := fun q => h33 (by rw [hn.1, q]; rfl)
      omega
    rw [if_neg h33, e1]
    obtain ⟨n0, en, e0⟩ := sNew_LN (b := 0) hN (by omega)
    have n1 := n0.same (E' := (xdu (sNew E 0) 11 (ix (nI (ix (E 0 14) + 1))) 1)) (by rw [xdu_ne _ _ _ (by decide)]) (xdu_ne _ _ _ (by decide)) (xdu_ne _ _ _ (by decide)) (xdu_ne _ _ _ (by decide)) (by rw [xdu_ne _ _ _ (by decide)]; exact n0.2.1)
    have e02 : (xdu (sNew E 0) 11 (ix (nI (ix (E 0 14) + 1))) 1) 0 14 = nI (ix (E 0 14) + 1) := by rw [xdu_ne _ _ _ (by decide)]; exact e0
    obtain ⟨n3, s3⟩ := sJoin_LN (t := ix (E 0 14) + 1) (g := ga) n1 (by rw [e02, ix_nI (by omega)]; omega) hga (by omega)
    have e03 := (congrFun (s3.1 0 (by decide) (by decide)) 14).trans e02
    obtain ⟨n4, s4⟩ := sJoin_LN (t := ix (E 0 14) + 1) (g := gb) n3 (by rw [e03, ix_nI (by omega)]; omega) hgb (by omega)
    refine al0 dX10_object_39 (by first | nofun | exact xrv_ne _) ?_
    refine ex_iconst (v := 0) dX10_object_40 (by decide) ?_
    refine cd10_130 (f' := f - 1) rfl dX10_object_41 (Nat.le_of_ble_eq_true rfl) (fx17 hX) (by omega) (r_newThing hX (by rw [e1]; exact vi_of (by omega) (by decide)) (Or.inl rfl)) ?_
    rw [e1]
    refine is3 dX10_object_44 ?_
    refine al0 dX10_object_45 (by first | nofun | exact xrv_ne _) ?_
    refine rf_41 hX rfl dX10_object_46 ?_
    refine il3 dX10_object_49 ?_
    refine ex_iconst (v := 1) dX10_object_50 (by decide) ?_
    refine rt_11 hX dX10_object_51 (vi_of (by omega) (by decide)) (by decide) ?_
    refine al0 dX10_object_52 (by first | nofun | exact xrv_ne _) ?_
    refine il3 dX10_object_53 ?_
    refine il1 dX10_object_54 ?_
    refine cd10_134 (f' := f - 1) rfl dX10_object_55 (Nat.le_of_ble_eq_true rfl) (fx17 hX) (by omega) (r_joinLine hX (by omega) (t := ix (E 0 14) + 1) (g := ga) (by omega) hga (by omega) (n1.2.2 _ (by omega)).1 (fun _ => (n1.2.2 _ hga).1)) ?_
    refine al0 dX10_object_58 (by first | nofun | exact xrv_ne _) ?_
    refine il3 dX10_object_59 ?_
    refine il2 dX10_object_60 ?_
    refine cd10_134 (f' := f - 1) rfl dX10_object_61 (Nat.le_of_ble_eq_true rfl) (fx17 hX) (by omega) (r_joinLine hX (by omega) (t := ix (E 0 14) + 1) (g := gb) (by omega) hgb (by omega) (n3.2.2 _ (by omega)).1 (fun _ => (n3.2.2 _ hgb).1)) ?_
    refine al0 dX10_object_64 (by first | nofun | exact xrv_ne _) ?_
    refine il3 dX10_object_65 ?_
    refine cd10_137 (f' := f - 1) rfl dX10_object_66 (Nat.le_of_ble_eq_true rfl) (fx17 hX) (by omega) (r_rowsAnew hX (o := ix (E 0 14) + 1) (by omega) n4.2.1 (n4.2.2 _ (by omega)).1 (n4.no (by omega) (by rw [s4.1 10 (by decide) (by decide), s3.1 10 (by decide) (by decide), xdu_ne _ _ _ (by decide), en, xdu_self, upd_self]))) ?_
    refine il3 dX10_object_69 ?_
    refine ex_iret dX10_object_70 rfl ?_
    exact ⟨rfl, rfl, rfl, rfl⟩
  · refine ex_bipush (v := (-4)) dX10_object_36 (by decide) ?_
    refine ex_iret dX10_object_38 rfl ?_
    refine ⟨?_, rfl, ?_, rfl⟩ <;> simp [h33]
set_option maxRecDepth 20000 in
set_option maxHeartbeats 1000000 in
theorem r_object {Γ : xGm} {l : Launch} {f : Nat} {G : xG} {D E : xD} {R : xR} (hX : xFix G R) (hf : 2 ≤ f) (hB : RB E) (hN : LN E) {a b : Int32} : Cn Γ l f MX10_object [.ref 17, .int a, .int b] G (mg D E) R 0 0 (xdet (some (.int (sObject E a b).1)) G (mg D (sObject E a b).2) R) := by
  refine cn_of MX10_object_ok (Nat.le_of_ble_eq_true rfl) ?_
  show Ex Γ l f MX10_object 0 [some (.ref 17), some (.int a), some (.int b), none] [] G (mg D E) R 0 0 _
  refine il1 dX10_object_0 ?_
  refine ex_if_eq 12 dX10_object_1 (by decide) (fun h1 => ?_) (fun h1 => ?_)
  · refine il2 dX10_object_12 ?_
    refine ex_if_eq 27 dX10_object_13 (by decide) (fun h13 => ?_) (fun h13 => ?_)
    · obtain ⟨ga, ea, hga, ca⟩ := okc_n hN (a := a) (by first | exact Or.inl (by assumption) | exact Or.inr (by assumption))
      obtain ⟨gb, eb, hgb, cb⟩ := okc_n hN (a := b) (by first | exact Or.inl (by assumption) | exact Or.inr (by assumption))
      rw [ea, eb]
      exact r_object_27 hX (by omega) hN hga hgb ca cb
    · refine al0 dX10_object_16 (by first | nofun | exact xrv_ne _) ?_
      refine il2 dX10_object_17 ?_
      refine cd10_126 (f' := f - 1) rfl dX10_object_18 (Nat.le_of_ble_eq_true rfl) (fx17 hX) (by omega) (r_isClass hX (by omega) hB) ?_
      refine ex_if_ne 27 dX10_object_21 (by decide) (fun h21 => ?_) (fun h21 => ?_)
      · simp only [bi_0, Bool.not_eq_false] at h21
        obtain ⟨ga, ea, hga, ca⟩ := okc_n hN (a := a) (by first | exact Or.inl (by assumption) | exact Or.inr (by assumption))
        obtain ⟨gb, eb, hgb, cb⟩ := okc_n hN (a := b) (by first | exact Or.inl (by assumption) | exact Or.inr (by assumption))
        rw [ea, eb]
        exact r_object_27 hX (by omega) hN hga hgb ca cb
      · simp only [bi_0, Bool.not_eq_false] at h21
        refine ex_bipush (v := (-2)) dX10_object_24 (by decide) ?_
        refine ex_iret dX10_object_26 rfl ?_
        refine ⟨?_, rfl, ?_, rfl⟩ <;> simp [sObject, *]
  · refine al0 dX10_object_4 (by first | nofun | exact xrv_ne _) ?_
    refine il1 dX10_object_5 ?_
    refine cd10_126 (f' := f - 1) rfl dX10_object_6 (Nat.le_of_ble_eq_true rfl) (fx17 hX) (by omega) (r_isClass hX (by omega) hB) ?_
    refine ex_if_eq 24 dX10_object_9 (by decide) (fun h9 => ?_) (fun h9 => ?_)
    · simp only [bi_0, Bool.not_eq_false] at h9
      refine ex_bipush (v := (-2)) dX10_object_24 (by decide) ?_
      refine ex_iret dX10_object_26 rfl ?_
      refine ⟨?_, rfl, ?_, rfl⟩ <;> simp [sObject, *]
    · simp only [bi_0, Bool.not_eq_false] at h9
      refine il2 dX10_object_12 ?_
      refine ex_if_eq 27 dX10_object_13 (by decide) (fun h13 => ?_) (fun h13 => ?_)
      · obtain ⟨ga, ea, hga, ca⟩ := okc_n hN (a := a) (by first | exact Or.inl (by assumption) | exact Or.inr (by assumption))
        obtain ⟨gb, eb, hgb, cb⟩ := okc_n hN (a := b) (by first | exact Or.inl (by assumption) | exact Or.inr (by assumption))
        rw [ea, eb]
        exact r_object_27 hX (by omega) hN hga hgb ca cb
      · refine al0 dX10_object_16 (by first | nofun | exact xrv_ne _) ?_
        refine il2 dX10_object_17 ?_
        refine cd10_126 (f' := f - 1) rfl dX10_object_18 (Nat.le_of_ble_eq_true rfl) (fx17 hX) (by omega) (r_isClass hX (by omega) hB) ?_
        refine ex_if_ne 27 dX10_object_21 (by decide) (fun h21 => ?_) (fun h21 => ?_)
        · simp only [bi_0, Bool.not_eq_false] at h21
          obtain ⟨ga, ea, hga, ca⟩ := okc_n hN (a := a) (by first | exact Or.inl (by assumption) | exact Or.inr (by assumption))
          obtain ⟨gb, eb, hgb, cb⟩ := okc_n hN (a := b) (by first | exact Or.inl (by assumption) | exact Or.inr (by assumption))
          rw [ea, eb]
          exact r_object_27 hX (by omega) hN hga hgb ca cb
        · simp only [bi_0, Bool.not_eq_false] at h21
          refine ex_bipush (v := (-2)) dX10_object_24 (by decide) ?_
          refine ex_iret dX10_object_26 rfl ?_
          refine ⟨?_, rfl, ?_, rfl⟩ <;> simp [sObject, *]
