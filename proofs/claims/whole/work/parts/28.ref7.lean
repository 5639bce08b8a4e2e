set_option maxRecDepth 20000 in
set_option maxHeartbeats 1000000 in
theorem r_isOf_lp {Γ : xGm} {l : Launch} {f : Nat} {G : xG} {D : xD} {R : xR} (hX : xFix G R) (hf : 2 ≤ f) {E : xD} (hB : RB E) {v g : Int32} (hv : vp_in v 41) (hm : sMeta E v = 2) : ∀ (n k : Nat) (b : Bool) (hE : E 13 (ix v) = nI (k + n)) (hn : k + n ≤ 40), Ex Γ l f MX10_isOf 5 [some (.ref 17), some (.int v), some (.int g), some (.int (bi b)), some (.int (nI k))] [] G (mg D E) R 0 0 (xdet (some (.int (bi (b || sHas E v g (nI k) n)))) G (mg D E) R) := by
  intro n
  induction n with
  | zero =>
    intro k b hE hn
    refine al0 dX10_isOf_5 (by first | nofun | exact xrv_ne _) ?_
    refine il1 dX10_isOf_6 ?_
    refine cd10_141 (f' := f - 1) rfl dX10_isOf_7 (Nat.le_of_ble_eq_true rfl) (fx17 hX) (by omega) (r_meta hX (by omega) hB) ?_
    refine ex_iconst (v := 2) dX10_isOf_10 (by decide) ?_
    refine ex_icmp_ne 57 dX10_isOf_11 (by decide) (fun h11 => ?_) (fun h11 => ?_)
    · exact absurd hm h11
    · refine il4 dX10_isOf_14 ?_
      refine al0 dX10_isOf_16 (by first | nofun | exact xrv_ne _) ?_
      refine rf_47 hX rfl dX10_isOf_17 ?_
      refine il1 dX10_isOf_20 ?_
      refine rb_13 hX dX10_isOf_21 hv ?_
      refine ex_icmp_ge 57 dX10_isOf_22 (by decide) (fun h22 => ?_) (fun h22 => ?_)
      · refine il3 dX10_isOf_57 ?_
        refine ex_if_eq 65 dX10_isOf_58 (by decide) (fun h58 => ?_) (fun h58 => ?_)
        · refine ex_iconst (v := 0) dX10_isOf_65 (by decide) ?_
          refine ex_iret dX10_isOf_66 rfl ?_
          refine ⟨?_, rfl, rfl, rfl⟩
          cases b <;> simp_all [bi, sHas]
        · refine ex_iconst (v := 1) dX10_isOf_61 (by decide) ?_
          refine ex_goto 66 dX10_isOf_62 (by decide) ?_
          refine ex_iret dX10_isOf_66 rfl ?_
          refine ⟨?_, rfl, rfl, rfl⟩
          cases b <;> simp_all [bi, sHas]
      · exact absurd (by rw [hE]; exact nI_le (by omega) (by omega)) h22
  | succ n ih =>
    intro k b hE hn
    have hstep : ∀ b', (b' || sHas E v g (nI (k + 1)) n) = (b || sHas E v g (nI k) (n + 1)) → Ex Γ l f MX10_isOf 5 [some (.ref 17), some (.int v), some (.int g), some (.int (bi b')), some (.int (nI (k + 1)))] [] G (mg D E) R 0 0 (xdet (some (.int (bi (b || sHas E v g (nI k) (n + 1))))) G (mg D E) R) := fun b' hb => by
      rw [← hb]
      exact ih (k + 1) b' (by rw [hE]; congr 1; omega) (by omega)
    refine al0 dX10_isOf_5 (by first | nofun | exact xrv_ne _) ?_
    refine il1 dX10_isOf_6 ?_
    refine cd10_141 (f' := f - 1) rfl dX10_isOf_7 (Nat.le_of_ble_eq_true rfl) (fx17 hX) (by omega) (r_meta hX (by omega) hB) ?_
    refine ex_iconst (v := 2) dX10_isOf_10 (by decide) ?_
    refine ex_icmp_ne 57 dX10_isOf_11 (by decide) (fun h11 => ?_) (fun h11 => ?_)
    · exact absurd hm h11
    · refine il4 dX10_isOf_14 ?_
      refine al0 dX10_isOf_16 (by first | nofun | exact xrv_ne _) ?_
      refine rf_47 hX rfl dX10_isOf_17 ?_
      refine il1 dX10_isOf_20 ?_
      refine rb_13 hX dX10_isOf_21 hv ?_
      refine ex_icmp_ge 57 dX10_isOf_22 (by decide) (fun h22 => ?_) (fun h22 => ?_)
      · exact absurd h22 (by rw [hE]; exact nI_ge (by omega) (by omega))
      · refine il3 dX10_isOf_25 ?_
        refine ex_if_ne 45 dX10_isOf_26 (by decide) (fun h26 => ?_) (fun h26 => ?_)
        · refine ex_iconst (v := 1) dX10_isOf_45 (by decide) ?_
          refine ex_goto 50 dX10_isOf_46 (by decide) ?_
          refine is3 dX10_isOf_50 ?_
          refine ic4 (nI (k + 1)) dX10_isOf_51 (nI_1 k) ?_
          refine ex_goto 5 dX10_isOf_54 (by decide) ?_
          first | exact hstep true (by cases b <;> simp_all [bi, sHas, nI_1]) | exact hstep false (by cases b <;> simp_all [bi, sHas, nI_1])
        · refine al0 dX10_isOf_29 (by first | nofun | exact xrv_ne _) ?_
          refine rf_50 hX rfl dX10_isOf_30 ?_
          refine ex_bipush (v := 41) dX10_isOf_33 (by decide) ?_
          refine il1 dX10_isOf_35 ?_
          refine ex_imul dX10_isOf_36 ?_
          refine il4 dX10_isOf_37 ?_
          refine ex_iadd dX10_isOf_39 ?_
          refine rb_14 hX dX10_isOf_40 (vi_ln (N := 1681) 41 hv (vi_k2 (n := n) (N := 41) (by omega) (by decide)) (by decide) (by decide) (by decide) (by decide)).1 ?_
          refine il2 dX10_isOf_41 ?_
          refine ex_icmp_ne 49 dX10_isOf_42 (by decide) (fun h42 => ?_) (fun h42 => ?_)
          · refine ex_iconst (v := 0) dX10_isOf_49 (by decide) ?_
            refine is3 dX10_isOf_50 ?_
            refine ic4 (nI (k + 1)) dX10_isOf_51 (nI_1 k) ?_
            refine ex_goto 5 dX10_isOf_54 (by decide) ?_
            first | exact hstep true (by cases b <;> simp_all [bi, sHas, nI_1]) | exact hstep false (by cases b <;> simp_all [bi, sHas, nI_1])
          · refine ex_iconst (v := 1) dX10_isOf_45 (by decide) ?_
            refine ex_goto 50 dX10_isOf_46 (by decide) ?_
            refine is3 dX10_isOf_50 ?_
            refine ic4 (nI (k + 1)) dX10_isOf_51 (nI_1 k) ?_
            refine ex_goto 5 dX10_isOf_54 (by decide) ?_
            first | exact hstep true (by cases b <;> simp_all [bi, sHas, nI_1]) | exact hstep false (by cases b <;> simp_all [bi, sHas, nI_1])
set_option maxRecDepth 20000 in
set_option maxHeartbeats 1000000 in
theorem r_isOf {Γ : xGm} {l : Launch} {f : Nat} {G : xG} {D E : xD} {R : xR} (hX : xFix G R) (hf : 2 ≤ f) (hB : RB E) {v g : Int32} : Cn Γ l f MX10_isOf [.ref 17, .int v, .int g] G (mg D E) R 0 0 (xdet (some (.int (bi (sIsOf E v g)))) G (mg D E) R) := by
  refine cn_of MX10_isOf_ok (Nat.le_of_ble_eq_true rfl) ?_
  show Ex Γ l f MX10_isOf 0 [some (.ref 17), some (.int v), some (.int g), none, none] [] G (mg D E) R 0 0 _
  refine ex_iconst (v := 0) dX10_isOf_0 (by decide) ?_
  refine is3 dX10_isOf_1 ?_
  refine ex_iconst (v := 0) dX10_isOf_2 (by decide) ?_
  refine is4 dX10_isOf_3 ?_
  by_cases hm : sMeta E v = 2
  · have hv := hB.in14 (sMeta_2 hm)
    have e := vi_n (hB.a13 (vi_lt41 hv)) (by decide)
    have := r_isOf_lp (Γ := Γ) (l := l) (D := D) hX hf hB (g := g) hv hm (ix (E 13 (ix v))) 0 false (by rw [Nat.zero_add]; exact e.1) (by omega)
    rw [Bool.false_or] at this
    unfold sIsOf
    rw [decide_eq_true hm, Bool.true_and]
    exact this
  · unfold sIsOf
    rw [decide_eq_false hm, Bool.false_and]
    refine al0 dX10_isOf_5 (by first | nofun | exact xrv_ne _) ?_
    refine il1 dX10_isOf_6 ?_
    refine cd10_141 (f' := f - 1) rfl dX10_isOf_7 (Nat.le_of_ble_eq_true rfl) (fx17 hX) (by omega) (r_meta hX (by omega) hB) ?_
    refine ex_iconst (v := 2) dX10_isOf_10 (by decide) ?_
    refine ex_icmp_ne 57 dX10_isOf_11 (by decide) (fun h11 => ?_) (fun h11 => ?_)
    · refine il3 dX10_isOf_57 ?_
      refine ex_if_eq 65 dX10_isOf_58 (by decide) (fun h58 => ?_) (fun h58 => ?_)
      · refine ex_iconst (v := 0) dX10_isOf_65 (by decide) ?_
        refine ex_iret dX10_isOf_66 rfl ?_
        exact ⟨rfl, rfl, rfl, rfl⟩
      · exact absurd rfl h58
    · exact absurd h11 hm
/-! chains that end -/
def aOk (E : xD) (j : Nat) (k : Int32) : Nat → Prop
  | 0 => k = 0
  | n + 1 => k = 0 ∨ aOk E j (E j (ix k)) n
def fOk (E : xD) (o k : Int32) : Nat → Prop
  | 0 => E 21 (ix k) = o
  | n + 1 => E 21 (ix k) = o ∨ fOk E o (E 21 (ix k)) n
set_option maxRecDepth 20000 in
set_option maxHeartbeats 1000000 in
theorem r_leave_lp {Γ : xGm} {l : Launch} {f : Nat} {G : xG} {D : xD} {R : xR} (hX : xFix G R) {E : xD} (hB : RB E) {o : Int32} (ho : vp_in o 41) {p : Option Value} : ∀ (n m : Nat) (k : Int32) (hk : vp_in k 41) (hF : fOk E o k n) (hm : n ≤ m), Ex Γ l f MX10_leave 44 [some (.ref 17), some (.int o), p, some (.int k)] [] G (mg D E) R 0 0 (xdet none G (mg D (xdu (xdu (xdu E 21 (ix (sFind E o k (m + 1))) (E 21 (ix o))) 19 (ix o) 0) 21 (ix o) 0)) R) := by
  intro n
  induction n with
  | zero =>
    intro m k hk hF hm
    have hF : E 21 (ix k) = o := hF
    refine al0 dX10_leave_44 (by first | nofun | exact xrv_ne _) ?_
    refine rf_71 hX rfl dX10_leave_45 ?_
    refine il3 dX10_leave_48 ?_
    refine rb_21 hX dX10_leave_49 hk ?_
    refine il1 dX10_leave_50 ?_
    refine ex_icmp_eq 64 dX10_leave_51 (by decide) (fun h51 => ?_) (fun h51 => ?_)
    · refine al0 dX10_leave_64 (by first | nofun | exact xrv_ne _) ?_
      refine rf_71 hX rfl dX10_leave_65 ?_
      refine il3 dX10_leave_68 ?_
      refine al0 dX10_leave_69 (by first | nofun | exact xrv_ne _) ?_
      refine rf_71 hX rfl dX10_leave_70 ?_
      refine il1 dX10_leave_73 ?_
      refine rb_21 hX dX10_leave_74 ho ?_
      refine rt_21 hX dX10_leave_75 hk ?_
      refine al0 dX10_leave_76 (by first | nofun | exact xrv_ne _) ?_
      refine rf_65 hX rfl dX10_leave_77 ?_
      refine il1 dX10_leave_80 ?_
      refine ex_iconst (v := 0) dX10_leave_81 (by decide) ?_
      refine rt_19 hX dX10_leave_82 ho ?_
      refine al0 dX10_leave_83 (by first | nofun | exact xrv_ne _) ?_
      refine rf_71 hX rfl dX10_leave_84 ?_
      refine il1 dX10_leave_87 ?_
      refine ex_iconst (v := 0) dX10_leave_88 (by decide) ?_
      refine rt_21 hX dX10_leave_89 ho ?_
      refine ex_vret dX10_leave_90 rfl ?_
      refine ⟨rfl, rfl, ?_, rfl⟩
      simp [sFind, *]
    · exact absurd hF h51
  | succ n ih =>
    intro m k hk hF hm
    obtain ⟨m, rfl⟩ : ∃ z, m = z + 1 := ⟨m - 1, by omega⟩
    refine al0 dX10_leave_44 (by first | nofun | exact xrv_ne _) ?_
    refine rf_71 hX rfl dX10_leave_45 ?_
    refine il3 dX10_leave_48 ?_
    refine rb_21 hX dX10_leave_49 hk ?_
    refine il1 dX10_leave_50 ?_
    refine ex_icmp_eq 64 dX10_leave_51 (by decide) (fun h51 => ?_) (fun h51 => ?_)
    · refine al0 dX10_leave_64 (by first | nofun | exact xrv_ne _) ?_
      refine rf_71 hX rfl dX10_leave_65 ?_
      refine il3 dX10_leave_68 ?_
      refine al0 dX10_leave_69 (by first | nofun | exact xrv_ne _) ?_
      refine rf_71 hX rfl dX10_leave_70 ?_
      refine il1 dX10_leave_73 ?_
      refine rb_21 hX dX10_leave_74 ho ?_
      refine rt_21 hX dX10_leave_75 hk ?_
      refine al0 dX10_leave_76 (by first | nofun | exact xrv_ne _) ?_
      refine rf_65 hX rfl dX10_leave_77 ?_
      refine il1 dX10_leave_80 ?_
      refine ex_iconst (v := 0) dX10_leave_81 (by decide) ?_
      refine rt_19 hX dX10_leave_82 ho ?_
      refine al0 dX10_leave_83 (by first | nofun | exact xrv_ne _) ?_
      refine rf_71 hX rfl dX10_leave_84 ?_
      refine il1 dX10_leave_87 ?_
      refine ex_iconst (v := 0) dX10_leave_88 (by decide) ?_
      refine rt_21 hX dX10_leave_89 ho ?_
      refine ex_vret dX10_leave_90 rfl ?_
      refine ⟨rfl, rfl, ?_, rfl⟩
      simp [sFind, *]
    · refine al0 dX10_leave_54 (by first | nofun | exact xrv_ne _) ?_
      refine rf_71 hX rfl dX10_leave_55 ?_
      refine il3 dX10_leave_58 ?_
      refine rb_21 hX dX10_leave_59 hk ?_
      refine is3 dX10_leave_60 ?_
      refine ex_goto 44 dX10_leave_61 (by decide) ?_
      rw [show sFind E o k (m + 1 + 1) = sFind E o (E 21 (ix k)) (m + 1) by rw [sFind, if_neg h51]]
      exact ih m _ (hB.a21 (vi_lt41 hk)) (hF.resolve_left h51) (by omega)
set_option maxRecDepth 20000 in
set_option maxHeartbeats 1000000 in
theorem r_leave {Γ : xGm} {l : Launch} {f : Nat} {G : xG} {D E : xD} {R : xR} (hX : xFix G R) (hB : RB E) {o : Int32} (ho : vp_in o 41) (hF : ¬ E 19 (ix o) = 0 → ¬ E 20 (ix (E 19 (ix o))) = o → fOk E o (E 20 (ix (E 19 (ix o)))) 39) : Cn Γ l f MX10_leave [.ref 17, .int o] G (mg D E) R 0 0 (xdet none G (mg D (sLeave E o)) R) := by
  refine cn_of MX10_leave_ok (Nat.le_of_ble_eq_true rfl) ?_
  show Ex Γ l f MX10_leave 0 [some (.ref 17), some (.int o), none, none] [] G (mg D E) R 0 0 _
  refine al0 dX10_leave_0 (by first | nofun | exact xrv_ne _) ?_
  refine rf_65 hX rfl dX10_leave_1 ?_
  refine il1 dX10_leave_4 ?_
  refine rb_19 hX dX10_leave_5 ho ?_
  refine is2 dX10_leave_6 ?_
  refine il2 dX10_leave_7 ?_
  refine ex_if_ne 12 dX10_leave_8 (by decide) (fun h8 => ?_) (fun h8 => ?_)
  · refine al0 dX10_leave_12 (by first | nofun | exact xrv_ne _) ?_
    refine rf_68 hX rfl dX10_leave_13 ?_
    refine il2 dX10_leave_16 ?_
    refine rb_20 hX dX10_leave_17 (hB.a19 (vi_lt41 ho)) ?_
    refine il1 dX10_leave_18 ?_
    refine ex_icmp_ne 37 dX10_leave_19 (by decide) (fun h19 => ?_) (fun h19 => ?_)
    · refine al0 dX10_leave_37 (by first | nofun | exact xrv_ne _) ?_
      refine rf_68 hX rfl dX10_leave_38 ?_
      refine il2 dX10_leave_41 ?_
      refine rb_20 hX dX10_leave_42 (hB.a19 (vi_lt41 ho)) ?_
      refine is3 dX10_leave_43 ?_
      unfold sLeave
      rw [lk_eq, if_neg h8, if_neg h19]
      exact r_leave_lp hX hB ho 39 39 _ (hB.a20 (vi_lt41 (hB.a19 (vi_lt41 ho)))) (hF h8 h19) (Nat.le_refl _)
    · refine al0 dX10_leave_22 (by first | nofun | exact xrv_ne _) ?_
      refine rf_68 hX rfl dX10_leave_23 ?_
      refine il2 dX10_leave_26 ?_
      refine al0 dX10_leave_27 (by first | nofun | exact xrv_ne _) ?_
      refine rf_71 hX rfl dX10_leave_28 ?_
      refine il1 dX10_leave_31 ?_
      refine rb_21 hX dX10_leave_32 ho ?_
      refine rt_20 hX dX10_leave_33 (hB.a19 (vi_lt41 ho)) ?_
      refine ex_goto 76 dX10_leave_34 (by decide) ?_
      refine al0 dX10_leave_76 (by first | nofun | exact xrv_ne _) ?_
      refine rf_65 hX rfl dX10_leave_77 ?_
      refine il1 dX10_leave_80 ?_
      refine ex_iconst (v := 0) dX10_leave_81 (by decide) ?_
      refine rt_19 hX dX10_leave_82 ho ?_
      refine al0 dX10_leave_83 (by first | nofun | exact xrv_ne _) ?_
      refine rf_71 hX rfl dX10_leave_84 ?_
      refine il1 dX10_leave_87 ?_
      refine ex_iconst (v := 0) dX10_leave_88 (by decide) ?_
      refine rt_21 hX dX10_leave_89 ho ?_
      refine ex_vret dX10_leave_90 rfl ?_
      refine ⟨rfl, rfl, ?_, rfl⟩
      simp [sLeave, xdu_self, upd_self, xdu_ne, upd_ne, *]
  · refine ex_vret dX10_leave_11 rfl ?_
    refine ⟨rfl, rfl, ?_, rfl⟩
    simp [sLeave, xdu_self, upd_self, xdu_ne, upd_ne, *]
set_option maxRecDepth 20000 in
set_option maxHeartbeats 1000000 in
theorem r_tree_lp {Γ : xGm} {l : Launch} {f : Nat} {G : xG} {D : xD} {R : xR} (hX : xFix G R) {E : xD} (hB : RB E) {v w : Option Value} : ∀ (n m c : Nat) (k : Int32) (hk : vp_in k 41) (hF : aOk E 21 k n) (hm : n ≤ m), Ex Γ l f MX10_tree 71 [some (.ref 17), v, w, some (.int (nI c)), some (.int k)] [] G (mg D E) R 0 0 (xdet (some (.int (nI (c + sKids E k m)))) G (mg D E) R) := by
  intro n
  induction n with
  | zero =>
    intro m c k hk hF hm
    have hF : k = 0 := hF
    refine il4 dX10_tree_71 ?_
    refine ex_if_eq 91 dX10_tree_73 (by decide) (fun h73 => ?_) (fun h73 => ?_)
    · refine il3 dX10_tree_91 ?_
      refine ex_iret dX10_tree_92 rfl ?_
      refine ⟨?_, rfl, rfl, rfl⟩
      cases m <;> simp [sKids, *]
    · exact absurd hF h73
  | succ n ih =>
    intro m c k hk hF hm
    obtain ⟨m, rfl⟩ : ∃ z, m = z + 1 := ⟨m - 1, by omega⟩
    refine il4 dX10_tree_71 ?_
    refine ex_if_eq 91 dX10_tree_73 (by decide) (fun h73 => ?_) (fun h73 => ?_)
    · refine il3 dX10_tree_91 ?_
      refine ex_iret dX10_tree_92 rfl ?_
      refine ⟨?_, rfl, rfl, rfl⟩
      cases m <;> simp [sKids, *]
    · refine ic3 (nI (c + 1)) dX10_tree_76 (nI_1 c) ?_
      refine al0 dX10_tree_79 (by first | nofun | exact xrv_ne _) ?_
      refine rf_71 hX rfl dX10_tree_80 ?_
      refine il4 dX10_tree_83 ?_
      refine rb_21 hX dX10_tree_85 hk ?_
      refine is4 dX10_tree_86 ?_
      refine ex_goto 71 dX10_tree_88 (by decide) ?_
      rw [show c + sKids E k (m + 1) = (c + 1) + sKids E (E 21 (ix k)) m by rw [sKids, if_neg h73]; omega]
      exact ih m (c + 1) _ (hB.a21 (vi_lt41 hk)) (hF.resolve_left h73) (by omega)
theorem sIn_02 {w : Int32} (h : sIn w 0 2 = true) (h0 : ¬ w = 0) (h1 : ¬ w = 1) : w = 2 := by
  have hv := vi_n2 h
  obtain ⟨e, l⟩ := vi_n hv (by decide)
  have : ix w = 0 ∨ ix w = 1 ∨ ix w = 2 := by omega
  rcases this with q | q | q
  · rw [q] at e; exact absurd e h0
  · rw [q] at e; exact absurd e h1
  · rw [q] at e; exact e
theorem sIn_n02 {w : Int32} (h : sIn w 0 2 = false) : ¬ w = 0 ∧ ¬ w = 1 ∧ ¬ w = 2 := ⟨fun q => by subst q; exact absurd h (by decide), fun q => by subst q; exact absurd h (by decide), fun q => by subst q; exact absurd h (by decide)⟩
set_option maxRecDepth 20000 in
set_option maxHeartbeats 1000000 in
theorem r_tree {Γ : xGm} {l : Launch} {f : Nat} {G : xG} {D E : xD} {R : xR} (hX : xFix G R) (hf : 2 ≤ f) (hB : RB E) {v w : Int32} (hK : sMeta E v = 2 → aOk E 21 (E 20 (ix v)) 40) : Cn Γ l f MX10_tree [.ref 17, .int v, .int w] G (mg D E) R 0 0 (xdet (some (.int (sTree E v w).1)) G (mg D (sTree E v w).2) R) := by
  refine cn_of MX10_tree_ok (Nat.le_of_ble_eq_true rfl) ?_
  show Ex Γ l f MX10_tree 0 [some (.ref 17), some (.int v), some (.int w), none, none] [] G (mg D E) R 0 0 _
  refine al0 dX10_tree_0 (by first | nofun | exact xrv_ne _) ?_
  refine il1 dX10_tree_1 ?_
  refine cd10_141 (f' := f - 1) rfl dX10_tree_2 (Nat.le_of_ble_eq_true rfl) (fx17 hX) (by omega) (r_meta hX (by omega) hB) ?_
  refine ex_iconst (v := 2) dX10_tree_5 (by decide) ?_
  refine ex_icmp_eq 18 dX10_tree_6 (by decide) (fun h6 => ?_) (fun h6 => ?_)
  · refine il2 dX10_tree_18 ?_
    refine ex_iconst (v := 0) dX10_tree_19 (by decide) ?_
    refine ex_iconst (v := 2) dX10_tree_20 (by decide) ?_
    refine cd10_102 (f' := f - 1) rfl dX10_tree_21 (Nat.le_of_ble_eq_true rfl) (by omega) (r_in hX) ?_
    refine ex_if_eq 61 dX10_tree_24 (by decide) (fun h24 => ?_) (fun h24 => ?_)
    · simp only [bi_0, Bool.not_eq_false] at h24
      refine ex_iconst (v := 0) dX10_tree_61 (by decide) ?_
      refine is3 dX10_tree_62 ?_
      refine al0 dX10_tree_63 (by first | nofun | exact xrv_ne _) ?_
      refine rf_68 hX rfl dX10_tree_64 ?_
      refine il1 dX10_tree_67 ?_
      refine rb_20 hX dX10_tree_68 (hB.in14 (sMeta_2 h6)) ?_
      refine is4 dX10_tree_69 ?_
      obtain ⟨n0, n1, n2⟩ := sIn_n02 h24
      unfold sTree
      rw [lk_eq, if_neg (fun q => q h6), if_neg n0, if_neg n1, if_neg n2]
      have := r_tree_lp (Γ := Γ) (l := l) (f := f) (D := D) hX hB (v := some (.int v)) (w := some (.int w)) 40 40 0 _ (hB.a20 (vi_lt41 (hB.in14 (sMeta_2 h6)))) (hK h6) (Nat.le_refl _)
      rw [Nat.zero_add] at this
      exact this
    · simp only [bi_0, Bool.not_eq_false] at h24
      refine il2 dX10_tree_27 ?_
      refine ex_if_ne 40 dX10_tree_28 (by decide) (fun h28 => ?_) (fun h28 => ?_)
      · refine il2 dX10_tree_40 ?_
        refine ex_iconst (v := 1) dX10_tree_41 (by decide) ?_
        refine ex_icmp_ne 54 dX10_tree_42 (by decide) (fun h42 => ?_) (fun h42 => ?_)
        · have h42b := sIn_02 h24 h28 h42
          refine al0 dX10_tree_54 (by first | nofun | exact xrv_ne _) ?_
          refine rf_71 hX rfl dX10_tree_55 ?_
          refine il1 dX10_tree_58 ?_
          refine rb_21 hX dX10_tree_59 (hB.in14 (sMeta_2 h6)) ?_
          refine ex_iret dX10_tree_60 rfl ?_
          refine ⟨?_, rfl, ?_, rfl⟩ <;> simp_all [sTree, sIn_02]
        · refine al0 dX10_tree_45 (by first | nofun | exact xrv_ne _) ?_
          refine rf_68 hX rfl dX10_tree_46 ?_
          refine il1 dX10_tree_49 ?_
          refine rb_20 hX dX10_tree_50 (hB.in14 (sMeta_2 h6)) ?_
          refine ex_goto 60 dX10_tree_51 (by decide) ?_
          refine ex_iret dX10_tree_60 rfl ?_
          refine ⟨?_, rfl, ?_, rfl⟩ <;> simp_all [sTree, sIn_02]
      · refine al0 dX10_tree_31 (by first | nofun | exact xrv_ne _) ?_
        refine rf_65 hX rfl dX10_tree_32 ?_
        refine il1 dX10_tree_35 ?_
        refine rb_19 hX dX10_tree_36 (hB.in14 (sMeta_2 h6)) ?_
        refine ex_goto 60 dX10_tree_37 (by decide) ?_
        refine ex_iret dX10_tree_60 rfl ?_
        refine ⟨?_, rfl, ?_, rfl⟩ <;> simp_all [sTree, sIn_02]
  · refine al0 dX10_tree_9 (by first | nofun | exact xrv_ne _) ?_
    refine ex_bipush (v := 6) dX10_tree_10 (by decide) ?_
    refine il1 dX10_tree_12 ?_
    refine ex_iconst (v := 0) dX10_tree_13 (by decide) ?_
    refine cd10_174 (f' := f - 1) rfl dX10_tree_14 (Nat.le_of_ble_eq_true rfl) (fx17 hX) (by omega) (r_fails hX hB.n27) ?_
    refine ex_iret dX10_tree_17 rfl ?_
    refine ⟨?_, rfl, ?_, rfl⟩ <;> simp [sTree, *]
set_option maxRecDepth 20000 in
set_option maxHeartbeats 1000000 in
theorem r_move_lp {Γ : xGm} {l : Launch} {f : Nat} {G : xG} {D : xD} {R : xR} (hX : xFix G R) (hf : 1 ≤ f) {E : xD} (hB : RB E) {a b : Int32} (ha : vp_in a 41) (hb : ¬ b = 0 → vp_in b 41) (hF2 : ¬ E 19 (ix a) = 0 → ¬ E 20 (ix (E 19 (ix a))) = a → fOk E a (E 20 (ix (E 19 (ix a)))) 39) : ∀ (n m : Nat) (k : Int32) (hk : vp_in k 41) (hF : aOk E 19 k n) (hm : n ≤ m), Ex Γ l f MX10_move 33 [some (.ref 17), some (.int a), some (.int b), some (.int k)] [] G (mg D E) R 0 0 (xdet (some (.int (if sInAt E a k (m + 1) = true then 0 else 1))) G (mg D (if sInAt E a k (m + 1) = true then sFails E 7 a b else (if b = 0 then sLeave E a else xdu (xdu (xdu (sLeave E a) 19 (ix a) b) 21 (ix a) (sLeave E a 20 (ix b))) 20 (ix b) a))) R) := by
  intro n
  induction n with
  | zero =>
    intro m k hk hF hm
    have hF : k = 0 := hF
    refine il3 dX10_move_33 ?_
    refine ex_if_eq 61 dX10_move_34 (by decide) (fun h34 => ?_) (fun h34 => ?_)
    · refine al0 dX10_move_61 (by first | nofun | exact xrv_ne _) ?_
      refine il1 dX10_move_62 ?_
      refine cd10_177 (f' := f - 1) rfl dX10_move_63 (Nat.le_of_ble_eq_true rfl) (fx17 hX) (by omega) (r_leave hX hB ha hF2) ?_
      refine il2 dX10_move_66 ?_
      refine ex_if_eq 96 dX10_move_67 (by decide) (fun h67 => ?_) (fun h67 => ?_)
      · refine ex_iconst (v := 1) dX10_move_96 (by decide) ?_
        refine ex_iret dX10_move_97 rfl ?_
        refine ⟨?_, rfl, ?_, rfl⟩ <;> simp [sInAt, xdu_ne, *]
      · refine al0 dX10_move_70 (by first | nofun | exact xrv_ne _) ?_
        refine rf_65 hX rfl dX10_move_71 ?_
        refine il1 dX10_move_74 ?_
        refine il2 dX10_move_75 ?_
        refine rt_19 hX dX10_move_76 ha ?_
        refine al0 dX10_move_77 (by first | nofun | exact xrv_ne _) ?_
        refine rf_71 hX rfl dX10_move_78 ?_
        refine il1 dX10_move_81 ?_
        refine al0 dX10_move_82 (by first | nofun | exact xrv_ne _) ?_
        refine rf_68 hX rfl dX10_move_83 ?_
        refine il2 dX10_move_86 ?_
        refine rb_20 hX dX10_move_87 (hb h67) ?_
        refine rt_21 hX dX10_move_88 ha ?_
        refine al0 dX10_move_89 (by first | nofun | exact xrv_ne _) ?_
        refine rf_68 hX rfl dX10_move_90 ?_
        refine il2 dX10_move_93 ?_
        refine il1 dX10_move_94 ?_
        refine rt_20 hX dX10_move_95 (hb h67) ?_
        refine ex_iconst (v := 1) dX10_move_96 (by decide) ?_
        refine ex_iret dX10_move_97 rfl ?_
        refine ⟨?_, rfl, ?_, rfl⟩ <;> simp [sInAt, xdu_ne, *]
    · exact absurd hF h34
  | succ n ih =>
    intro m k hk hF hm
    obtain ⟨m, rfl⟩ : ∃ z, m = z + 1 := ⟨m - 1, by omega⟩
    refine il3 dX10_move_33 ?_
    refine ex_if_eq 61 dX10_move_34 (by decide) (fun h34 => ?_) (fun h34 => ?_)
    · refine al0 dX10_move_61 (by first | nofun | exact xrv_ne _) ?_
      refine il1 dX10_move_62 ?_
      refine cd10_177 (f' := f - 1) rfl dX10_move_63 (Nat.le_of_ble_eq_true rfl) (fx17 hX) (by omega) (r_leave hX hB ha hF2) ?_
      refine il2 dX10_move_66 ?_
      refine ex_if_eq 96 dX10_move_67 (by decide) (fun h67 => ?_) (fun h67 => ?_)
      · refine ex_iconst (v := 1) dX10_move_96 (by decide) ?_
        refine ex_iret dX10_move_97 rfl ?_
        refine ⟨?_, rfl, ?_, rfl⟩ <;> simp [sInAt, xdu_ne, *]
      · refine al0 dX10_move_70 (by first | nofun | exact xrv_ne _) ?_
        refine rf_65 hX rfl dX10_move_71 ?_
        refine il1 dX10_move_74 ?_
        refine il2 dX10_move_75 ?_
        refine rt_19 hX dX10_move_76 ha ?_
        refine al0 dX10_move_77 (by first | nofun | exact xrv_ne _) ?_
        refine rf_71 hX rfl dX10_move_78 ?_
        refine il1 dX10_move_81 ?_
        refine al0 dX10_move_82 (by first | nofun | exact xrv_ne _) ?_
        refine rf_68 hX rfl dX10_move_83 ?_
        refine il2 dX10_move_86 ?_
        refine rb_20 hX dX10_move_87 (hb h67) ?_
        refine rt_21 hX dX10_move_88 ha ?_
        refine al0 dX10_move_89 (by first | nofun | exact xrv_ne _) ?_
        refine rf_68 hX rfl dX10_move_90 ?_
        refine il2 dX10_move_93 ?_
        refine il1 dX10_move_94 ?_
        refine rt_20 hX dX10_move_95 (hb h67) ?_
        refine ex_iconst (v := 1) dX10_move_96 (by decide) ?_
        refine ex_iret dX10_move_97 rfl ?_
        refine ⟨?_, rfl, ?_, rfl⟩ <;> simp [sInAt, xdu_ne, *]
    · refine il3 dX10_move_37 ?_
      refine il1 dX10_move_38 ?_
      refine ex_icmp_ne 51 dX10_move_39 (by decide) (fun h39 => ?_) (fun h39 => ?_)
      · refine al0 dX10_move_51 (by first | nofun | exact xrv_ne _) ?_
        refine rf_65 hX rfl dX10_move_52 ?_
        refine il3 dX10_move_55 ?_
        refine rb_19 hX dX10_move_56 hk ?_
        refine is3 dX10_move_57 ?_
        refine ex_goto 33 dX10_move_58 (by decide) ?_
        rw [show sInAt E a k (m + 1 + 1) = sInAt E a (E 19 (ix k)) (m + 1) by rw [sInAt, if_neg h34, if_neg h39]]
        exact ih m _ (hB.a19 (vi_lt41 hk)) (hF.resolve_left h34) (by omega)
      · refine al0 dX10_move_42 (by first | nofun | exact xrv_ne _) ?_
        refine ex_bipush (v := 7) dX10_move_43 (by decide) ?_
        refine il1 dX10_move_45 ?_
        refine il2 dX10_move_46 ?_
        refine cd10_174 (f' := f - 1) rfl dX10_move_47 (Nat.le_of_ble_eq_true rfl) (fx17 hX) (by omega) (r_fails hX hB.n27) ?_
        refine ex_iret dX10_move_50 rfl ?_
        refine ⟨?_, rfl, ?_, rfl⟩ <;> simp_all [sInAt]
set_option maxRecDepth 20000 in
set_option maxHeartbeats 1000000 in
theorem r_move {Γ : xGm} {l : Launch} {f : Nat} {G : xG} {D E : xD} {R : xR} (hX : xFix G R) (hf : 2 ≤ f) (hB : RB E) {a b : Int32} (hA : b = 0 ∨ sMeta E b = 2 → aOk E 19 b 40) (hF : sIn a 1 (E 0 14) = true → ¬ E 19 (ix a) = 0 → ¬ E 20 (ix (E 19 (ix a))) = a → fOk E a (E 20 (ix (E 19 (ix a)))) 39) : Cn Γ l f MX10_move [.ref 17, .int a, .int b] G (mg D E) R 0 0 (xdet (some (.int (sMove E a b).1)) G (mg D (sMove E a b).2) R) := by
  refine cn_of MX10_move_ok (Nat.le_of_ble_eq_true rfl) ?_
  show Ex Γ l f MX10_move 0 [some (.ref 17), some (.int a), some (.int b), none] [] G (mg D E) R 0 0 _
  refine al0 dX10_move_0 (by first | nofun | exact xrv_ne _) ?_
  refine il1 dX10_move_1 ?_
  refine cd10_141 (f' := f - 1) rfl dX10_move_2 (Nat.le_of_ble_eq_true rfl) (fx17 hX) (by omega) (r_meta hX (by omega) hB) ?_
  refine ex_iconst (v := 2) dX10_move_5 (by decide) ?_
  refine ex_icmp_ne 22 dX10_move_6 (by decide) (fun h6 => ?_) (fun h6 => ?_)
  · refine al0 dX10_move_22 (by first | nofun | exact xrv_ne _) ?_
    refine ex_bipush (v := 6) dX10_move_23 (by decide) ?_
    refine il1 dX10_move_25 ?_
    refine il2 dX10_move_26 ?_
    refine cd10_174 (f' := f - 1) rfl dX10_move_27 (Nat.le_of_ble_eq_true rfl) (fx17 hX) (by omega) (r_fails hX hB.n27) ?_
    refine ex_iret dX10_move_30 rfl ?_
    refine ⟨?_, rfl, ?_, rfl⟩ <;> simp [sMove, *]
  · refine il2 dX10_move_9 ?_
    refine ex_if_eq 31 dX10_move_10 (by decide) (fun h10 => ?_) (fun h10 => ?_)
    · refine il2 dX10_move_31 ?_
      refine is3 dX10_move_32 ?_
      unfold sMove
      rw [lk_eq, if_neg (by rintro (q | ⟨q1, q2⟩); exact q h6; exact q1 h10)]
      have := r_move_lp (Γ := Γ) (l := l) (f := f) (D := D) hX (by omega) hB (b := b) (hB.in14 (sMeta_2 h6)) (fun q => absurd h10 q) (hF (sMeta_2 h6)) 40 40 b (by rw [h10]; exact vi_of (n := 0) (by decide) (by decide)) (hA (Or.inl h10)) (Nat.le_refl _)
      by_cases hs : sInAt E a b 41 = true
      · rw [if_pos hs]
        rw [if_pos hs, if_pos hs] at this
        exact this
      · rw [if_neg hs]
        rw [if_neg hs, if_neg hs] at this
        exact this
    · refine al0 dX10_move_13 (by first | nofun | exact xrv_ne _) ?_
      refine il2 dX10_move_14 ?_
      refine cd10_141 (f' := f - 1) rfl dX10_move_15 (Nat.le_of_ble_eq_true rfl) (fx17 hX) (by omega) (r_meta hX (by omega) hB) ?_
      refine ex_iconst (v := 2) dX10_move_18 (by decide) ?_
      refine ex_icmp_eq 31 dX10_move_19 (by decide) (fun h19 => ?_) (fun h19 => ?_)
      · refine il2 dX10_move_31 ?_
        refine is3 dX10_move_32 ?_
        unfold sMove
        rw [lk_eq, if_neg (by rintro (q | ⟨q1, q2⟩); exact q h6; exact q2 h19)]
        have := r_move_lp (Γ := Γ) (l := l) (f := f) (D := D) hX (by omega) hB (b := b) (hB.in14 (sMeta_2 h6)) (fun _ => hB.in14 (sMeta_2 h19)) (hF (sMeta_2 h6)) 40 40 b (hB.in14 (sMeta_2 h19)) (hA (Or.inr h19)) (Nat.le_refl _)
        by_cases hs : sInAt E a b 41 = true
        · rw [if_pos hs]
          rw [if_pos hs, if_pos hs] at this
          exact this
        · rw [if_neg hs]
          rw [if_neg hs, if_neg hs] at this
          exact this
      · refine al0 dX10_move_22 (by first | nofun | exact xrv_ne _) ?_
        refine ex_bipush (v := 6) dX10_move_23 (by decide) ?_
        refine il1 dX10_move_25 ?_
        refine il2 dX10_move_26 ?_
        refine cd10_174 (f' := f - 1) rfl dX10_move_27 (Nat.le_of_ble_eq_true rfl) (fx17 hX) (by omega) (r_fails hX hB.n27) ?_
        refine ex_iret dX10_move_30 rfl ?_
        refine ⟨?_, rfl, ?_, rfl⟩ <;> simp [sMove, *]
