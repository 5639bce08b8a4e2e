set_option maxRecDepth 20000 in
set_option maxHeartbeats 1000000 in
theorem c_tell {Γ : xGm} {l : Launch} {f : Nat} {G : xG} {D : xD} {R : xR} (hX : xFix G R) (hv : vp_in (D 13 4) 31) {k a b : Int32} : Cn Γ l f MX0_tell [.ref 13, .int k, .int a, .int b] G D R 0 0 (xdet (some (.int 0)) G (cTell D k a b) R) := by
  refine cn_of MX0_tell_ok (Nat.le_of_ble_eq_true rfl) ?_
  show Ex Γ l f MX0_tell 0 [some (.ref 13), some (.int k), some (.int a), some (.int b)] [] G D R 0 0 _
  refine al0 dX0_tell_0 (by first | nofun | exact xrv_ne _) ?_
  refine gf0_21 rfl dX0_tell_1 (fx13 hX) ?_
  refine ex_if_eq 63 dX0_tell_4 (by decide) (fun h4 => ?_) (fun h4 => ?_)
  · refine ex_iconst (v := 0) dX0_tell_63 (by decide) ?_
    refine ex_iret dX0_tell_64 rfl ?_
    refine ⟨rfl, rfl, ?_, rfl⟩
    simp [cTell, xdu_self, upd_self, xdu_ne, upd_ne, *]
  · refine al0 dX0_tell_7 (by first | nofun | exact xrv_ne _) ?_
    refine gf0_25 rfl dX0_tell_8 (fx13 hX) ?_
    refine ex_if_lt 63 dX0_tell_11 (by decide) (fun h11 => ?_) (fun h11 => ?_)
    · refine ex_iconst (v := 0) dX0_tell_63 (by decide) ?_
      refine ex_iret dX0_tell_64 rfl ?_
      refine ⟨rfl, rfl, ?_, rfl⟩
      simp [cTell, xdu_self, upd_self, xdu_ne, upd_ne, *]
    · refine al0 dX0_tell_14 (by first | nofun | exact xrv_ne _) ?_
      refine gf0_25 rfl dX0_tell_15 (fx13 hX) ?_
      refine ex_bipush (v := 30) dX0_tell_18 (by decide) ?_
      refine ex_icmp_ge 63 dX0_tell_20 (by decide) (fun h20 => ?_) (fun h20 => ?_)
      · refine ex_iconst (v := 0) dX0_tell_63 (by decide) ?_
        refine ex_iret dX0_tell_64 rfl ?_
        refine ⟨rfl, rfl, ?_, rfl⟩
        simp [cTell, xdu_self, upd_self, xdu_ne, upd_ne, *]
      · refine al0 dX0_tell_23 (by first | nofun | exact xrv_ne _) ?_
        refine gf0_9 rfl dX0_tell_24 (fr13_0 hX) (fx13 hX) ?_
        refine al0 dX0_tell_27 (by first | nofun | exact xrv_ne _) ?_
        refine gf0_25 rfl dX0_tell_28 (fx13 hX) ?_
        refine il1 dX0_tell_31 ?_
        refine ey_iast dX0_tell_32 (fx14 hX) (by first | exact vi_lt hv (by decide) h20 | (simp only [xdu_ne _ _ _ (show (13 : Nat) ≠ 14 by decide), xdu_ne _ _ _ (show (13 : Nat) ≠ 15 by decide)]; exact vi_lt hv (by decide) h20)) ?_
        refine al0 dX0_tell_33 (by first | nofun | exact xrv_ne _) ?_
        refine gf0_15 rfl dX0_tell_34 (fr13_1 hX) (fx13 hX) ?_
        refine al0 dX0_tell_37 (by first | nofun | exact xrv_ne _) ?_
        refine gf0_25 rfl dX0_tell_38 (fx13 hX) ?_
        refine il2 dX0_tell_41 ?_
        refine ey_iast dX0_tell_42 (fx15 hX) (by first | exact vi_lt hv (by decide) h20 | (simp only [xdu_ne _ _ _ (show (13 : Nat) ≠ 14 by decide), xdu_ne _ _ _ (show (13 : Nat) ≠ 15 by decide)]; exact vi_lt hv (by decide) h20)) ?_
        refine al0 dX0_tell_43 (by first | nofun | exact xrv_ne _) ?_
        refine gf0_18 rfl dX0_tell_44 (fr13_2 hX) (fx13 hX) ?_
        refine al0 dX0_tell_47 (by first | nofun | exact xrv_ne _) ?_
        refine gf0_25 rfl dX0_tell_48 (fx13 hX) ?_
        refine il3 dX0_tell_51 ?_
        refine ey_iast dX0_tell_52 (fx16 hX) (by first | exact vi_lt hv (by decide) h20 | (simp only [xdu_ne _ _ _ (show (13 : Nat) ≠ 14 by decide), xdu_ne _ _ _ (show (13 : Nat) ≠ 15 by decide)]; exact vi_lt hv (by decide) h20)) ?_
        refine al0 dX0_tell_53 (by first | nofun | exact xrv_ne _) ?_
        refine ex_dup dX0_tell_54 ?_
        refine gf0_25 rfl dX0_tell_55 (fx13 hX) ?_
        refine ex_iconst (v := 1) dX0_tell_58 (by decide) ?_
        refine ex_iadd dX0_tell_59 ?_
        refine pf0_25 rfl dX0_tell_60 (fx13 hX) ?_
        refine ex_iconst (v := 0) dX0_tell_63 (by decide) ?_
        refine ex_iret dX0_tell_64 rfl ?_
        refine ⟨rfl, rfl, ?_, rfl⟩
        simp [cTell, xdu_self, upd_self, xdu_ne, upd_ne, *]
def cHolds (v : Int32) : Bool := sIn v 1 40
theorem vi_holds {v : Int32} (h : cHolds v = true) : vp_in v 41 := vi_btw (a := 1) (x := 40) (A := 41) (vi_of (n := 40) (by decide) (by decide)) (sIn_t.mp h).1 (sIn_t.mp h).2 (by decide) (by decide)
def cOf (D : xD) (j : Nat) (v : Int32) : Int32 := if cHolds v = true then D j (ix v) else 0
set_option maxRecDepth 20000 in
set_option maxHeartbeats 1000000 in
theorem c_holds {Γ : xGm} {l : Launch} {f : Nat} {G : xG} {D : xD} {R : xR} {v : Int32} : Cn Γ l f MX7_holds [.int v] G D R 0 0 (xdet (some (.int (bi (cHolds v)))) G D R) := by
  refine cn_of MX7_holds_ok (Nat.le_of_ble_eq_true rfl) ?_
  show Ex Γ l f MX7_holds 0 [some (.int v)] [] G D R 0 0 _
  refine il0 dX7_holds_0 ?_
  refine ex_iconst (v := 1) dX7_holds_1 (by decide) ?_
  refine ex_icmp_lt 15 dX7_holds_2 (by decide) (fun h2 => ?_) (fun h2 => ?_)
  · refine ex_iconst (v := 0) dX7_holds_15 (by decide) ?_
    refine ex_zret dX7_holds_16 rfl (by decide) ?_
    refine ⟨?_, rfl, rfl, rfl⟩
    simp only [cHolds, sIn, bi, *, decide_true, decide_false, Bool.and_true, Bool.and_false, Bool.false_and, Bool.true_and]
  · refine il0 dX7_holds_5 ?_
    refine ex_bipush (v := 40) dX7_holds_6 (by decide) ?_
    refine ex_icmp_gt 15 dX7_holds_8 (by decide) (fun h8 => ?_) (fun h8 => ?_)
    · refine ex_iconst (v := 0) dX7_holds_15 (by decide) ?_
      refine ex_zret dX7_holds_16 rfl (by decide) ?_
      refine ⟨?_, rfl, rfl, rfl⟩
      simp only [cHolds, sIn, bi, *, decide_true, decide_false, Bool.and_true, Bool.and_false, Bool.false_and, Bool.true_and]
    · refine ex_iconst (v := 1) dX7_holds_11 (by decide) ?_
      refine ex_goto 16 dX7_holds_12 (by decide) ?_
      refine ex_zret dX7_holds_16 rfl (by decide) ?_
      refine ⟨?_, rfl, rfl, rfl⟩
      simp only [cHolds, sIn, bi, *, decide_true, decide_false, Bool.and_true, Bool.and_false, Bool.false_and, Bool.true_and]
set_option maxRecDepth 20000 in
set_option maxHeartbeats 1000000 in
theorem c_parentOf {Γ : xGm} {l : Launch} {f : Nat} {G : xG} {D : xD} {R : xR} (hf : 1 ≤ f) (hX : xFix G R) {v : Int32} : Cn Γ l f MX7_parentOf [.ref 5, .int v] G D R 0 0 (xdet (some (.int (cOf D 6 v))) G D R) := by
  refine cn_of MX7_parentOf_ok (Nat.le_of_ble_eq_true rfl) ?_
  show Ex Γ l f MX7_parentOf 0 [some (.ref 5), some (.int v)] [] G D R 0 0 _
  refine il1 dX7_parentOf_0 ?_
  refine cd7_21 (f' := f - 1) rfl dX7_parentOf_1 (Nat.le_of_ble_eq_true rfl) (by omega) (c_holds) ?_
  refine ex_if_eq 16 dX7_parentOf_4 (by decide) (fun h4 => ?_) (fun h4 => ?_)
  · simp only [bi_0, Bool.not_eq_false] at h4
    refine ex_iconst (v := 0) dX7_parentOf_16 (by decide) ?_
    refine ex_iret dX7_parentOf_17 rfl ?_
    refine ⟨?_, rfl, rfl, rfl⟩
    simp [cOf, ix, *]
  · simp only [bi_0, Bool.not_eq_false] at h4
    refine al0 dX7_parentOf_7 (by first | nofun | exact xrv_ne _) ?_
    refine gf7_9 rfl dX7_parentOf_8 (fr5_0 hX) (fx5 hX) ?_
    refine il1 dX7_parentOf_11 ?_
    refine ey_iald dX7_parentOf_12 (fx6 hX) (vi_holds h4) ?_
    refine ex_goto 17 dX7_parentOf_13 (by decide) ?_
    refine ex_iret dX7_parentOf_17 rfl ?_
    refine ⟨?_, rfl, rfl, rfl⟩
    simp [cOf, ix, *]
set_option maxRecDepth 20000 in
set_option maxHeartbeats 1000000 in
theorem c_childOf {Γ : xGm} {l : Launch} {f : Nat} {G : xG} {D : xD} {R : xR} (hf : 1 ≤ f) (hX : xFix G R) {v : Int32} : Cn Γ l f MX7_childOf [.ref 5, .int v] G D R 0 0 (xdet (some (.int (cOf D 7 v))) G D R) := by
  refine cn_of MX7_childOf_ok (Nat.le_of_ble_eq_true rfl) ?_
  show Ex Γ l f MX7_childOf 0 [some (.ref 5), some (.int v)] [] G D R 0 0 _
  refine il1 dX7_childOf_0 ?_
  refine cd7_21 (f' := f - 1) rfl dX7_childOf_1 (Nat.le_of_ble_eq_true rfl) (by omega) (c_holds) ?_
  refine ex_if_eq 16 dX7_childOf_4 (by decide) (fun h4 => ?_) (fun h4 => ?_)
  · simp only [bi_0, Bool.not_eq_false] at h4
    refine ex_iconst (v := 0) dX7_childOf_16 (by decide) ?_
    refine ex_iret dX7_childOf_17 rfl ?_
    refine ⟨?_, rfl, rfl, rfl⟩
    simp [cOf, ix, *]
  · simp only [bi_0, Bool.not_eq_false] at h4
    refine al0 dX7_childOf_7 (by first | nofun | exact xrv_ne _) ?_
    refine gf7_15 rfl dX7_childOf_8 (fr5_1 hX) (fx5 hX) ?_
    refine il1 dX7_childOf_11 ?_
    refine ey_iald dX7_childOf_12 (fx7 hX) (vi_holds h4) ?_
    refine ex_goto 17 dX7_childOf_13 (by decide) ?_
    refine ex_iret dX7_childOf_17 rfl ?_
    refine ⟨?_, rfl, rfl, rfl⟩
    simp [cOf, ix, *]
set_option maxRecDepth 20000 in
set_option maxHeartbeats 1000000 in
theorem c_siblingOf {Γ : xGm} {l : Launch} {f : Nat} {G : xG} {D : xD} {R : xR} (hf : 1 ≤ f) (hX : xFix G R) {v : Int32} : Cn Γ l f MX7_siblingOf [.ref 5, .int v] G D R 0 0 (xdet (some (.int (cOf D 8 v))) G D R) := by
  refine cn_of MX7_siblingOf_ok (Nat.le_of_ble_eq_true rfl) ?_
  show Ex Γ l f MX7_siblingOf 0 [some (.ref 5), some (.int v)] [] G D R 0 0 _
  refine il1 dX7_siblingOf_0 ?_
  refine cd7_21 (f' := f - 1) rfl dX7_siblingOf_1 (Nat.le_of_ble_eq_true rfl) (by omega) (c_holds) ?_
  refine ex_if_eq 16 dX7_siblingOf_4 (by decide) (fun h4 => ?_) (fun h4 => ?_)
  · simp only [bi_0, Bool.not_eq_false] at h4
    refine ex_iconst (v := 0) dX7_siblingOf_16 (by decide) ?_
    refine ex_iret dX7_siblingOf_17 rfl ?_
    refine ⟨?_, rfl, rfl, rfl⟩
    simp [cOf, ix, *]
  · simp only [bi_0, Bool.not_eq_false] at h4
    refine al0 dX7_siblingOf_7 (by first | nofun | exact xrv_ne _) ?_
    refine gf7_18 rfl dX7_siblingOf_8 (fr5_2 hX) (fx5 hX) ?_
    refine il1 dX7_siblingOf_11 ?_
    refine ey_iald dX7_siblingOf_12 (fx8 hX) (vi_holds h4) ?_
    refine ex_goto 17 dX7_siblingOf_13 (by decide) ?_
    refine ex_iret dX7_siblingOf_17 rfl ?_
    refine ⟨?_, rfl, rfl, rfl⟩
    simp [cOf, ix, *]
