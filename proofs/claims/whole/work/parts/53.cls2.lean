/-! ===== the class's tree: its three arrays are the reference's ===== -/
def tS (D E : xD) : xD := fun q => if q = 6 then E 19 else if q = 7 then E 20 else if q = 8 then E 21 else D q
theorem tS_6 (D E : xD) : tS D E 6 = E 19 := rfl
theorem tS_7 (D E : xD) : tS D E 7 = E 20 := rfl
theorem tS_8 (D E : xD) : tS D E 8 = E 21 := rfl
theorem tS_ne (D E : xD) {q : Nat} (h : q ≠ 6 ∧ q ≠ 7 ∧ q ≠ 8) : tS D E q = D q := by
  unfold tS
  rw [if_neg h.1, if_neg h.2.1, if_neg h.2.2]
theorem tS_id {D E : xD} (h : cTr D E) : tS D E = D := by
  funext q
  unfold tS
  split
  next e => rw [e, h.1]
  next =>
    split
    next e => rw [e, h.2.1]
    next =>
      split
      next e => rw [e, h.2.2]
      next => rfl
theorem tS_s6 (D E : xD) (k : Nat) (x : Int32) : xdu (tS D E) 6 k x = tS D (xdu E 19 k x) := by
  funext q
  by_cases h : q = 6
  · subst h
    rw [xdu_self]
    show upd (E 19) k x = xdu E 19 k x 19
    rw [xdu_self]
  · rw [xdu_ne _ _ _ h]
    unfold tS
    rw [xdu_ne E k x (show (20 : Nat) ≠ 19 by decide), xdu_ne E k x (show (21 : Nat) ≠ 19 by decide)]
    simp [h]
theorem tS_s7 (D E : xD) (k : Nat) (x : Int32) : xdu (tS D E) 7 k x = tS D (xdu E 20 k x) := by
  funext q
  by_cases h : q = 7
  · subst h
    rw [xdu_self]
    show upd (E 20) k x = xdu E 20 k x 20
    rw [xdu_self]
  · rw [xdu_ne _ _ _ h]
    unfold tS
    rw [xdu_ne E k x (show (19 : Nat) ≠ 20 by decide), xdu_ne E k x (show (21 : Nat) ≠ 20 by decide)]
    simp [h]
theorem tS_s8 (D E : xD) (k : Nat) (x : Int32) : xdu (tS D E) 8 k x = tS D (xdu E 21 k x) := by
  funext q
  by_cases h : q = 8
  · subst h
    rw [xdu_self]
    show upd (E 21) k x = xdu E 21 k x 21
    rw [xdu_self]
  · rw [xdu_ne _ _ _ h]
    unfold tS
    rw [xdu_ne E k x (show (19 : Nat) ≠ 21 by decide), xdu_ne E k x (show (20 : Nat) ≠ 21 by decide)]
    simp [h]
section XT
variable {Γ : xGm} {l : Launch} {f : Nat} {μ : xMt} {pc : Nat} {L : List (Option Value)} {st : List Value} {G : xG} {D E : xD} {R : xR} {kc kw : Nat} {Q : Option Value → xG → xD → xR → Prop}
theorem tl_6 {i : Int32} (hX : xFix G R) (hd : decode μ.2.1 pc = .ok (.iaload, 1)) (hi : vp_in i 41) (kk : Ex Γ l f μ (pc + 1) L (.int (E 19 (ix i)) :: st) G (tS D E) R kc kw Q) : Ex Γ l f μ pc L (.int i :: .ref 6 :: st) G (tS D E) R kc kw Q := ey_iald hd (fx6 hX) hi kk
theorem ts_6 {i x : Int32} (hX : xFix G R) (hd : decode μ.2.1 pc = .ok (.iastore, 1)) (hi : vp_in i 41) (kk : Ex Γ l f μ (pc + 1) L st G (tS D (xdu E 19 (ix i) x)) R kc kw Q) : Ex Γ l f μ pc L (.int x :: .int i :: .ref 6 :: st) G (tS D E) R kc kw Q := ey_iast hd (fx6 hX) hi (by rw [tS_s6]; exact kk)
theorem tl_7 {i : Int32} (hX : xFix G R) (hd : decode μ.2.1 pc = .ok (.iaload, 1)) (hi : vp_in i 41) (kk : Ex Γ l f μ (pc + 1) L (.int (E 20 (ix i)) :: st) G (tS D E) R kc kw Q) : Ex Γ l f μ pc L (.int i :: .ref 7 :: st) G (tS D E) R kc kw Q := ey_iald hd (fx7 hX) hi kk
theorem ts_7 {i x : Int32} (hX : xFix G R) (hd : decode μ.2.1 pc = .ok (.iastore, 1)) (hi : vp_in i 41) (kk : Ex Γ l f μ (pc + 1) L st G (tS D (xdu E 20 (ix i) x)) R kc kw Q) : Ex Γ l f μ pc L (.int x :: .int i :: .ref 7 :: st) G (tS D E) R kc kw Q := ey_iast hd (fx7 hX) hi (by rw [tS_s7]; exact kk)
theorem tl_8 {i : Int32} (hX : xFix G R) (hd : decode μ.2.1 pc = .ok (.iaload, 1)) (hi : vp_in i 41) (kk : Ex Γ l f μ (pc + 1) L (.int (E 21 (ix i)) :: st) G (tS D E) R kc kw Q) : Ex Γ l f μ pc L (.int i :: .ref 8 :: st) G (tS D E) R kc kw Q := ey_iald hd (fx8 hX) hi kk
theorem ts_8 {i x : Int32} (hX : xFix G R) (hd : decode μ.2.1 pc = .ok (.iastore, 1)) (hi : vp_in i 41) (kk : Ex Γ l f μ (pc + 1) L st G (tS D (xdu E 21 (ix i) x)) R kc kw Q) : Ex Γ l f μ pc L (.int x :: .int i :: .ref 8 :: st) G (tS D E) R kc kw Q := ey_iast hd (fx8 hX) hi (by rw [tS_s8]; exact kk)
end XT
def eOf (E : xD) (j : Nat) (v : Int32) : Int32 := if cHolds v = true then E j (ix v) else 0
theorem c_parentOf_t {Γ : xGm} {l : Launch} {f : Nat} {G : xG} {D E : xD} {R : xR} (hX : xFix G R) (hf : 1 ≤ f) {v : Int32} : Cn Γ l f MX7_parentOf [.ref 5, .int v] G (tS D E) R 0 0 (xdet (some (.int (eOf E 19 v))) G (tS D E) R) := c_parentOf (D := tS D E) hf hX
theorem c_childOf_t {Γ : xGm} {l : Launch} {f : Nat} {G : xG} {D E : xD} {R : xR} (hX : xFix G R) (hf : 1 ≤ f) {v : Int32} : Cn Γ l f MX7_childOf [.ref 5, .int v] G (tS D E) R 0 0 (xdet (some (.int (eOf E 20 v))) G (tS D E) R) := c_childOf (D := tS D E) hf hX
theorem c_siblingOf_t {Γ : xGm} {l : Launch} {f : Nat} {G : xG} {D E : xD} {R : xR} (hX : xFix G R) (hf : 1 ≤ f) {v : Int32} : Cn Γ l f MX7_siblingOf [.ref 5, .int v] G (tS D E) R 0 0 (xdet (some (.int (eOf E 21 v))) G (tS D E) R) := c_siblingOf (D := tS D E) hf hX
set_option maxRecDepth 20000 in
set_option maxHeartbeats 1000000 in
theorem c_put {Γ : xGm} {l : Launch} {f : Nat} {G : xG} {D E : xD} {R : xR} (hf : 1 ≤ f) (hX : xFix G R) {a b : Int32} (ha : cHolds a = true) : Cn Γ l f MX7_put [.ref 5, .int a, .int b] G (tS D E) R 0 0 (xdet none G (tS D (if cHolds b = true then xdu (xdu (xdu E 19 (ix a) b) 21 (ix a) (E 20 (ix b))) 20 (ix b) a else E)) R) := by
  refine cn_of MX7_put_ok (Nat.le_of_ble_eq_true rfl) ?_
  show Ex Γ l f MX7_put 0 [some (.ref 5), some (.int a), some (.int b)] [] G (tS D E) R 0 0 _
  refine il1 dX7_put_0 ?_
  refine cd7_21 (f' := f - 1) rfl dX7_put_1 (Nat.le_of_ble_eq_true rfl) (by omega) (c_holds) ?_
  refine ex_if_eq 40 dX7_put_4 (by decide) (fun h4 => ?_) (fun h4 => ?_)
  · rw [ha] at h4; cases h4
  · simp only [bi_0, Bool.not_eq_false] at h4
    refine il2 dX7_put_7 ?_
    refine cd7_21 (f' := f - 1) rfl dX7_put_8 (Nat.le_of_ble_eq_true rfl) (by omega) (c_holds) ?_
    refine ex_if_eq 40 dX7_put_11 (by decide) (fun h11 => ?_) (fun h11 => ?_)
    · simp only [bi_0, Bool.not_eq_false] at h11
      refine ex_vret dX7_put_40 rfl ?_
      refine ⟨rfl, rfl, ?_, rfl⟩
      simp [xdu_ne, *]
    · simp only [bi_0, Bool.not_eq_false] at h11
      refine al0 dX7_put_14 (by first | nofun | exact xrv_ne _) ?_
      refine gf7_9 rfl dX7_put_15 (fr5_0 hX) (fx5 hX) ?_
      refine il1 dX7_put_18 ?_
      refine il2 dX7_put_19 ?_
      refine ts_6 hX dX7_put_20 (vi_holds ha) ?_
      refine al0 dX7_put_21 (by first | nofun | exact xrv_ne _) ?_
      refine gf7_18 rfl dX7_put_22 (fr5_2 hX) (fx5 hX) ?_
      refine il1 dX7_put_25 ?_
      refine al0 dX7_put_26 (by first | nofun | exact xrv_ne _) ?_
      refine gf7_15 rfl dX7_put_27 (fr5_1 hX) (fx5 hX) ?_
      refine il2 dX7_put_30 ?_
      refine tl_7 hX dX7_put_31 (vi_holds h11) ?_
      refine ts_8 hX dX7_put_32 (vi_holds ha) ?_
      refine al0 dX7_put_33 (by first | nofun | exact xrv_ne _) ?_
      refine gf7_15 rfl dX7_put_34 (fr5_1 hX) (fx5 hX) ?_
      refine il2 dX7_put_37 ?_
      refine il1 dX7_put_38 ?_
      refine ts_7 hX dX7_put_39 (vi_holds h11) ?_
      refine ex_vret dX7_put_40 rfl ?_
      refine ⟨rfl, rfl, ?_, rfl⟩
      simp [xdu_ne, *]
set_option maxRecDepth 20000 in
set_option maxHeartbeats 1000000 in
theorem c_gap_lp {Γ : xGm} {l : Launch} {f : Nat} {G : xG} {D E : xD} {R : xR} (hX : xFix G R) (hf : 2 ≤ f) (hv : ∀ x, x < 41 → vp_in (E 21 x) 41) {o c : Nat} (o1 : 1 ≤ o) (o2 : o < 41) {z : Option Value} : ∀ (l1 : List Nat) (x k : Nat), sg (nat E 21) x (l1 ++ [c]) o → (∀ y ∈ l1 ++ [c], y < 41) → o ∉ l1 ++ [c] → k + (l1.length + 1) ≤ 40 → Ex Γ l f MX7_closeGap 5 [some (.ref 5), z, some (.int (nI o)), some (.int (nI x)), some (.int (nI k))] [] G (tS D E) R 0 0 (xdet none G (tS D (xdu E 21 c (E 21 o))) R) := by
  intro l1
  induction l1 with
  | nil =>
    intro x k hs hlt hno hk
    obtain ⟨hxc, hc0, hc⟩ := hs
    have hx0 : x ≠ 0 := by rw [hxc]; exact hc0
    have hx4 : x < 41 := by rw [hxc]; exact hlt c (by simp)
    have hhx : cHolds (nI x) = true := sIn_t.mpr ⟨nI_le (a := 1) (by omega) (by omega), nI_le (b := 40) (by omega) (by decide)⟩
    have hho : cHolds (nI o) = true := sIn_t.mpr ⟨nI_le (a := 1) (by omega) (by omega), nI_le (b := 40) (by omega) (by decide)⟩
    have e21 := vi_n (hv x hx4) (by decide)
    have ho : E 21 (ix (nI x)) = nI o := by
      rw [ix_nI (by omega), e21.1]
      congr 1
      rw [hxc]
      exact hc
    refine il3 dX7_closeGap_5 ?_
    refine cd7_21 (f' := f - 1) rfl dX7_closeGap_6 (Nat.le_of_ble_eq_true rfl) (by omega) (c_holds) ?_
    refine ex_if_eq 54 dX7_closeGap_9 (by decide) (fun h9 => ?_) (fun h9 => ?_)
    · rw [hhx] at h9; cases h9
    · simp only [bi_0, Bool.not_eq_false] at h9
      refine il4 dX7_closeGap_12 ?_
      refine ex_bipush (v := 40) dX7_closeGap_14 (by decide) ?_
      refine ex_icmp_ge 54 dX7_closeGap_16 (by decide) (fun h16 => ?_) (fun h16 => ?_)
      · exact absurd h16 (nI_ge (a := k) (b := 40) (by omega) (by decide))
      · refine al0 dX7_closeGap_19 (by first | nofun | exact xrv_ne _) ?_
        refine gf7_18 rfl dX7_closeGap_20 (fr5_2 hX) (fx5 hX) ?_
        refine il3 dX7_closeGap_23 ?_
        refine tl_8 hX dX7_closeGap_24 (vi_of hx4 (by decide)) ?_
        refine il2 dX7_closeGap_25 ?_
        refine ex_icmp_ne 41 dX7_closeGap_26 (by decide) (fun h26 => ?_) (fun h26 => ?_)
        · exact absurd ho h26
        · refine al0 dX7_closeGap_29 (by first | nofun | exact xrv_ne _) ?_
          refine gf7_18 rfl dX7_closeGap_30 (fr5_2 hX) (fx5 hX) ?_
          refine il3 dX7_closeGap_33 ?_
          refine al0 dX7_closeGap_34 (by first | nofun | exact xrv_ne _) ?_
          refine il2 dX7_closeGap_35 ?_
          refine cd7_29 (f' := f - 1) rfl dX7_closeGap_36 (Nat.le_of_ble_eq_true rfl) (fx5 hX) (by omega) (c_siblingOf_t hX (by omega)) ?_
          refine ts_8 hX dX7_closeGap_39 (vi_of hx4 (by decide)) ?_
          refine ex_vret dX7_closeGap_40 rfl ?_
          refine ⟨rfl, rfl, ?_, rfl⟩
          rw [ix_nI (show x < 2 ^ 31 by omega), hxc]
          unfold eOf
          rw [if_pos hho, ix_nI (show o < 2 ^ 31 by omega)]
  | cons y l1 ih =>
    intro x k hs hlt hno hk
    obtain ⟨hxy, hy0, hc⟩ := hs
    have hx0 : x ≠ 0 := by rw [hxy]; exact hy0
    have hx4 : x < 41 := by rw [hxy]; exact hlt y (by simp)
    have hhx : cHolds (nI x) = true := sIn_t.mpr ⟨nI_le (a := 1) (by omega) (by omega), nI_le (b := 40) (by omega) (by decide)⟩
    have hho : cHolds (nI o) = true := sIn_t.mpr ⟨nI_le (a := 1) (by omega) (by omega), nI_le (b := 40) (by omega) (by decide)⟩
    have e21 := vi_n (hv x hx4) (by decide)
    rw [← hxy] at hc
    have hne : ¬ E 21 (ix (nI x)) = nI o := fun q => by
      rw [ix_nI (by omega)] at q
      have q2 : nat E 21 x = o := by unfold nat; rw [q, ix_nI (by omega)]
      rw [q2] at hc
      cases l1 with
      | nil => exact hno (by rw [(show o = c from hc.1)]; simp)
      | cons z l => exact hno (by rw [(show o = z from hc.1)]; simp)
    refine il3 dX7_closeGap_5 ?_
    refine cd7_21 (f' := f - 1) rfl dX7_closeGap_6 (Nat.le_of_ble_eq_true rfl) (by omega) (c_holds) ?_
    refine ex_if_eq 54 dX7_closeGap_9 (by decide) (fun h9 => ?_) (fun h9 => ?_)
    · rw [hhx] at h9; cases h9
    · simp only [bi_0, Bool.not_eq_false] at h9
      refine il4 dX7_closeGap_12 ?_
      refine ex_bipush (v := 40) dX7_closeGap_14 (by decide) ?_
      refine ex_icmp_ge 54 dX7_closeGap_16 (by decide) (fun h16 => ?_) (fun h16 => ?_)
      · exact absurd h16 (nI_ge (a := k) (b := 40) (by omega) (by decide))
      · refine al0 dX7_closeGap_19 (by first | nofun | exact xrv_ne _) ?_
        refine gf7_18 rfl dX7_closeGap_20 (fr5_2 hX) (fx5 hX) ?_
        refine il3 dX7_closeGap_23 ?_
        refine tl_8 hX dX7_closeGap_24 (vi_of hx4 (by decide)) ?_
        refine il2 dX7_closeGap_25 ?_
        refine ex_icmp_ne 41 dX7_closeGap_26 (by decide) (fun h26 => ?_) (fun h26 => ?_)
        · refine al0 dX7_closeGap_41 (by first | nofun | exact xrv_ne _) ?_
          refine gf7_18 rfl dX7_closeGap_42 (fr5_2 hX) (fx5 hX) ?_
          refine il3 dX7_closeGap_45 ?_
          refine tl_8 hX dX7_closeGap_46 (vi_of hx4 (by decide)) ?_
          rw [ix_nI (show x < 2 ^ 31 by omega), e21.1]
          refine is3 dX7_closeGap_47 ?_
          refine ic4 (nI (k + 1)) dX7_closeGap_48 (nI_1 k) ?_
          refine ex_goto 5 dX7_closeGap_51 (by decide) ?_
          simp only [List.length_cons] at hk
          exact ih _ (k + 1) hc (fun z hz => hlt z (by simp at hz ⊢; exact Or.inr hz)) (fun q => hno (by simp at q ⊢; exact Or.inr q)) (by omega)
        · exact absurd h26 hne
