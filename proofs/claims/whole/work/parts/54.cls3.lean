theorem sLeave_cs {E : xD} (hB : RB E) (hF : FO E) {o : Nat} (h1 : 1 ≤ o) (h2 : o < 41) :
    (E 19 o = 0 ∧ sLeave E (nI o) = E) ∨ ∃ p, 1 ≤ p ∧ p < 41 ∧ E 19 o = nI p ∧ ((E 20 p = nI o ∧ sLeave E (nI o) = xdu (xdu (xdu E 20 p (E 21 o)) 19 o 0) 21 o 0) ∨ ∃ h l1 c, ¬ E 20 p = nI o ∧ E 20 p = nI h ∧ sg (nat E 21) h (l1 ++ [c]) o ∧ (∀ y ∈ l1 ++ [c], y < 41) ∧ o ∉ l1 ++ [c] ∧ l1.length + 1 ≤ 40 ∧ sLeave E (nI o) = xdu (xdu (xdu E 21 c (E 21 o)) 19 o 0) 21 o 0) := by
  have eo : ix (nI o) = o := ix_nI (by omega)
  have ev := vi_n (hB.a19 h2) (by decide)
  by_cases hp : E 19 o = 0
  · exact Or.inl ⟨hp, by unfold sLeave; rw [eo, if_pos hp]⟩
  · refine Or.inr ⟨ix (E 19 o), ?_, ev.2, ev.1, ?_⟩
    · have : ix (E 19 o) ≠ 0 := fun q => hp (by rw [ev.1, q]; rfl)
      omega
    obtain ⟨kids, h⟩ := id hF
    have hpn : nat E 19 o ≠ 0 := fun q => hp (by rw [ev.1]; unfold nat at q; rw [q]; rfl)
    have hpl : nat E 19 o < 41 := ev.2
    have e20 := vi_n (hB.a20 hpl) (by decide)
    rcases FO_leave h h1 h2 hpn hpl with ⟨hc, kids', h'⟩ | ⟨hc, l1, k, kids', hs, hno, hnd, hlt, h'⟩
    · have hc' : E 20 (ix (E 19 o)) = nI o := by
        have := e20.1
        unfold nat at hc this
        rw [hc] at this
        exact this
      refine Or.inl ⟨hc', ?_⟩
      unfold sLeave
      rw [eo, if_neg hp, if_pos hc']
    · have hc' : ¬ E 20 (ix (E 19 o)) = nI o := fun q => hc (by unfold nat; rw [q, eo])
      have hl40 := nd_len hnd (fun x hx => ⟨sg_ne hs x hx, hlt x hx⟩)
      simp at hl40
      have hk : k < 41 := hlt k (by simp)
      have hh : E 20 (ix (E 19 o)) = nI (nat E 20 (nat E 19 o)) := e20.1
      have hfd : sFind E (nI o) (E 20 (ix (E 19 o))) (lk 40) = nI k := by
        rw [lk_eq, hh]
        exact sg_find (fun x hx => hB.a21 hx) hk h2 l1 _ 40 hs hno e20.2 (by omega)
      refine Or.inr ⟨_, l1, k, hc', hh, hs, hlt, hno, (by omega), ?_⟩
      unfold sLeave
      rw [eo, if_neg hp, if_neg hc', hfd, ix_nI (by omega)]
theorem cHolds_n {o : Nat} (h1 : 1 ≤ o) (h2 : o < 41) : cHolds (nI o) = true := sIn_t.mpr ⟨nI_le (a := 1) (by omega) (by omega), nI_le (b := 40) (by omega) (by decide)⟩
theorem eOf_n {E : xD} {j o : Nat} (h1 : 1 ≤ o) (h2 : o < 41) : eOf E j (nI o) = E j o := by
  unfold eOf
  rw [if_pos (cHolds_n h1 h2), ix_nI (by omega)]
theorem cHolds_0 : cHolds 0 = false := by decide
set_option maxRecDepth 20000 in
set_option maxHeartbeats 1000000 in
theorem c_gap {Γ : xGm} {l : Launch} {f : Nat} {G : xG} {D E : xD} {R : xR} (hf : 2 ≤ f) (hX : xFix G R) (hv : ∀ x, x < 41 → vp_in (E 21 x) 41) {o c h : Nat} (o1 : 1 ≤ o) (o2 : o < 41) {l1 : List Nat} (hs : sg (nat E 21) h (l1 ++ [c]) o) (hlt : ∀ y ∈ l1 ++ [c], y < 41) (hno : o ∉ l1 ++ [c]) (hk : l1.length + 1 ≤ 40) : Cn Γ l f MX7_closeGap [.ref 5, .int (nI h), .int (nI o)] G (tS D E) R 0 0 (xdet none G (tS D (xdu E 21 c (E 21 o))) R) := by
  refine cn_of MX7_closeGap_ok (Nat.le_of_ble_eq_true rfl) ?_
  show Ex Γ l f MX7_closeGap 0 [some (.ref 5), some (.int (nI h)), some (.int (nI o)), none, none] [] G (tS D E) R 0 0 _
  refine il1 dX7_closeGap_0 ?_
  refine is3 dX7_closeGap_1 ?_
  refine ex_iconst (v := 0) dX7_closeGap_2 (by decide) ?_
  refine is4 dX7_closeGap_3 ?_
  exact c_gap_lp hX hf hv o1 o2 l1 h 0 hs hlt hno (by omega)
set_option maxRecDepth 20000 in
set_option maxHeartbeats 1000000 in
theorem c_lift {Γ : xGm} {l : Launch} {f : Nat} {G : xG} {D E : xD} {R : xR} (hf : 3 ≤ f) (hX : xFix G R) (hB : RB E) (hF : FO E) {o : Nat} (h1 : 1 ≤ o) (h2 : o < 41) : Cn Γ l f MX7_lift [.ref 5, .int (nI o)] G (tS D E) R 0 0 (xdet none G (tS D (sLeave E (nI o))) R) := by
  have eo : ix (nI o) = o := ix_nI (by omega)
  have hho := cHolds_n h1 h2
  have hv : ∀ x, x < 41 → vp_in (E 21 x) 41 := fun x hx => hB.a21 hx
  refine cn_of MX7_lift_ok (Nat.le_of_ble_eq_true rfl) ?_
  rcases sLeave_cs hB hF h1 h2 with ⟨hp, hL⟩ | ⟨p, p1, p2, hp, ⟨hq, hL⟩ | ⟨h, l1, c, hq, hh, hs, hlt, hno, hk, hL⟩⟩
  · show Ex Γ l f MX7_lift 0 [some (.ref 5), some (.int (nI o)), none] [] G (tS D E) R 0 0 _
    refine al0 dX7_lift_0 (by first | nofun | exact xrv_ne _) ?_
    refine il1 dX7_lift_1 ?_
    refine cd7_32 (f' := f - 1) rfl dX7_lift_2 (Nat.le_of_ble_eq_true rfl) (fx5 hX) (by omega) (c_parentOf_t hX (by omega)) ?_
    rw [eOf_n h1 h2]
    refine is2 dX7_lift_5 ?_
    refine il1 dX7_lift_6 ?_
    refine cd7_21 (f' := f - 1) rfl dX7_lift_7 (Nat.le_of_ble_eq_true rfl) (by omega) (c_holds) ?_
    refine ex_if_eq 20 dX7_lift_10 (by decide) (fun h10 => ?_) (fun h10 => ?_)
    · rw [hho] at h10; cases h10
    · simp only [bi_0, Bool.not_eq_false] at h10
      refine il2 dX7_lift_13 ?_
      refine cd7_21 (f' := f - 1) rfl dX7_lift_14 (Nat.le_of_ble_eq_true rfl) (by omega) (c_holds) ?_
      refine ex_if_ne 21 dX7_lift_17 (by decide) (fun h17 => ?_) (fun h17 => ?_)
      · rw [hp, cHolds_0] at h17; exact absurd rfl h17
      · simp only [bi_0, Bool.not_eq_false] at h17
        refine ex_vret dX7_lift_20 rfl ?_
        refine ⟨rfl, rfl, ?_, rfl⟩
        rw [hL]
  · show Ex Γ l f MX7_lift 0 [some (.ref 5), some (.int (nI o)), none] [] G (tS D E) R 0 0 _
    refine al0 dX7_lift_0 (by first | nofun | exact xrv_ne _) ?_
    refine il1 dX7_lift_1 ?_
    refine cd7_32 (f' := f - 1) rfl dX7_lift_2 (Nat.le_of_ble_eq_true rfl) (fx5 hX) (by omega) (c_parentOf_t hX (by omega)) ?_
    rw [eOf_n h1 h2]
    refine is2 dX7_lift_5 ?_
    refine il1 dX7_lift_6 ?_
    refine cd7_21 (f' := f - 1) rfl dX7_lift_7 (Nat.le_of_ble_eq_true rfl) (by omega) (c_holds) ?_
    refine ex_if_eq 20 dX7_lift_10 (by decide) (fun h10 => ?_) (fun h10 => ?_)
    · rw [hho] at h10; cases h10
    · simp only [bi_0, Bool.not_eq_false] at h10
      refine il2 dX7_lift_13 ?_
      refine cd7_21 (f' := f - 1) rfl dX7_lift_14 (Nat.le_of_ble_eq_true rfl) (by omega) (c_holds) ?_
      refine ex_if_ne 21 dX7_lift_17 (by decide) (fun h17 => ?_) (fun h17 => ?_)
      · simp only [bi_0, Bool.not_eq_false] at h17
        refine al0 dX7_lift_21 (by first | nofun | exact xrv_ne _) ?_
        refine gf7_15 rfl dX7_lift_22 (fr5_1 hX) (fx5 hX) ?_
        refine il2 dX7_lift_25 ?_
        refine tl_7 hX dX7_lift_26 (by rw [hp]; exact vi_of p2 (by decide)) ?_
        refine il1 dX7_lift_27 ?_
        refine ex_icmp_ne 46 dX7_lift_28 (by decide) (fun h28 => ?_) (fun h28 => ?_)
        · exact absurd (by rw [hp, ix_nI (show p < 2 ^ 31 by omega)]; exact hq) h28
        · refine al0 dX7_lift_31 (by first | nofun | exact xrv_ne _) ?_
          refine gf7_15 rfl dX7_lift_32 (fr5_1 hX) (fx5 hX) ?_
          refine il2 dX7_lift_35 ?_
          refine al0 dX7_lift_36 (by first | nofun | exact xrv_ne _) ?_
          refine gf7_18 rfl dX7_lift_37 (fr5_2 hX) (fx5 hX) ?_
          refine il1 dX7_lift_40 ?_
          refine tl_8 hX dX7_lift_41 (vi_of h2 (by decide)) ?_
          refine ts_7 hX dX7_lift_42 (by rw [hp]; exact vi_of p2 (by decide)) ?_
          refine ex_goto 57 dX7_lift_43 (by decide) ?_
          refine al0 dX7_lift_57 (by first | nofun | exact xrv_ne _) ?_
          refine gf7_9 rfl dX7_lift_58 (fr5_0 hX) (fx5 hX) ?_
          refine il1 dX7_lift_61 ?_
          refine ex_iconst (v := 0) dX7_lift_62 (by decide) ?_
          refine ts_6 hX dX7_lift_63 (vi_of h2 (by decide)) ?_
          refine al0 dX7_lift_64 (by first | nofun | exact xrv_ne _) ?_
          refine gf7_18 rfl dX7_lift_65 (fr5_2 hX) (fx5 hX) ?_
          refine il1 dX7_lift_68 ?_
          refine ex_iconst (v := 0) dX7_lift_69 (by decide) ?_
          refine ts_8 hX dX7_lift_70 (vi_of h2 (by decide)) ?_
          refine ex_vret dX7_lift_71 rfl ?_
          refine ⟨rfl, rfl, ?_, rfl⟩
          rw [hL, hp, ix_nI (show p < 2 ^ 31 by omega), eo]
      · rw [hp, cHolds_n p1 p2] at h17; cases h17
  · show Ex Γ l f MX7_lift 0 [some (.ref 5), some (.int (nI o)), none] [] G (tS D E) R 0 0 _
    refine al0 dX7_lift_0 (by first | nofun | exact xrv_ne _) ?_
    refine il1 dX7_lift_1 ?_
    refine cd7_32 (f' := f - 1) rfl dX7_lift_2 (Nat.le_of_ble_eq_true rfl) (fx5 hX) (by omega) (c_parentOf_t hX (by omega)) ?_
    rw [eOf_n h1 h2]
    refine is2 dX7_lift_5 ?_
    refine il1 dX7_lift_6 ?_
    refine cd7_21 (f' := f - 1) rfl dX7_lift_7 (Nat.le_of_ble_eq_true rfl) (by omega) (c_holds) ?_
    refine ex_if_eq 20 dX7_lift_10 (by decide) (fun h10 => ?_) (fun h10 => ?_)
    · rw [hho] at h10; cases h10
    · simp only [bi_0, Bool.not_eq_false] at h10
      refine il2 dX7_lift_13 ?_
      refine cd7_21 (f' := f - 1) rfl dX7_lift_14 (Nat.le_of_ble_eq_true rfl) (by omega) (c_holds) ?_
      refine ex_if_ne 21 dX7_lift_17 (by decide) (fun h17 => ?_) (fun h17 => ?_)
      · simp only [bi_0, Bool.not_eq_false] at h17
        refine al0 dX7_lift_21 (by first | nofun | exact xrv_ne _) ?_
        refine gf7_15 rfl dX7_lift_22 (fr5_1 hX) (fx5 hX) ?_
        refine il2 dX7_lift_25 ?_
        refine tl_7 hX dX7_lift_26 (by rw [hp]; exact vi_of p2 (by decide)) ?_
        refine il1 dX7_lift_27 ?_
        refine ex_icmp_ne 46 dX7_lift_28 (by decide) (fun h28 => ?_) (fun h28 => ?_)
        · refine al0 dX7_lift_46 (by first | nofun | exact xrv_ne _) ?_
          refine al0 dX7_lift_47 (by first | nofun | exact xrv_ne _) ?_
          refine gf7_15 rfl dX7_lift_48 (fr5_1 hX) (fx5 hX) ?_
          refine il2 dX7_lift_51 ?_
          refine tl_7 hX dX7_lift_52 (by rw [hp]; exact vi_of p2 (by decide)) ?_
          rw [hp, ix_nI (show p < 2 ^ 31 by omega), hh]
          refine il1 dX7_lift_53 ?_
          refine cd7_35 (f' := f - 1) rfl dX7_lift_54 (Nat.le_of_ble_eq_true rfl) (fx5 hX) (by omega) (c_gap (by omega) hX hv h1 h2 hs hlt hno hk) ?_
          refine al0 dX7_lift_57 (by first | nofun | exact xrv_ne _) ?_
          refine gf7_9 rfl dX7_lift_58 (fr5_0 hX) (fx5 hX) ?_
          refine il1 dX7_lift_61 ?_
          refine ex_iconst (v := 0) dX7_lift_62 (by decide) ?_
          refine ts_6 hX dX7_lift_63 (vi_of h2 (by decide)) ?_
          refine al0 dX7_lift_64 (by first | nofun | exact xrv_ne _) ?_
          refine gf7_18 rfl dX7_lift_65 (fr5_2 hX) (fx5 hX) ?_
          refine il1 dX7_lift_68 ?_
          refine ex_iconst (v := 0) dX7_lift_69 (by decide) ?_
          refine ts_8 hX dX7_lift_70 (vi_of h2 (by decide)) ?_
          refine ex_vret dX7_lift_71 rfl ?_
          refine ⟨rfl, rfl, ?_, rfl⟩
          rw [hL, eo]
        · exact absurd (by rw [hp, ix_nI (show p < 2 ^ 31 by omega)] at h28; exact h28) hq
      · rw [hp, cHolds_n p1 p2] at h17; cases h17
set_option maxRecDepth 20000 in
set_option maxHeartbeats 1000000 in
theorem c_lc_lp {Γ : xGm} {l : Launch} {f : Nat} {G : xG} {D : xD} {R : xR} (hf : 4 ≤ f) (hX : xFix G R) {o : Nat} (h1 : 1 ≤ o) (h2 : o < 41) : ∀ (n k : Nat) (E : xD), Iv E → k + n = 40 → lOk E (nI o) n → Ex Γ l f MX7_liftChildren 2 [some (.ref 5), some (.int (nI o)), some (.int (nI k))] [] G (tS D E) R 0 0 (xdet none G (tS D (sLift E (nI o) n)) R) := by
  have eo : ix (nI o) = o := ix_nI (by omega)
  intro n
  induction n with
  | zero =>
    intro k E hI hk hl
    have hl : E 20 (ix (nI o)) = 0 := hl
    rw [eo] at hl
    refine al0 dX7_liftChildren_2 (by first | nofun | exact xrv_ne _) ?_
    refine il1 dX7_liftChildren_3 ?_
    refine cd7_25 (f' := f - 1) rfl dX7_liftChildren_4 (Nat.le_of_ble_eq_true rfl) (fx5 hX) (by omega) (c_childOf_t hX (by omega)) ?_
    rw [eOf_n h1 h2]
    refine ex_if_eq 31 dX7_liftChildren_7 (by decide) (fun h7 => ?_) (fun h7 => ?_)
    · refine ex_vret dX7_liftChildren_31 rfl ?_
      exact ⟨rfl, rfl, rfl, rfl⟩
    · exact absurd hl h7
  | succ n ih =>
    intro k E hI hk hl
    by_cases h0 : E 20 o = 0
    · rw [show sLift E (nI o) (n + 1) = E from by rw [sLift, eo, if_pos h0]]
      refine al0 dX7_liftChildren_2 (by first | nofun | exact xrv_ne _) ?_
      refine il1 dX7_liftChildren_3 ?_
      refine cd7_25 (f' := f - 1) rfl dX7_liftChildren_4 (Nat.le_of_ble_eq_true rfl) (fx5 hX) (by omega) (c_childOf_t hX (by omega)) ?_
      rw [eOf_n h1 h2]
      refine ex_if_eq 31 dX7_liftChildren_7 (by decide) (fun h7 => ?_) (fun h7 => ?_)
      · refine ex_vret dX7_liftChildren_31 rfl ?_
        exact ⟨rfl, rfl, rfl, rfl⟩
      · exact absurd h0 h7
    · rw [show sLift E (nI o) (n + 1) = sLift (sLeave E (E 20 o)) (nI o) n from by rw [sLift, eo, if_neg h0]]
      have ev := vi_n (hI.1.a20 h2) (by decide)
      have x1 : 1 ≤ ix (E 20 o) := by
        have : ix (E 20 o) ≠ 0 := fun q => h0 (by rw [ev.1, q]; rfl)
        omega
      have x2 := ev.2
      have hx := ev.1
      generalize hg : ix (E 20 o) = x at hx x1 x2
      have hl : E 20 (ix (nI o)) = 0 ∨ lOk (sLeave E (E 20 (ix (nI o)))) (nI o) n := hl
      rw [eo] at hl
      have hl := hl.resolve_left h0
      rw [hx] at hl ⊢
      refine al0 dX7_liftChildren_2 (by first | nofun | exact xrv_ne _) ?_
      refine il1 dX7_liftChildren_3 ?_
      refine cd7_25 (f' := f - 1) rfl dX7_liftChildren_4 (Nat.le_of_ble_eq_true rfl) (fx5 hX) (by omega) (c_childOf_t hX (by omega)) ?_
      rw [eOf_n h1 h2]
      refine ex_if_eq 31 dX7_liftChildren_7 (by decide) (fun h7 => ?_) (fun h7 => ?_)
      · exact absurd h7 h0
      · refine il2 dX7_liftChildren_10 ?_
        refine ex_bipush (v := 40) dX7_liftChildren_11 (by decide) ?_
        refine ex_icmp_ge 31 dX7_liftChildren_13 (by decide) (fun h13 => ?_) (fun h13 => ?_)
        · exact absurd h13 (nI_ge (a := k) (b := 40) (by omega) (by decide))
        · refine al0 dX7_liftChildren_16 (by first | nofun | exact xrv_ne _) ?_
          refine al0 dX7_liftChildren_17 (by first | nofun | exact xrv_ne _) ?_
          refine il1 dX7_liftChildren_18 ?_
          refine cd7_25 (f' := f - 1) rfl dX7_liftChildren_19 (Nat.le_of_ble_eq_true rfl) (fx5 hX) (by omega) (c_childOf_t hX (by omega)) ?_
          rw [eOf_n h1 h2, hx]
          refine cd7_39 (f' := f - 1) rfl dX7_liftChildren_22 (Nat.le_of_ble_eq_true rfl) (fx5 hX) (by omega) (c_lift (by omega) hX hI.1 hI.2.2.1 x1 x2) ?_
          refine ic2 (nI (k + 1)) dX7_liftChildren_25 (nI_1 k) ?_
          refine ex_goto 2 dX7_liftChildren_28 (by decide) ?_
          exact ih (k + 1) _ (hI.leave x1 x2) (by omega) hl
set_option maxRecDepth 20000 in
set_option maxHeartbeats 1000000 in
theorem c_liftC {Γ : xGm} {l : Launch} {f : Nat} {G : xG} {D E : xD} {R : xR} (hf : 4 ≤ f) (hX : xFix G R) (hI : Iv E) {o : Nat} (h1 : 1 ≤ o) (h2 : o < 41) : Cn Γ l f MX7_liftChildren [.ref 5, .int (nI o)] G (tS D E) R 0 0 (xdet none G (tS D (sLift E (nI o) (lk 40))) R) := by
  refine cn_of MX7_liftChildren_ok (Nat.le_of_ble_eq_true rfl) ?_
  show Ex Γ l f MX7_liftChildren 0 [some (.ref 5), some (.int (nI o)), none] [] G (tS D E) R 0 0 _
  refine ex_iconst (v := 0) dX7_liftChildren_0 (by decide) ?_
  refine is2 dX7_liftChildren_1 ?_
  rw [lk_eq]
  exact c_lc_lp hf hX h1 h2 40 0 E hI rfl (hI.lOk h1 h2)
set_option maxRecDepth 20000 in
set_option maxHeartbeats 1000000 in
theorem c_ia_lp {Γ : xGm} {l : Launch} {f : Nat} {G : xG} {D E : xD} {R : xR} (hf : 1 ≤ f + 0) (hX : xFix G R) (hB : RB E) {a : Int32} {z : Option Value} (hf : 2 ≤ f) : ∀ (n k : Nat) (x : Int32), vp_in x 41 → k + n = 40 → aOk E 19 x n → Ex Γ l f MX7_isInOrAt 5 [some (.ref 5), z, some (.int a), some (.int x), some (.int (nI k))] [] G (tS D E) R 0 0 (xdet (some (.int (bi (sInAt E a x (n + 1))))) G (tS D E) R) := by
  intro n
  induction n with
  | zero =>
    intro k x hx hk hl
    have hl : x = 0 := hl
    rw [show sInAt E a x (0 + 1) = false from by rw [sInAt, if_pos hl]]
    refine il3 dX7_isInOrAt_5 ?_
    refine ex_if_eq 35 dX7_isInOrAt_6 (by decide) (fun h6 => ?_) (fun h6 => ?_)
    · refine ex_iconst (v := 0) dX7_isInOrAt_35 (by decide) ?_
      refine ex_zret dX7_isInOrAt_36 rfl (by decide) ?_
      exact ⟨rfl, rfl, rfl, rfl⟩
    · exact absurd hl h6
  | succ n ih =>
    intro k x hx hk hl
    have hl : x = 0 ∨ aOk E 19 (E 19 (ix x)) n := hl
    have e := vi_n hx (by decide)
    refine il3 dX7_isInOrAt_5 ?_
    refine ex_if_eq 35 dX7_isInOrAt_6 (by decide) (fun h6 => ?_) (fun h6 => ?_)
    · refine ex_iconst (v := 0) dX7_isInOrAt_35 (by decide) ?_
      refine ex_zret dX7_isInOrAt_36 rfl (by decide) ?_
      refine ⟨?_, rfl, rfl, rfl⟩
      rw [sInAt, if_pos h6]
      rfl
    · refine il4 dX7_isInOrAt_9 ?_
      refine ex_bipush (v := 40) dX7_isInOrAt_11 (by decide) ?_
      refine ex_icmp_gt 35 dX7_isInOrAt_13 (by decide) (fun h13 => ?_) (fun h13 => ?_)
      · exact absurd (nI_le (a := k) (b := 40) (by omega) (by decide)) h13
      · refine il3 dX7_isInOrAt_16 ?_
        refine il2 dX7_isInOrAt_17 ?_
        refine ex_icmp_ne 23 dX7_isInOrAt_18 (by decide) (fun h18 => ?_) (fun h18 => ?_)
        · refine al0 dX7_isInOrAt_23 (by first | nofun | exact xrv_ne _) ?_
          refine il3 dX7_isInOrAt_24 ?_
          refine cd7_32 (f' := f - 1) rfl dX7_isInOrAt_25 (Nat.le_of_ble_eq_true rfl) (fx5 hX) (by omega) (c_parentOf_t hX (by omega)) ?_
          have x1 : 1 ≤ ix x := by
            have : ix x ≠ 0 := fun q => h6 (by rw [e.1, q]; rfl)
            omega
          rw [show eOf E 19 x = E 19 (ix x) from by rw [e.1, eOf_n x1 e.2, ← e.1]]
          refine is3 dX7_isInOrAt_28 ?_
          refine ic4 (nI (k + 1)) dX7_isInOrAt_29 (nI_1 k) ?_
          refine ex_goto 5 dX7_isInOrAt_32 (by decide) ?_
          rw [show sInAt E a x (n + 1 + 1) = sInAt E a (E 19 (ix x)) (n + 1) from by rw [sInAt, if_neg h6, if_neg h18]]
          exact ih (k + 1) _ (hB.a19 e.2) (by omega) (hl.resolve_left h6)
        · refine ex_iconst (v := 1) dX7_isInOrAt_21 (by decide) ?_
          refine ex_zret dX7_isInOrAt_22 rfl (by decide) ?_
          refine ⟨?_, rfl, rfl, rfl⟩
          rw [sInAt, if_neg h6, if_pos h18]
          rfl
set_option maxRecDepth 20000 in
set_option maxHeartbeats 1000000 in
theorem c_isIn {Γ : xGm} {l : Launch} {f : Nat} {G : xG} {D E : xD} {R : xR} (hf : 2 ≤ f) (hX : xFix G R) (hI : Iv E) {a b : Int32} (hb : vp_in b 41) : Cn Γ l f MX7_isInOrAt [.ref 5, .int b, .int a] G (tS D E) R 0 0 (xdet (some (.int (bi (sInAt E a b (lk 41))))) G (tS D E) R) := by
  refine cn_of MX7_isInOrAt_ok (Nat.le_of_ble_eq_true rfl) ?_
  show Ex Γ l f MX7_isInOrAt 0 [some (.ref 5), some (.int b), some (.int a), none, none] [] G (tS D E) R 0 0 _
  refine il1 dX7_isInOrAt_0 ?_
  refine is3 dX7_isInOrAt_1 ?_
  refine ex_iconst (v := 0) dX7_isInOrAt_2 (by decide) ?_
  refine is4 dX7_isInOrAt_3 ?_
  rw [lk_eq]
  exact c_ia_lp (by omega) hX hI.1 hf 40 0 b hb rfl (FO_19 hI.1 hI.2.2.1 hb)
set_option maxRecDepth 20000 in
set_option maxHeartbeats 1000000 in
theorem c_ch_lp {Γ : xGm} {l : Launch} {f : Nat} {G : xG} {D E : xD} {R : xR} (hX : xFix G R) (hB : RB E) {z : Option Value} (hf : 2 ≤ f) : ∀ (n k : Nat) (x : Int32), vp_in x 41 → k + n = 40 → aOk E 21 x n → Ex Γ l f MX7_childrenOf 8 [some (.ref 5), z, some (.int (nI k)), some (.int x)] [] G (tS D E) R 0 0 (xdet (some (.int (nI (k + sKids E x n)))) G (tS D E) R) := by
  intro n
  induction n with
  | zero =>
    intro k x hx hk hl
    have hl : x = 0 := hl
    refine il3 dX7_childrenOf_8 ?_
    refine ex_if_eq 30 dX7_childrenOf_9 (by decide) (fun h9 => ?_) (fun h9 => ?_)
    · refine il2 dX7_childrenOf_30 ?_
      refine ex_iret dX7_childrenOf_31 rfl ?_
      exact ⟨rfl, rfl, rfl, rfl⟩
    · exact absurd hl h9
  | succ n ih =>
    intro k x hx hk hl
    have hl : x = 0 ∨ aOk E 21 (E 21 (ix x)) n := hl
    have e := vi_n hx (by decide)
    refine il3 dX7_childrenOf_8 ?_
    refine ex_if_eq 30 dX7_childrenOf_9 (by decide) (fun h9 => ?_) (fun h9 => ?_)
    · refine il2 dX7_childrenOf_30 ?_
      refine ex_iret dX7_childrenOf_31 rfl ?_
      refine ⟨?_, rfl, rfl, rfl⟩
      rw [sKids, if_pos h9]
      rfl
    · refine il2 dX7_childrenOf_12 ?_
      refine ex_bipush (v := 40) dX7_childrenOf_13 (by decide) ?_
      refine ex_icmp_ge 30 dX7_childrenOf_15 (by decide) (fun h15 => ?_) (fun h15 => ?_)
      · exact absurd h15 (nI_ge (a := k) (b := 40) (by omega) (by decide))
      · refine ic2 (nI (k + 1)) dX7_childrenOf_18 (nI_1 k) ?_
        refine al0 dX7_childrenOf_21 (by first | nofun | exact xrv_ne _) ?_
        refine il3 dX7_childrenOf_22 ?_
        refine cd7_29 (f' := f - 1) rfl dX7_childrenOf_23 (Nat.le_of_ble_eq_true rfl) (fx5 hX) (by omega) (c_siblingOf_t hX (by omega)) ?_
        have x1 : 1 ≤ ix x := by
          have : ix x ≠ 0 := fun q => h9 (by rw [e.1, q]; rfl)
          omega
        rw [show eOf E 21 x = E 21 (ix x) from by rw [e.1, eOf_n x1 e.2, ← e.1]]
        refine is3 dX7_childrenOf_26 ?_
        refine ex_goto 8 dX7_childrenOf_27 (by decide) ?_
        rw [show k + sKids E x (n + 1) = (k + 1) + sKids E (E 21 (ix x)) n from by rw [sKids, if_neg h9]; omega]
        exact ih (k + 1) _ (hB.a21 e.2) (by omega) (hl.resolve_left h9)
set_option maxRecDepth 20000 in
set_option maxHeartbeats 1000000 in
theorem c_kids {Γ : xGm} {l : Launch} {f : Nat} {G : xG} {D E : xD} {R : xR} (hf : 2 ≤ f) (hX : xFix G R) (hI : Iv E) {o : Nat} (h1 : 1 ≤ o) (h2 : o < 41) : Cn Γ l f MX7_childrenOf [.ref 5, .int (nI o)] G (tS D E) R 0 0 (xdet (some (.int (nI (sKids E (E 20 o) (lk 40))))) G (tS D E) R) := by
  refine cn_of MX7_childrenOf_ok (Nat.le_of_ble_eq_true rfl) ?_
  show Ex Γ l f MX7_childrenOf 0 [some (.ref 5), some (.int (nI o)), none, none] [] G (tS D E) R 0 0 _
  refine ex_iconst (v := 0) dX7_childrenOf_0 (by decide) ?_
  refine is2 dX7_childrenOf_1 ?_
  refine al0 dX7_childrenOf_2 (by first | nofun | exact xrv_ne _) ?_
  refine il1 dX7_childrenOf_3 ?_
  refine cd7_25 (f' := f - 1) rfl dX7_childrenOf_4 (Nat.le_of_ble_eq_true rfl) (fx5 hX) (by omega) (c_childOf_t hX (by omega)) ?_
  rw [eOf_n h1 h2]
  refine is3 dX7_childrenOf_7 ?_
  rw [lk_eq]
  have h := c_ch_lp (Γ := Γ) (l := l) (D := D) (z := some (.int (nI o))) hX hI.1 hf 40 0 (E 20 o) (hI.1.a20 h2) rfl (FO_21 hI.1 hI.2.2.1 h1 h2)
  rw [Nat.zero_add] at h
  exact h
