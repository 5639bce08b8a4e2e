theorem ix12 {t k : Nat} (ht : t < 41) (hk : k < 12) : (12 : Int32) * nI t + nI k = nI (12 * t + k) := by
  rw [show (12 : Int32) = nI 12 from rfl, pk_mul, nI_add]
theorem ix4 {t k : Nat} (ht : t < 492) (hk : k < 5) : ix (4 * nI t + nI k) = 4 * t + k := by
  rw [show (4 : Int32) = nI 4 from rfl, pk_mul, nI_add, ix_nI (by omega)]
theorem Lnp.kept {E E' : xD} {t : Nat} (h : Lnp E t) (h13 : E' 13 = E 13) (h14 : E' 14 = E 14) : Lnp E' t := by
  unfold Lnp
  rw [h13, h14]
  exact h
/-- the cells that a change of row 'to' leaves -/
def RwS (E E' : xD) (to : Nat) : Prop := (∀ j, j ≠ 15 → j ≠ 16 → E' j = E j) ∧ (∀ i, i ≠ to → E' 15 i = E 15 i) ∧ (∀ i, (i < 4 * to ∨ 4 * to + 4 ≤ i) → E' 16 i = E 16 i) ∧ (vp_in (E 15 to) 5 → vp_in (E' 15 to) 5)
theorem RwS.rf {E : xD} {to : Nat} : RwS E E to := ⟨fun _ _ _ => rfl, fun _ _ => rfl, fun _ _ => rfl, id⟩
theorem RwS.tr {E E1 E2 : xD} {to : Nat} (h : RwS E E1 to) (h2 : RwS E1 E2 to) : RwS E E2 to := ⟨fun j a b => (h2.1 j a b).trans (h.1 j a b), fun v a => (h2.2.1 v a).trans (h.2.1 v a), fun i a => (h2.2.2.1 i a).trans (h.2.2.1 i a), fun q => h2.2.2.2 (h.2.2.2 q)⟩
theorem RwS.all {E E' : xD} {to : Nat} (h : RwS E E' to) (h15 : ∀ i, i < 492 → vp_in (E 15 i) 5) : ∀ i, i < 492 → vp_in (E' 15 i) 5 := fun i hi => by
  by_cases q : i = to
  · subst q; exact h.2.2.2 (h15 i hi)
  · rw [h.2.1 i q]; exact h15 i hi
/-- one value more -/
theorem RwS_1 {E : xD} {a : Nat} (ha : a < 492) (h4 : ¬ 4 ≤ E 15 a) (hv : vp_in (E 15 a) 5) (x : Int32) : xdu (xdu E 16 (ix (4 * nI a + E 15 (ix (nI a)))) x) 15 (ix (nI a)) (E 15 (ix (nI a)) + 1) = xdu (xdu E 16 (4 * a + ix (E 15 a)) x) 15 a (nI (ix (E 15 a) + 1)) ∧ ix (E 15 a) < 4 ∧ RwS E (xdu (xdu E 16 (4 * a + ix (E 15 a)) x) 15 a (nI (ix (E 15 a) + 1))) a := by
  have h4' := vi_lt hv (B := 4) (by decide) h4
  obtain ⟨e, l⟩ := vi_n h4' (by decide)
  refine ⟨?_, l, fun j a b => by rw [xdu_ne _ _ _ a, xdu_ne _ _ _ b], fun i hi => by rw [xdu_self, upd_ne _ _ hi, xdu_ne _ _ _ (by decide)], fun i hi => by rw [xdu_ne _ _ _ (by decide), xdu_self, upd_ne _ _ (by omega)], fun _ => by rw [xdu_self, upd_self]; exact vi_of (by omega) (by decide)⟩
  rw [ix_nI (by omega)]
  congr 1
  · congr 1
    conv => lhs; rw [e]
    exact ix4 ha (by omega)
  · conv => lhs; rw [e]
    exact nI_1 _
theorem sRowI_S {a b : Nat} (ha : a < 492) (hb : b < 492) : ∀ (n i : Nat) (E : xD), vp_in (E 15 a) 5 → RwS E (sRowI E (nI a) (nI b) (nI i) n) a := by
  intro n
  induction n with
  | zero => intro i E _; exact RwS.rf
  | succ n ih =>
    intro i E hv
    rw [sRowI]
    split
    · exact RwS.rf
    next h4 =>
      rw [ix_nI (by omega)] at h4
      obtain ⟨e, -, s⟩ := RwS_1 ha h4 hv (E 16 (ix (4 * nI b + nI i)))
      rw [e, nI_1]
      exact s.tr (ih (i + 1) _ (s.2.2.2 hv))
set_option maxRecDepth 20000 in
set_option maxHeartbeats 1000000 in
theorem r_rowI {Γ : xGm} {l : Launch} {f : Nat} {G : xG} {D : xD} {R : xR} {Q : Option Value → xG → xD → xR → Prop} (hX : xFix G R) {o nm k : Option Value} {a b : Nat} (ha : a < 492) (hb : b < 492) (hab : a ≠ b) : ∀ (n i : Nat) (hib : i + n < 5) (E : xD) (h15 : ∀ i, i < 492 → vp_in (E 15 i) 5) (hE : E 15 b = nI (i + n)) (kk : ∀ z, Ex Γ l f MX10_rowsAnew 136 [some (.ref 17), o, nm, some (.int (nI a)), k, some (.int (nI b)), z] [] G (mg D (sRowI E (nI a) (nI b) (nI i) n)) R 0 0 Q), Ex Γ l f MX10_rowsAnew 71 [some (.ref 17), o, nm, some (.int (nI a)), k, some (.int (nI b)), some (.int (nI i))] [] G (mg D E) R 0 0 Q := by
  intro n
  induction n with
  | zero =>
    intro i hib E h15 hE kk
    refine il6 dX10_rowsAnew_71 ?_
    refine al0 dX10_rowsAnew_73 (by first | nofun | exact xrv_ne _) ?_
    refine rf_53 hX rfl dX10_rowsAnew_74 ?_
    refine il5 dX10_rowsAnew_77 ?_
    refine rb_15 hX dX10_rowsAnew_79 (vi_of hb (by decide)) ?_
    refine ex_icmp_ge 136 dX10_rowsAnew_80 (by decide) (fun h80 => ?_) (fun h80 => ?_)
    · exact kk _
    · exact absurd (by rw [ix_nI (by omega), hE]; exact nI_le (by omega) (by omega)) h80
  | succ n ih =>
    intro i hib E h15 hE kk
    refine il6 dX10_rowsAnew_71 ?_
    refine al0 dX10_rowsAnew_73 (by first | nofun | exact xrv_ne _) ?_
    refine rf_53 hX rfl dX10_rowsAnew_74 ?_
    refine il5 dX10_rowsAnew_77 ?_
    refine rb_15 hX dX10_rowsAnew_79 (vi_of hb (by decide)) ?_
    refine ex_icmp_ge 136 dX10_rowsAnew_80 (by decide) (fun h80 => ?_) (fun h80 => ?_)
    · exact absurd h80 (by rw [ix_nI (by omega), hE]; exact nI_ge (by omega) (by omega))
    · refine al0 dX10_rowsAnew_83 (by first | nofun | exact xrv_ne _) ?_
      refine rf_53 hX rfl dX10_rowsAnew_84 ?_
      refine il3 dX10_rowsAnew_87 ?_
      refine rb_15 hX dX10_rowsAnew_88 (vi_of ha (by decide)) ?_
      refine ex_iconst (v := 4) dX10_rowsAnew_89 (by decide) ?_
      refine ex_icmp_ge 136 dX10_rowsAnew_90 (by decide) (fun h90 => ?_) (fun h90 => ?_)
      · have h4 : 4 ≤ E 15 (ix (nI a)) := h90
        rw [show sRowI E (nI a) (nI b) (nI i) (n + 1) = E by rw [sRowI, if_pos h4]] at kk
        exact kk _
      · refine al0 dX10_rowsAnew_93 (by first | nofun | exact xrv_ne _) ?_
        refine rf_56 hX rfl dX10_rowsAnew_94 ?_
        refine ex_iconst (v := 4) dX10_rowsAnew_97 (by decide) ?_
        refine il3 dX10_rowsAnew_98 ?_
        refine ex_imul dX10_rowsAnew_99 ?_
        refine al0 dX10_rowsAnew_100 (by first | nofun | exact xrv_ne _) ?_
        refine rf_53 hX rfl dX10_rowsAnew_101 ?_
        refine il3 dX10_rowsAnew_104 ?_
        refine rb_15 hX dX10_rowsAnew_105 (vi_of ha (by decide)) ?_
        refine ex_iadd dX10_rowsAnew_106 ?_
        refine al0 dX10_rowsAnew_107 (by first | nofun | exact xrv_ne _) ?_
        refine rf_56 hX rfl dX10_rowsAnew_108 ?_
        refine ex_iconst (v := 4) dX10_rowsAnew_111 (by decide) ?_
        refine il5 dX10_rowsAnew_112 ?_
        refine ex_imul dX10_rowsAnew_114 ?_
        refine il6 dX10_rowsAnew_115 ?_
        refine ex_iadd dX10_rowsAnew_117 ?_
        refine rb_16 hX dX10_rowsAnew_118 (by rw [show (4 : Int32) = nI 4 from rfl]; exact (vi_ln (N := 1968) 4 (vi_of hb (by decide)) (vi_of (N := 4) (n := i) (by omega) (by decide)) (by decide) (by decide) (by decide) (by decide)).1) ?_
        refine rt_16 hX dX10_rowsAnew_119 (by rw [show (4 : Int32) = nI 4 from rfl]; exact (vi_ln (N := 1968) 4 (vi_of ha (by decide)) (vi_lt (h15 _ (by rw [ix_nI (by omega)]; exact ha)) (by decide) h90) (by decide) (by decide) (by decide) (by decide)).1) ?_
        refine al0 dX10_rowsAnew_120 (by first | nofun | exact xrv_ne _) ?_
        refine rf_53 hX rfl dX10_rowsAnew_121 ?_
        refine il3 dX10_rowsAnew_124 ?_
        refine ex_dup2 dX10_rowsAnew_125 ?_
        refine rb_15 hX dX10_rowsAnew_126 (vi_of ha (by decide)) ?_
        refine ex_iconst (v := 1) dX10_rowsAnew_127 (by decide) ?_
        refine ex_iadd dX10_rowsAnew_128 ?_
        refine rt_15 hX dX10_rowsAnew_129 (vi_of ha (by decide)) ?_
        refine ic6 (nI (i + 1)) dX10_rowsAnew_130 (nI_1 i) ?_
        refine ex_goto 71 dX10_rowsAnew_133 (by decide) ?_
        have h4 : ¬ 4 ≤ E 15 (ix (nI a)) := h90
        rw [show sRowI E (nI a) (nI b) (nI i) (n + 1) = sRowI (xdu (xdu E 16 (ix (4 * nI a + E 15 (ix (nI a)))) (E 16 (ix (4 * nI b + nI i)))) 15 (ix (nI a)) (E 15 (ix (nI a)) + 1)) (nI a) (nI b) (nI (i + 1)) n by rw [sRowI, if_neg h4, nI_1]] at kk
        simp only [xdu_ne _ _ _ (show (15 : Nat) ≠ 16 by decide)]
        have h4' := h4
        rw [ix_nI (by omega)] at h4'
        obtain ⟨e, -, s⟩ := RwS_1 ha h4' (h15 a ha) (E 16 (ix (4 * nI b + nI i)))
        rw [e] at kk ⊢
        exact ih (i + 1) (by omega) _ (s.all h15) (by rw [s.2.1 b (Ne.symm hab), hE]; congr 1; omega) kk
set_option maxRecDepth 20000 in
set_option maxHeartbeats 1000000 in
theorem r_rowK {Γ : xGm} {l : Launch} {f : Nat} {G : xG} {D : xD} {R : xR} {Q : Option Value → xG → xD → xR → Prop} (hX : xFix G R) {o m : Nat} (ho : o < 41) (hm : m < 12) : ∀ (n k : Nat) (E : xD) (h15 : ∀ i, i < 492 → vp_in (E 15 i) 5) (hL : Lnp E o) (hno : ∀ k, k < ix (E 13 o) → ¬ E 14 (41 * o + k) = nI o) (hE : E 13 o = nI (k + n)) (hn : k + n ≤ 40) (z5 z6 : Option Value) (kk : ∀ y4 y5 y6, Ex Γ l f MX10_rowsAnew 142 [some (.ref 17), some (.int (nI o)), some (.int (nI m)), some (.int (nI (12 * o + m))), y4, y5, y6] [] G (mg D (sRowK E (nI o) (nI m) (nI k) n)) R 0 0 Q), Ex Γ l f MX10_rowsAnew 25 [some (.ref 17), some (.int (nI o)), some (.int (nI m)), some (.int (nI (12 * o + m))), some (.int (nI k)), z5, z6] [] G (mg D E) R 0 0 Q := by
  intro n
  induction n with
  | zero =>
    intro k E h15 hL hno hE hn z5 z6 kk
    refine il4 dX10_rowsAnew_25 ?_
    refine al0 dX10_rowsAnew_27 (by first | nofun | exact xrv_ne _) ?_
    refine rf_47 hX rfl dX10_rowsAnew_28 ?_
    refine il1 dX10_rowsAnew_31 ?_
    refine rb_13 hX dX10_rowsAnew_32 (vi_of ho (by decide)) ?_
    refine ex_icmp_ge 142 dX10_rowsAnew_33 (by decide) (fun h33 => ?_) (fun h33 => ?_)
    · exact kk _ _ _
    · exact absurd (by rw [ix_nI (by omega), hE]; exact nI_le (by omega) (by omega)) h33
  | succ n ih =>
    intro k E h15 hL hno hE hn z5 z6 kk
    obtain ⟨j, j1, j2, j3⟩ := hL.2.1 k (by rw [hE, ix_nI (by omega)]; omega)
    have e14 : E 14 (ix (41 * nI o + nI k)) = nI j := by rw [ix41 ho (by omega)]; exact j3
    refine il4 dX10_rowsAnew_25 ?_
    refine al0 dX10_rowsAnew_27 (by first | nofun | exact xrv_ne _) ?_
    refine rf_47 hX rfl dX10_rowsAnew_28 ?_
    refine il1 dX10_rowsAnew_31 ?_
    refine rb_13 hX dX10_rowsAnew_32 (vi_of ho (by decide)) ?_
    refine ex_icmp_ge 142 dX10_rowsAnew_33 (by decide) (fun h33 => ?_) (fun h33 => ?_)
    · exact absurd h33 (by rw [ix_nI (by omega), hE]; exact nI_ge (by omega) (by omega))
    · refine ex_bipush (v := 12) dX10_rowsAnew_36 (by decide) ?_
      refine al0 dX10_rowsAnew_38 (by first | nofun | exact xrv_ne _) ?_
      refine rf_50 hX rfl dX10_rowsAnew_39 ?_
      refine ex_bipush (v := 41) dX10_rowsAnew_42 (by decide) ?_
      refine il1 dX10_rowsAnew_44 ?_
      refine ex_imul dX10_rowsAnew_45 ?_
      refine il4 dX10_rowsAnew_46 ?_
      refine ex_iadd dX10_rowsAnew_48 ?_
      refine rb_14 hX dX10_rowsAnew_49 (by rw [show (41 : Int32) = nI 41 from rfl]; exact (vi_ln (N := 1681) 41 (vi_of ho (by decide)) (vi_k2 (n := n) (N := 41) (by omega) (by decide)) (by decide) (by decide) (by decide) (by decide)).1) ?_
      refine ex_imul dX10_rowsAnew_50 ?_
      refine il2 dX10_rowsAnew_51 ?_
      refine ex_iadd dX10_rowsAnew_52 ?_
      rw [e14, ix12 (by omega) hm]
      refine is5 dX10_rowsAnew_53 ?_
      refine il2 dX10_rowsAnew_55 ?_
      refine ex_if_eq 68 dX10_rowsAnew_56 (by decide) (fun h56 => ?_) (fun h56 => ?_)
      · refine ex_iconst (v := 0) dX10_rowsAnew_68 (by decide) ?_
        refine is6 dX10_rowsAnew_69 ?_
        rw [show sRowK E (nI o) (nI m) (nI k) (n + 1) = sRowK (sRowI E (nI (12 * o + m)) (nI (12 * j + m)) 0 (ix (E 15 (12 * j + m)))) (nI o) (nI m) (nI (k + 1)) n by rw [sRowK, ix12 ho hm, e14, ix12 (by omega) hm, if_pos (Or.inl h56), ix_nI (by omega), nI_1]] at kk
        have s := sRowI_S (a := 12 * o + m) (b := 12 * j + m) (by omega) (by omega) (ix (E 15 (12 * j + m))) 0 E (h15 _ (by omega))
        rw [show nI 0 = 0 from rfl] at s
        obtain ⟨e15, l15⟩ := vi_n (h15 (12 * j + m) (by omega)) (by decide)
        have hjo : j ≠ o := fun q => hno k (by rw [hE, ix_nI (by omega)]; omega) (by rw [j3, q])
        refine r_rowI hX (by omega) (by omega) (by omega) (ix (E 15 (12 * j + m))) 0 (by omega) E h15 (by rw [Nat.zero_add]; exact e15) (fun z => ?_)
        refine ic4 (nI (k + 1)) dX10_rowsAnew_136 (nI_1 k) ?_
        refine ex_goto 25 dX10_rowsAnew_139 (by decide) ?_
        exact ih (k + 1) (sRowI E (nI (12 * o + m)) (nI (12 * j + m)) 0 (ix (E 15 (12 * j + m)))) (s.all h15) (hL.kept (s.1 13 (by decide) (by decide)) (s.1 14 (by decide) (by decide))) (by rw [s.1 13 (by decide) (by decide), s.1 14 (by decide) (by decide)]; exact hno) (by rw [s.1 13 (by decide) (by decide), hE]; congr 1; omega) (by omega) _ _ kk
      · refine al0 dX10_rowsAnew_59 (by first | nofun | exact xrv_ne _) ?_
        refine rf_53 hX rfl dX10_rowsAnew_60 ?_
        refine il3 dX10_rowsAnew_63 ?_
        refine rb_15 hX dX10_rowsAnew_64 (vi_of (by omega) (by decide)) ?_
        refine ex_if_ne 136 dX10_rowsAnew_65 (by decide) (fun h65 => ?_) (fun h65 => ?_)
        · rw [show sRowK E (nI o) (nI m) (nI k) (n + 1) = sRowK E (nI o) (nI m) (nI (k + 1)) n by rw [sRowK, if_neg (by rintro (q | q); exact h56 q; rw [ix12 ho hm] at q; exact h65 q), nI_1]] at kk
          have s : RwS E E 0 := RwS.rf
          refine ic4 (nI (k + 1)) dX10_rowsAnew_136 (nI_1 k) ?_
          refine ex_goto 25 dX10_rowsAnew_139 (by decide) ?_
          exact ih (k + 1) E h15 (hL.kept (s.1 13 (by decide) (by decide)) (s.1 14 (by decide) (by decide))) (by rw [s.1 13 (by decide) (by decide), s.1 14 (by decide) (by decide)]; exact hno) (by rw [s.1 13 (by decide) (by decide), hE]; congr 1; omega) (by omega) _ _ kk
        · refine ex_iconst (v := 0) dX10_rowsAnew_68 (by decide) ?_
          refine is6 dX10_rowsAnew_69 ?_
          rw [show sRowK E (nI o) (nI m) (nI k) (n + 1) = sRowK (sRowI E (nI (12 * o + m)) (nI (12 * j + m)) 0 (ix (E 15 (12 * j + m)))) (nI o) (nI m) (nI (k + 1)) n by rw [sRowK, ix12 ho hm, e14, ix12 (by omega) hm, if_pos (Or.inr h65), ix_nI (by omega), nI_1]] at kk
          have s := sRowI_S (a := 12 * o + m) (b := 12 * j + m) (by omega) (by omega) (ix (E 15 (12 * j + m))) 0 E (h15 _ (by omega))
          rw [show nI 0 = 0 from rfl] at s
          obtain ⟨e15, l15⟩ := vi_n (h15 (12 * j + m) (by omega)) (by decide)
          have hjo : j ≠ o := fun q => hno k (by rw [hE, ix_nI (by omega)]; omega) (by rw [j3, q])
          refine r_rowI hX (by omega) (by omega) (by omega) (ix (E 15 (12 * j + m))) 0 (by omega) E h15 (by rw [Nat.zero_add]; exact e15) (fun z => ?_)
          refine ic4 (nI (k + 1)) dX10_rowsAnew_136 (nI_1 k) ?_
          refine ex_goto 25 dX10_rowsAnew_139 (by decide) ?_
          exact ih (k + 1) (sRowI E (nI (12 * o + m)) (nI (12 * j + m)) 0 (ix (E 15 (12 * j + m)))) (s.all h15) (hL.kept (s.1 13 (by decide) (by decide)) (s.1 14 (by decide) (by decide))) (by rw [s.1 13 (by decide) (by decide), s.1 14 (by decide) (by decide)]; exact hno) (by rw [s.1 13 (by decide) (by decide), hE]; congr 1; omega) (by omega) _ _ kk
theorem sRowK_S {o m : Nat} (ho : o < 41) (hm : m < 12) : ∀ (n k : Nat) (E : xD), (∀ i, i < 492 → vp_in (E 15 i) 5) → Lnp E o → k + n ≤ ix (E 13 o) → RwS E (sRowK E (nI o) (nI m) (nI k) n) (12 * o + m) := by
  intro n
  induction n with
  | zero => intro k E _ _ _; exact RwS.rf
  | succ n ih =>
    intro k E h15 hL hk
    have hle := hL.le
    obtain ⟨j, j1, j2, j3⟩ := hL.2.1 k (by omega)
    rw [sRowK, ix12 ho hm, ix41 ho (by omega), j3, ix12 (by omega) hm, nI_1]
    have s : RwS E (if nI m = 0 ∨ E 15 (ix (nI (12 * o + m))) = 0 then sRowI E (nI (12 * o + m)) (nI (12 * j + m)) 0 (ix (E 15 (ix (nI (12 * j + m))))) else E) (12 * o + m) := by
      split
      · exact sRowI_S (by omega) (by omega) _ 0 E (h15 _ (by omega))
      · exact RwS.rf
    exact s.tr (ih (k + 1) _ (s.all h15) (hL.kept (s.1 13 (by decide) (by decide)) (s.1 14 (by decide) (by decide))) (by rw [s.1 13 (by decide) (by decide)]; omega))
/-- one row emptied -/
theorem RwS_0 {E : xD} {a : Nat} : RwS E (xdu E 15 a 0) a := ⟨fun j h _ => xdu_ne _ _ _ h, fun i h => by rw [xdu_self, upd_ne _ _ h], fun i _ => by rw [xdu_ne _ _ _ (by decide)], fun _ => by rw [xdu_self, upd_self]; exact vi_of (n := 0) (by decide) (by decide)⟩
set_option maxRecDepth 20000 in
set_option maxHeartbeats 1000000 in
theorem r_rowN {Γ : xGm} {l : Launch} {f : Nat} {G : xG} {D : xD} {R : xR} (hX : xFix G R) {o : Nat} (ho : o < 41) : ∀ (n m : Nat) (E : xD) (h15 : ∀ i, i < 492 → vp_in (E 15 i) 5) (hL : Lnp E o) (hno : ∀ k, k < ix (E 13 o) → ¬ E 14 (41 * o + k) = nI o) (hn : m + n = 12) (z3 z4 z5 z6 : Option Value), Ex Γ l f MX10_rowsAnew 2 [some (.ref 17), some (.int (nI o)), some (.int (nI m)), z3, z4, z5, z6] [] G (mg D E) R 0 0 (xdet none G (mg D (sRowN E (nI o) (nI m) n)) R) := by
  intro n
  induction n with
  | zero =>
    intro m E h15 hL hno hn z3 z4 z5 z6
    refine il2 dX10_rowsAnew_2 ?_
    refine ex_bipush (v := 12) dX10_rowsAnew_3 (by decide) ?_
    refine ex_icmp_ge 148 dX10_rowsAnew_5 (by decide) (fun h5 => ?_) (fun h5 => ?_)
    · refine ex_vret dX10_rowsAnew_148 rfl ?_
      exact ⟨rfl, rfl, rfl, rfl⟩
    · exact absurd (by rw [show m = 12 by omega]; decide) h5
  | succ n ih =>
    intro m E h15 hL hno hn z3 z4 z5 z6
    have hle := hL.le
    refine il2 dX10_rowsAnew_2 ?_
    refine ex_bipush (v := 12) dX10_rowsAnew_3 (by decide) ?_
    refine ex_icmp_ge 148 dX10_rowsAnew_5 (by decide) (fun h5 => ?_) (fun h5 => ?_)
    · exact absurd h5 (nI_ge (a := m) (b := 12) (by omega) (by decide))
    · refine ex_bipush (v := 12) dX10_rowsAnew_8 (by decide) ?_
      refine il1 dX10_rowsAnew_10 ?_
      refine ex_imul dX10_rowsAnew_11 ?_
      refine il2 dX10_rowsAnew_12 ?_
      refine ex_iadd dX10_rowsAnew_13 ?_
      rw [ix12 ho (by omega)]
      refine is3 dX10_rowsAnew_14 ?_
      refine al0 dX10_rowsAnew_15 (by first | nofun | exact xrv_ne _) ?_
      refine rf_53 hX rfl dX10_rowsAnew_16 ?_
      refine il3 dX10_rowsAnew_19 ?_
      refine ex_iconst (v := 0) dX10_rowsAnew_20 (by decide) ?_
      refine rt_15 hX dX10_rowsAnew_21 (vi_of (by omega) (by decide)) ?_
      refine ex_iconst (v := 0) dX10_rowsAnew_22 (by decide) ?_
      refine is4 dX10_rowsAnew_23 ?_
      rw [ix_nI (by omega)]
      have s0 : RwS E (xdu E 15 (12 * o + m) 0) (12 * o + m) := RwS_0
      have hL0 := hL.kept (s0.1 13 (by decide) (by decide)) (s0.1 14 (by decide) (by decide))
      have s1 := sRowK_S ho (show m < 12 by omega) (ix (E 13 o)) 0 _ (s0.all h15) hL0 (by rw [s0.1 13 (by decide) (by decide)]; omega)
      have s := s0.tr s1
      have e13 := vi_n hL.1 (by decide)
      rw [show sRowN E (nI o) (nI m) (n + 1) = sRowN (sRowK (xdu E 15 (12 * o + m) 0) (nI o) (nI m) (nI 0) (ix (E 13 o))) (nI o) (nI (m + 1)) n by rw [sRowN, ix12 ho (by omega), ix_nI (by omega), ix_nI (by omega), nI_1]; rfl]
      refine r_rowK hX ho (show m < 12 by omega) (ix (E 13 o)) 0 _ (s0.all h15) hL0 (by rw [s0.1 13 (by decide) (by decide), s0.1 14 (by decide) (by decide)]; exact hno) (by rw [s0.1 13 (by decide) (by decide), Nat.zero_add]; exact e13.1) (by omega) _ _ (fun y4 y5 y6 => ?_)
      refine ic2 (nI (m + 1)) dX10_rowsAnew_142 (nI_1 m) ?_
      refine ex_goto 2 dX10_rowsAnew_145 (by decide) ?_
      exact ih (m + 1) _ (s.all h15) (hL.kept (s.1 13 (by decide) (by decide)) (s.1 14 (by decide) (by decide))) (by rw [s.1 13 (by decide) (by decide), s.1 14 (by decide) (by decide)]; exact hno) (by omega) _ _ _ _
set_option maxRecDepth 20000 in
set_option maxHeartbeats 1000000 in
theorem r_rowsAnew {Γ : xGm} {l : Launch} {f : Nat} {G : xG} {D E : xD} {R : xR} (hX : xFix G R) {o : Nat} (ho : o < 41) (h15 : ∀ i, i < 492 → vp_in (E 15 i) 5) (hL : Lnp E o) (hno : ∀ k, k < ix (E 13 o) → ¬ E 14 (41 * o + k) = nI o) : Cn Γ l f MX10_rowsAnew [.ref 17, .int (nI o)] G (mg D E) R 0 0 (xdet none G (mg D (sRows E (nI o))) R) := by
  refine cn_of MX10_rowsAnew_ok (Nat.le_of_ble_eq_true rfl) ?_
  show Ex Γ l f MX10_rowsAnew 0 [some (.ref 17), some (.int (nI o)), none, none, none, none, none] [] G (mg D E) R 0 0 _
  refine ex_iconst (v := 0) dX10_rowsAnew_0 (by decide) ?_
  refine is2 dX10_rowsAnew_1 ?_
  unfold sRows
  rw [lk_eq]
  exact r_rowN hX ho 12 0 E h15 hL hno rfl _ _ _ _
