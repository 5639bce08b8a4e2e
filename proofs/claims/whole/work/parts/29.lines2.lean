/-! ===== lines hold classes; what is not there yet has no line ===== -/
def LPr (E : xD) (t : Nat) (P : Int32 → Prop) : Prop := ∀ k, k < ix (E 13 t) → P (E 14 (41 * t + k))
theorem sAddTo_P {E : xD} {t j : Nat} {P : Int32 → Prop} (ht : t < 41) (hL : Lnp E t) (h1 : 1 ≤ j) (h40 : j ≤ 40) (hP : LPr E t P) (hj : P (nI j)) : LPr (sAddTo E (nI t) (nI j)) t P := by
  rcases sAddTo_do ht hL h1 h40 with ⟨e, -⟩ | ⟨e, hlt, hno⟩
  · rw [e]; exact hP
  · rw [e]
    intro k hk
    rw [xdu_self, upd_self, ix_nI (by omega)] at hk
    rw [xdu_ne _ _ _ (by decide), xdu_self]
    by_cases q : k = ix (E 13 t)
    · rw [q, upd_self]; exact hj
    · rw [upd_ne _ _ (by omega)]; exact hP k (by omega)
theorem sJoinL_P {t g : Nat} {P : Int32 → Prop} (ht : t < 41) (hg : g < 41) (hne : t ≠ g) : ∀ (n k : Nat) (E : xD), Lnp E t → Lnp E g → LPr E t P → LPr E g P → k + n ≤ ix (E 13 g) → LPr (sJoinL E (nI t) (nI g) (nI k) n) t P := by
  intro n
  induction n with
  | zero => intro k E _ _ h _ _; exact h
  | succ n ih =>
    intro k E hL hG hP hPg hk
    have hle := hG.le
    have hp := hPg k (by omega)
    rw [sJoinL, ix41 hg (by omega), nI_1]
    obtain ⟨j, j1, j2, j3⟩ := hG.2.1 k (by omega)
    rw [j3] at hp ⊢
    obtain ⟨s1, s2⟩ := sAddTo_S ht hL j1 j2
    have e13 : sAddTo E (nI t) (nI j) 13 g = E 13 g := s1.2.1 g (Ne.symm hne)
    have e14 : ∀ i, i < 41 → sAddTo E (nI t) (nI j) 14 (41 * g + i) = E 14 (41 * g + i) := fun i hi => s1.2.2 _ (by omega)
    have hG2 : Lnp (sAddTo E (nI t) (nI j)) g := ⟨by rw [e13]; exact hG.1, fun i hi => by rw [e13] at hi; rw [e14 i (by omega)]; exact hG.2.1 i hi, fun a b ha hb he => by rw [e13] at ha hb; rw [e14 a (by omega), e14 b (by omega)] at he; exact hG.2.2 a b ha hb he⟩
    exact ih (k + 1) _ s2 hG2 (sAddTo_P ht hL j1 j2 hP hp) (fun i hi => by rw [e13] at hi; rw [e14 i (by omega)]; exact hPg i hi) (by rw [e13]; omega)
/-- thing numbers that are classes -/
def isC (E : xD) (x : Int32) : Prop := sIn x 1 (E 0 14) = true ∧ ¬ E 10 (ix x) = 0
def LN (E : xD) : Prop := vp_in (E 0 14) 41 ∧ (∀ i, i < 492 → vp_in (E 15 i) 5) ∧ ∀ v, v < 41 → Lnp E v ∧ LPr E v (isC E) ∧ (ix (E 0 14) < v → E 13 v = 0)
theorem LN.same {E E' : xD} (h : LN E) (h0 : E' 0 14 = E 0 14) (h10 : E' 10 = E 10) (h13 : E' 13 = E 13) (h14 : E' 14 = E 14) (h15 : ∀ i, i < 492 → vp_in (E' 15 i) 5) : LN E' := by
  refine ⟨by rw [h0]; exact h.1, h15, fun v hv => ?_⟩
  obtain ⟨h1, h2, h3⟩ := h.2.2 v hv
  refine ⟨h1.kept h13 h14, fun k hk => ?_, by rw [h0, h13]; exact h3⟩
  rw [h13] at hk
  rw [h14]
  have := h2 k hk
  unfold isC at this ⊢
  rw [h0, h10]
  exact this
/-- a line of one thing changed: the others stand -/
theorem LN.line {E E' : xD} {t : Nat} (h : LN E) (hs : LnS E E' t) (ht : ¬ ix (E 0 14) < t) (hL : Lnp E' t) (hP : LPr E' t (isC E)) : LN E' := by
  have h0 : E' 0 = E 0 := hs.1 0 (by decide) (by decide)
  have h10 : E' 10 = E 10 := hs.1 10 (by decide) (by decide)
  refine ⟨by rw [h0]; exact h.1, by rw [hs.1 15 (by decide) (by decide)]; exact h.2.1, fun v hv => ?_⟩
  have eC : isC E' = isC E := by funext x; unfold isC; rw [h0, h10]
  by_cases q : v = t
  · subst q
    exact ⟨hL, by rw [eC]; exact hP, fun z => absurd (by rw [h0] at z; exact z) ht⟩
  · obtain ⟨g1, g2, g3⟩ := h.2.2 v hv
    have e13 : E' 13 v = E 13 v := hs.2.1 v q
    have hl := g1.le
    have e14 : ∀ i, i < 41 → E' 14 (41 * v + i) = E 14 (41 * v + i) := fun i hi => hs.2.2 _ (by omega)
    exact ⟨⟨by rw [e13]; exact g1.1, fun i hi => by rw [e13] at hi; rw [e14 i (by omega)]; exact g1.2.1 i hi, fun a b ha hb he => by rw [e13] at ha hb; rw [e14 a (by omega), e14 b (by omega)] at he; exact g1.2.2 a b ha hb he⟩, by rw [eC]; intro i hi; rw [e13] at hi; rw [e14 i (by omega)]; exact g2 i hi, fun z => by rw [e13]; exact g3 (by rw [h0] at z; exact z)⟩
theorem LN.n {E : xD} (h : LN E) : E 0 14 = nI (ix (E 0 14)) ∧ ix (E 0 14) < 41 := vi_n h.1 (by decide)
theorem isC_n {E : xD} {x : Int32} (hv : vp_in (E 0 14) 41) (h : isC E x) : x = nI (ix x) ∧ 1 ≤ ix x ∧ ix x ≤ ix (E 0 14) ∧ ix x ≤ 40 := by
  have e := vi_n hv (by decide)
  have h2 : vp_in x 41 := vi_btw (a := 1) hv (sIn_t.mp h.1).1 (sIn_t.mp h.1).2 (by decide) (by decide)
  have e2 := vi_n h2 (by decide)
  have g1 := (sIn_t.mp h.1).1
  have g2 := (sIn_t.mp h.1).2
  rw [e2.1] at g1 g2
  rw [e.1] at g2
  have q1 := (nI_leI (a := 1) (by decide) (by omega)).mp g1
  have q2 := (nI_leI (by omega) (by omega)).mp g2
  exact ⟨e2.1, q1, q2, by omega⟩
theorem sAddTo_LN {E : xD} {t j : Nat} (h : LN E) (ht : t ≤ ix (E 0 14)) (hj : isC E (nI j)) (hj2 : j < 2 ^ 31) : LN (sAddTo E (nI t) (nI j)) ∧ LnS E (sAddTo E (nI t) (nI j)) t := by
  have hn := h.n
  obtain ⟨-, q1, q2, q3⟩ := isC_n h.1 hj
  rw [ix_nI hj2] at q1 q2 q3
  have ht2 : t < 41 := by omega
  obtain ⟨h1, h2, -⟩ := h.2.2 t ht2
  obtain ⟨s1, s2⟩ := sAddTo_S ht2 h1 q1 q3
  exact ⟨h.line s1 (by omega) s2 (sAddTo_P ht2 h1 q1 q3 h2 hj), s1⟩
theorem sJoin_LN {E : xD} {t g : Nat} (h : LN E) (ht : t ≤ ix (E 0 14)) (hg : g < 41) (hne : t ≠ g) : LN (sJoin E (nI t) (nI g)) ∧ LnS E (sJoin E (nI t) (nI g)) t := by
  have hn := h.n
  unfold sJoin
  split
  · exact ⟨h, LnS.rf⟩
  · have ht2 : t < 41 := by omega
    obtain ⟨h1, h2, -⟩ := h.2.2 t ht2
    obtain ⟨g1, g2, -⟩ := h.2.2 g hg
    rw [ix_nI (by omega)]
    obtain ⟨s1, s2⟩ := sJoinL_S ht2 hg hne (ix (E 13 g)) 0 E h1 g1 (by omega)
    exact ⟨h.line s1 (by omega) s2 (sJoinL_P ht2 hg hne (ix (E 13 g)) 0 E h1 g1 h2 g2 (by omega)), s1⟩
theorem sNew_LN {E : xD} {b : Int32} (h : LN E) (hT : ix (E 0 14) < 40) : LN (sNew E b) ∧ sNew E b = xdu (xdu E 0 14 (nI (ix (E 0 14) + 1))) 10 (ix (E 0 14) + 1) b ∧ sNew E b 0 14 = nI (ix (E 0 14) + 1) := by
  have hn := h.n
  have e1 : E 0 14 + 1 = nI (ix (E 0 14) + 1) := by
    conv => lhs; rw [hn.1]
    exact nI_1 _
  have e : sNew E b = xdu (xdu E 0 14 (nI (ix (E 0 14) + 1))) 10 (ix (E 0 14) + 1) b := by
    unfold sNew
    rw [e1, ix_nI (by omega)]
  have e0 : sNew E b 0 14 = nI (ix (E 0 14) + 1) := by rw [e, xdu_ne _ _ _ (by decide), xdu_self, upd_self]
  have ej : ∀ j, j ≠ 0 → j ≠ 10 → sNew E b j = E j := fun j a c => by rw [e, xdu_ne _ _ _ c, xdu_ne _ _ _ a]
  refine ⟨⟨by rw [e0]; exact vi_of (by omega) (by decide), by rw [ej 15 (by decide) (by decide)]; exact h.2.1, fun v hv => ?_⟩, e, e0⟩
  obtain ⟨g1, g2, g3⟩ := h.2.2 v hv
  refine ⟨g1.kept (ej 13 (by decide) (by decide)) (ej 14 (by decide) (by decide)), fun k hk => ?_, fun z => ?_⟩
  · rw [ej 13 (by decide) (by decide)] at hk
    rw [ej 14 (by decide) (by decide)]
    have hc := g2 k hk
    obtain ⟨c1, c2, c3, c4⟩ := isC_n h.1 hc
    refine ⟨?_, ?_⟩
    · rw [e0]
      refine sIn_t.mpr ⟨(sIn_t.mp hc.1).1, ?_⟩
      rw [c1]
      exact nI_le (by omega) (by omega)
    · rw [e, xdu_self, upd_ne _ _ (by omega), xdu_ne _ _ _ (by decide)]
      exact hc.2
  · rw [e0, ix_nI (by omega)] at z
    rw [ej 13 (by decide) (by decide)]
    exact g3 (by omega)
theorem sRowN_S {o : Nat} (ho : o < 41) : ∀ (n m : Nat) (E : xD), (∀ i, i < 492 → vp_in (E 15 i) 5) → Lnp E o → m + n = 12 → (∀ j, j ≠ 15 → j ≠ 16 → sRowN E (nI o) (nI m) n j = E j) ∧ (∀ i, i < 492 → vp_in (sRowN E (nI o) (nI m) n 15 i) 5) := by
  intro n
  induction n with
  | zero => intro m E h15 _ _; exact ⟨fun _ _ _ => rfl, h15⟩
  | succ n ih =>
    intro m E h15 hL hn
    have hle := hL.le
    rw [sRowN, ix12 ho (by omega), ix_nI (by omega), ix_nI (by omega), nI_1]
    have s0 : RwS E (xdu E 15 (12 * o + m) 0) (12 * o + m) := RwS_0
    have hL0 := hL.kept (s0.1 13 (by decide) (by decide)) (s0.1 14 (by decide) (by decide))
    have s1 := sRowK_S ho (show m < 12 by omega) (ix (E 13 o)) 0 _ (s0.all h15) hL0 (by rw [s0.1 13 (by decide) (by decide)]; omega)
    have s := s0.tr s1
    obtain ⟨r1, r2⟩ := ih (m + 1) _ (s.all h15) (hL.kept (s.1 13 (by decide) (by decide)) (s.1 14 (by decide) (by decide))) (by omega)
    exact ⟨fun j a b => (r1 j a b).trans (s.1 j a b), r2⟩
theorem sRows_LN {E : xD} {o : Nat} (h : LN E) (ho : o < 41) : LN (sRows E (nI o)) ∧ ∀ j, j ≠ 15 → j ≠ 16 → sRows E (nI o) j = E j := by
  obtain ⟨r1, r2⟩ := sRowN_S ho 12 0 E h.2.1 (h.2.2 o ho).1 rfl
  unfold sRows
  rw [lk_eq]
  exact ⟨h.same (by show sRowN E (nI o) 0 12 0 14 = _; rw [show (0 : Int32) = nI 0 from rfl, r1 0 (by decide) (by decide)]) (r1 10 (by decide) (by decide)) (r1 13 (by decide) (by decide)) (r1 14 (by decide) (by decide)) r2, r1⟩
theorem LN.no {E : xD} {o : Nat} (h : LN E) (ho : o < 41) (h10 : E 10 o = 0) : ∀ k, k < ix (E 13 o) → ¬ E 14 (41 * o + k) = nI o := fun k hk q => by
  have := ((h.2.2 o ho).2.1 k hk).2
  rw [q, ix_nI (by omega)] at this
  exact this h10
