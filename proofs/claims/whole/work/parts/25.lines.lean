/-! ===== LINES: entries apart, between 1 and 40 ===== -/
theorem php : ∀ (m n : Nat) (f : Nat → Nat), (∀ a, a < n → f a < m) → (∀ a b, a < n → b < n → f a = f b → a = b) → n ≤ m := by
  intro m
  induction m with
  | zero =>
    intro n f h _
    cases n with
    | zero => exact Nat.le_refl _
    | succ n => exact absurd (h 0 (by omega)) (by omega)
  | succ m ih =>
    intro n f h hi
    by_cases hx : ∃ a, a < n ∧ f a = m
    · obtain ⟨a, ha, hfa⟩ := hx
      have : n - 1 ≤ m := ih (n - 1) (fun k => f (if k < a then k else k + 1)) (fun k hk => by
        have hlt : (if k < a then k else k + 1) < n := by split <;> omega
        have hne : f (if k < a then k else k + 1) ≠ m := fun q => by
          have := hi _ _ hlt ha (q.trans hfa.symm)
          split at this <;> omega
        have := h _ hlt
        omega) (fun k k' hk hk' he => by
        have h1 : (if k < a then k else k + 1) < n := by split <;> omega
        have h2 : (if k' < a then k' else k' + 1) < n := by split <;> omega
        have := hi _ _ h1 h2 he
        split at this <;> split at this <;> omega)
      omega
    · have := ih n f (fun a ha => by
        have h1 := h a ha
        have h2 : f a ≠ m := fun q => hx ⟨a, ha, q⟩
        omega) hi
      omega
theorem ix41 {t k : Nat} (ht : t < 41) (hk : k < 41) : ix (41 * nI t + nI k) = 41 * t + k := by
  rw [show (41 : Int32) = nI 41 from rfl, pk_mul, nI_add, ix_nI (by omega)]
def Lnp (E : xD) (t : Nat) : Prop := vp_in (E 13 t) 41 ∧ (∀ k, k < ix (E 13 t) → ∃ j, 1 ≤ j ∧ j ≤ 40 ∧ E 14 (41 * t + k) = nI j) ∧ ∀ a b, a < ix (E 13 t) → b < ix (E 13 t) → E 14 (41 * t + a) = E 14 (41 * t + b) → a = b
theorem sHas_iff {E : xD} {t : Nat} (ht : t < 41) {g : Int32} : ∀ (n k : Nat), k + n ≤ 41 → (sHas E (nI t) g (nI k) n = true ↔ ∃ i, k ≤ i ∧ i < k + n ∧ E 14 (41 * t + i) = g) := by
  intro n
  induction n with
  | zero =>
    intro k _
    constructor
    · intro h; cases h
    · rintro ⟨i, h1, h2, -⟩; omega
  | succ n ih =>
    intro k hk
    rw [sHas, ix41 ht (by omega), nI_1]
    by_cases h : E 14 (41 * t + k) = g
    · rw [if_pos h]
      exact ⟨fun _ => ⟨k, by omega, by omega, h⟩, fun _ => rfl⟩
    · rw [if_neg h, ih (k + 1) (by omega)]
      constructor
      · rintro ⟨i, h1, h2, h3⟩
        exact ⟨i, by omega, by omega, h3⟩
      · rintro ⟨i, h1, h2, h3⟩
        refine ⟨i, ?_, by omega, h3⟩
        rcases Nat.lt_or_ge k i with q | q
        · exact q
        · exact absurd (by rw [show k = i by omega]; exact h3) h
theorem sAddTo_has {E : xD} {t : Nat} (ht : t < 41) (hv : vp_in (E 13 t) 41) {g : Int32} : (sHas E (nI t) g 0 (ix (E 13 (ix (nI t)))) = true ↔ ∃ i, i < ix (E 13 t) ∧ E 14 (41 * t + i) = g) := by
  have hl := (vi_n hv (by decide)).2
  rw [ix_nI (by omega), show (0 : Int32) = nI 0 from rfl, sHas_iff ht _ _ (by omega)]
  constructor
  · rintro ⟨i, -, h2, h3⟩; exact ⟨i, by omega, h3⟩
  · rintro ⟨i, h2, h3⟩; exact ⟨i, by omega, by omega, h3⟩
theorem Lnp.le {E : xD} {t : Nat} (h : Lnp E t) : ix (E 13 t) ≤ 40 := by
  have := (vi_n h.1 (by decide)).2
  omega
/-- what addToLine does -/
theorem sAddTo_do {E : xD} {t j : Nat} (ht : t < 41) (hL : Lnp E t) (h1 : 1 ≤ j) (h40 : j ≤ 40) : (sAddTo E (nI t) (nI j) = E ∧ ∃ i, i < ix (E 13 t) ∧ E 14 (41 * t + i) = nI j) ∨ (sAddTo E (nI t) (nI j) = xdu (xdu E 14 (41 * t + ix (E 13 t)) (nI j)) 13 t (nI (ix (E 13 t) + 1)) ∧ ix (E 13 t) < 40 ∧ ∀ i, i < ix (E 13 t) → ¬ E 14 (41 * t + i) = nI j) := by
  obtain ⟨en, ln⟩ := vi_n hL.1 (by decide)
  by_cases h : sHas E (nI t) (nI j) 0 (ix (E 13 (ix (nI t)))) = true
  · left
    exact ⟨by unfold sAddTo; rw [if_pos h], (sAddTo_has ht hL.1).mp h⟩
  · right
    have hno : ∀ i, i < ix (E 13 t) → ¬ E 14 (41 * t + i) = nI j := fun i hi he => h ((sAddTo_has ht hL.1).mpr ⟨i, hi, he⟩)
    refine ⟨?_, ?_, hno⟩
    · unfold sAddTo
      rw [if_neg h, ix_nI (by omega)]
      congr 1
      · congr 1
        conv => lhs; rw [en]
        exact ix41 ht ln
      · conv => lhs; rw [en]
        exact nI_1 _
    · have hall : ∀ k, k < ix (E 13 t) + 1 → ∃ x, 1 ≤ x ∧ x ≤ 40 ∧ (if k = ix (E 13 t) then nI j else E 14 (41 * t + k)) = nI x := fun k hk => by
        by_cases hk2 : k = ix (E 13 t)
        · rw [if_pos hk2]; exact ⟨j, h1, h40, rfl⟩
        · rw [if_neg hk2]; exact hL.2.1 k (by omega)
      have := php 40 (ix (E 13 t) + 1) (fun k => ix (if k = ix (E 13 t) then nI j else E 14 (41 * t + k)) - 1) (fun k hk => by
        obtain ⟨x, x1, x2, x3⟩ := hall k hk
        rw [x3, ix_nI (by omega)]
        omega) (fun a b ha hb hab => by
        obtain ⟨x, x1, x2, x3⟩ := hall a ha
        obtain ⟨y, y1, y2, y3⟩ := hall b hb
        rw [x3, y3, ix_nI (by omega), ix_nI (by omega)] at hab
        have hxy : x = y := by omega
        by_cases qa : a = ix (E 13 t)
        · by_cases qb : b = ix (E 13 t)
          · omega
          · rw [if_pos qa] at x3
            rw [if_neg qb] at y3
            exact absurd (by rw [y3, x3, hxy]) (hno b (by omega))
        · by_cases qb : b = ix (E 13 t)
          · rw [if_neg qa] at x3
            rw [if_pos qb] at y3
            exact absurd (by rw [x3, y3, hxy]) (hno a (by omega))
          · rw [if_neg qa] at x3
            rw [if_neg qb] at y3
            exact hL.2.2 a b (by omega) (by omega) (by rw [x3, y3, hxy]))
      omega
/-- the cells that a change of thing t's line leaves -/
def LnS (E E' : xD) (t : Nat) : Prop := (∀ j, j ≠ 13 → j ≠ 14 → E' j = E j) ∧ (∀ v, v ≠ t → E' 13 v = E 13 v) ∧ ∀ i, (i < 41 * t ∨ 41 * t + 41 ≤ i) → E' 14 i = E 14 i
theorem LnS.rf {E : xD} {t : Nat} : LnS E E t := ⟨fun _ _ _ => rfl, fun _ _ => rfl, fun _ _ => rfl⟩
theorem LnS.tr {E E1 E2 : xD} {t : Nat} (h : LnS E E1 t) (h2 : LnS E1 E2 t) : LnS E E2 t := ⟨fun j a b => (h2.1 j a b).trans (h.1 j a b), fun v a => (h2.2.1 v a).trans (h.2.1 v a), fun i a => (h2.2.2 i a).trans (h.2.2 i a)⟩
theorem sAddTo_S {E : xD} {t j : Nat} (ht : t < 41) (hL : Lnp E t) (h1 : 1 ≤ j) (h40 : j ≤ 40) : LnS E (sAddTo E (nI t) (nI j)) t ∧ Lnp (sAddTo E (nI t) (nI j)) t := by
  rcases sAddTo_do ht hL h1 h40 with ⟨e, -⟩ | ⟨e, hlt, hno⟩
  · rw [e]; exact ⟨LnS.rf, hL⟩
  · rw [e]
    have h13 : ∀ v, (xdu (xdu E 14 (41 * t + ix (E 13 t)) (nI j)) 13 t (nI (ix (E 13 t) + 1))) 13 v = if v = t then nI (ix (E 13 t) + 1) else E 13 v := fun v => by
      rw [xdu_self, xdu_ne _ _ _ (by decide)]
      rfl
    have h14 : ∀ i, (xdu (xdu E 14 (41 * t + ix (E 13 t)) (nI j)) 13 t (nI (ix (E 13 t) + 1))) 14 i = if i = 41 * t + ix (E 13 t) then nI j else E 14 i := fun i => by
      rw [xdu_ne _ _ _ (by decide), xdu_self]
      rfl
    refine ⟨⟨fun q a b => by rw [xdu_ne _ _ _ a, xdu_ne _ _ _ b], fun v hv => by rw [h13, if_neg hv], fun i hi => by rw [h14, if_neg (by omega)]⟩, ?_, ?_, ?_⟩
    · rw [h13, if_pos rfl]; exact vi_of (by omega) (by decide)
    · intro k hk
      rw [h13, if_pos rfl, ix_nI (by omega)] at hk
      rw [h14]
      by_cases q : k = ix (E 13 t)
      · rw [if_pos (by omega)]; exact ⟨j, h1, h40, rfl⟩
      · rw [if_neg (by omega)]; exact hL.2.1 k (by omega)
    · intro a b ha hb he
      rw [h13, if_pos rfl, ix_nI (by omega)] at ha hb
      rw [h14, h14] at he
      by_cases qa : a = ix (E 13 t)
      · by_cases qb : b = ix (E 13 t)
        · omega
        · rw [if_pos (by omega), if_neg (by omega)] at he
          exact absurd he.symm (hno b (by omega))
      · by_cases qb : b = ix (E 13 t)
        · rw [if_neg (by omega), if_pos (by omega)] at he
          exact absurd he (hno a (by omega))
        · rw [if_neg (by omega), if_neg (by omega)] at he
          exact hL.2.2 a b (by omega) (by omega) he
theorem sJoinL_S {t g : Nat} (ht : t < 41) (hg : g < 41) (hne : t ≠ g) : ∀ (n k : Nat) (E : xD), Lnp E t → Lnp E g → k + n ≤ ix (E 13 g) → LnS E (sJoinL E (nI t) (nI g) (nI k) n) t ∧ Lnp (sJoinL E (nI t) (nI g) (nI k) n) t := by
  intro n
  induction n with
  | zero => intro k E hL _ _; exact ⟨LnS.rf, hL⟩
  | succ n ih =>
    intro k E hL hG hk
    have hle := hG.le
    rw [sJoinL, ix41 hg (by omega), nI_1]
    obtain ⟨j, j1, j2, j3⟩ := hG.2.1 k (by omega)
    rw [j3]
    obtain ⟨s1, s2⟩ := sAddTo_S ht hL j1 j2
    have e13 : sAddTo E (nI t) (nI j) 13 g = E 13 g := s1.2.1 g (Ne.symm hne)
    have e14 : ∀ i, i < 41 → sAddTo E (nI t) (nI j) 14 (41 * g + i) = E 14 (41 * g + i) := fun i hi => s1.2.2 _ (by omega)
    have hG2 : Lnp (sAddTo E (nI t) (nI j)) g := ⟨by rw [e13]; exact hG.1, fun i hi => by rw [e13] at hi; rw [e14 i (by omega)]; exact hG.2.1 i hi, fun a b ha hb he => by rw [e13] at ha hb; rw [e14 a (by omega), e14 b (by omega)] at he; exact hG.2.2 a b ha hb he⟩
    obtain ⟨r1, r2⟩ := ih (k + 1) _ s2 hG2 (by rw [e13]; omega)
    exact ⟨s1.tr r1, r2⟩
