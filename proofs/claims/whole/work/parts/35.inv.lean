/-! ===== WHAT ALWAYS HOLDS of the reference's cells ===== -/
/-- the objects of a pool are no classes -/
def PL (E : xD) : Prop := ∀ c, c < 41 → ∀ i, 1 ≤ i → i ≤ ix (E 12 c) → ¬ E 12 c = 0 → E 10 (c + i) = 0
def Iv (E : xD) : Prop := RB E ∧ LN E ∧ FO E ∧ PL E
theorem ms_PL {S E : xD} : PL (ms S E) = PL E := by
  unfold PL
  rw [m_12, m_10]
theorem ms_FO {S E : xD} : FO (ms S E) = FO E := by
  unfold FO nat
  rw [m_19, m_20, m_21]
theorem ms_Iv {S E : xD} : Iv (ms S E) = Iv E := by
  unfold Iv
  rw [ms_RB, ms_LN, ms_FO, ms_PL]
/-- what the invariant does not look at -/
theorem Iv.same {E E' : xD} (h : Iv E) (h0 : ∀ k, k ≠ 0 → k ≠ 40 → k ≠ 39 → k ≠ 42 → k ≠ 31 → k ≠ 32 → E' 0 k = E 0 k) (h2 : E' 2 = E 2) (h4 : E' 4 = E 4) (h5 : E' 5 = E 5) (h8 : E' 8 = E 8) (h10 : E' 10 = E 10) (h12 : E' 12 = E 12) (h13 : E' 13 = E 13) (h14 : E' 14 = E 14) (h15 : E' 15 = E 15) (h17 : E' 17 = E 17) (h19 : E' 19 = E 19) (h20 : E' 20 = E 20) (h21 : E' 21 = E 21) : Iv E' := by
  obtain ⟨hB, hL, hF, hP⟩ := h
  refine ⟨?_, hL.same (h0 14 (by decide) (by decide) (by decide) (by decide) (by decide) (by decide)) h10 h13 h14 (by rw [h15]; exact hL.2.1), hF.same h19 h20 h21, ?_⟩
  · unfold RB at hB ⊢
    rw [h0 1 (by decide) (by decide) (by decide) (by decide) (by decide) (by decide), h0 3 (by decide) (by decide) (by decide) (by decide) (by decide) (by decide), h0 6 (by decide) (by decide) (by decide) (by decide) (by decide) (by decide), h0 11 (by decide) (by decide) (by decide) (by decide) (by decide) (by decide), h0 14 (by decide) (by decide) (by decide) (by decide) (by decide) (by decide), h0 27 (by decide) (by decide) (by decide) (by decide) (by decide) (by decide), h0 29 (by decide) (by decide) (by decide) (by decide) (by decide) (by decide), h0 41 (by decide) (by decide) (by decide) (by decide) (by decide) (by decide), h2, h4, h5, h8, h12, h13, h14, h15, h17, h19, h20, h21]
    exact hB
  · unfold PL at hP ⊢
    rw [h12, h10]
    exact hP
/-- a field that is only bounded: 27 faults, 29 bytes, 41 acts, 1 letters -/
theorem Iv.n27 {E : xD} {x : Int32} (h : Iv E) (hx : vp_in x 31) : Iv (xdu E 0 27 x) := by
  obtain ⟨hB, hL, hF, hP⟩ := h
  refine ⟨?_, hL.same (by rw [xdu_self, upd_ne _ _ (by decide)]) (xdu_ne _ _ _ (by decide)) (xdu_ne _ _ _ (by decide)) (xdu_ne _ _ _ (by decide)) (by rw [xdu_ne _ _ _ (by decide)]; exact hL.2.1), hF.same (xdu_ne _ _ _ (by decide)) (xdu_ne _ _ _ (by decide)) (xdu_ne _ _ _ (by decide)), ?_⟩
  · unfold RB at hB ⊢
    simp only [xdu_self, upd_self, upd_ne _ _ (show (1 : Nat) ≠ 27 by decide), upd_ne _ _ (show (3 : Nat) ≠ 27 by decide), upd_ne _ _ (show (6 : Nat) ≠ 27 by decide), upd_ne _ _ (show (11 : Nat) ≠ 27 by decide), upd_ne _ _ (show (14 : Nat) ≠ 27 by decide), upd_ne _ _ (show (29 : Nat) ≠ 27 by decide), upd_ne _ _ (show (41 : Nat) ≠ 27 by decide), xdu_ne E _ _ (show (2 : Nat) ≠ 0 by decide), xdu_ne E _ _ (show (4 : Nat) ≠ 0 by decide), xdu_ne E _ _ (show (5 : Nat) ≠ 0 by decide), xdu_ne E _ _ (show (8 : Nat) ≠ 0 by decide), xdu_ne E _ _ (show (12 : Nat) ≠ 0 by decide), xdu_ne E _ _ (show (13 : Nat) ≠ 0 by decide), xdu_ne E _ _ (show (14 : Nat) ≠ 0 by decide), xdu_ne E _ _ (show (15 : Nat) ≠ 0 by decide), xdu_ne E _ _ (show (17 : Nat) ≠ 0 by decide), xdu_ne E _ _ (show (19 : Nat) ≠ 0 by decide), xdu_ne E _ _ (show (20 : Nat) ≠ 0 by decide), xdu_ne E _ _ (show (21 : Nat) ≠ 0 by decide)]
    exact ⟨⟨hB.1.1, hB.1.2.1, hB.1.2.2.1, hB.1.2.2.2.1, hB.1.2.2.2.2.1, hx, hB.1.2.2.2.2.2.2.1, hB.1.2.2.2.2.2.2.2⟩, hB.2⟩
  · unfold PL at hP ⊢
    rw [xdu_ne _ _ _ (by decide), xdu_ne _ _ _ (by decide)]
    exact hP
theorem Iv.n29 {E : xD} {x : Int32} (h : Iv E) (hx : vp_in x 401) : Iv (xdu E 0 29 x) := by
  obtain ⟨hB, hL, hF, hP⟩ := h
  refine ⟨?_, hL.same (by rw [xdu_self, upd_ne _ _ (by decide)]) (xdu_ne _ _ _ (by decide)) (xdu_ne _ _ _ (by decide)) (xdu_ne _ _ _ (by decide)) (by rw [xdu_ne _ _ _ (by decide)]; exact hL.2.1), hF.same (xdu_ne _ _ _ (by decide)) (xdu_ne _ _ _ (by decide)) (xdu_ne _ _ _ (by decide)), ?_⟩
  · unfold RB at hB ⊢
    simp only [xdu_self, upd_self, upd_ne _ _ (show (1 : Nat) ≠ 29 by decide), upd_ne _ _ (show (3 : Nat) ≠ 29 by decide), upd_ne _ _ (show (6 : Nat) ≠ 29 by decide), upd_ne _ _ (show (11 : Nat) ≠ 29 by decide), upd_ne _ _ (show (14 : Nat) ≠ 29 by decide), upd_ne _ _ (show (27 : Nat) ≠ 29 by decide), upd_ne _ _ (show (41 : Nat) ≠ 29 by decide), xdu_ne E _ _ (show (2 : Nat) ≠ 0 by decide), xdu_ne E _ _ (show (4 : Nat) ≠ 0 by decide), xdu_ne E _ _ (show (5 : Nat) ≠ 0 by decide), xdu_ne E _ _ (show (8 : Nat) ≠ 0 by decide), xdu_ne E _ _ (show (12 : Nat) ≠ 0 by decide), xdu_ne E _ _ (show (13 : Nat) ≠ 0 by decide), xdu_ne E _ _ (show (14 : Nat) ≠ 0 by decide), xdu_ne E _ _ (show (15 : Nat) ≠ 0 by decide), xdu_ne E _ _ (show (17 : Nat) ≠ 0 by decide), xdu_ne E _ _ (show (19 : Nat) ≠ 0 by decide), xdu_ne E _ _ (show (20 : Nat) ≠ 0 by decide), xdu_ne E _ _ (show (21 : Nat) ≠ 0 by decide)]
    exact ⟨⟨hB.1.1, hB.1.2.1, hB.1.2.2.1, hB.1.2.2.2.1, hB.1.2.2.2.2.1, hB.1.2.2.2.2.2.1, hx, hB.1.2.2.2.2.2.2.2⟩, hB.2⟩
  · unfold PL at hP ⊢
    rw [xdu_ne _ _ _ (by decide), xdu_ne _ _ _ (by decide)]
    exact hP
theorem Iv.n41 {E : xD} {x : Int32} (h : Iv E) (hx : vp_in x 201) : Iv (xdu E 0 41 x) := by
  obtain ⟨hB, hL, hF, hP⟩ := h
  refine ⟨?_, hL.same (by rw [xdu_self, upd_ne _ _ (by decide)]) (xdu_ne _ _ _ (by decide)) (xdu_ne _ _ _ (by decide)) (xdu_ne _ _ _ (by decide)) (by rw [xdu_ne _ _ _ (by decide)]; exact hL.2.1), hF.same (xdu_ne _ _ _ (by decide)) (xdu_ne _ _ _ (by decide)) (xdu_ne _ _ _ (by decide)), ?_⟩
  · unfold RB at hB ⊢
    simp only [xdu_self, upd_self, upd_ne _ _ (show (1 : Nat) ≠ 41 by decide), upd_ne _ _ (show (3 : Nat) ≠ 41 by decide), upd_ne _ _ (show (6 : Nat) ≠ 41 by decide), upd_ne _ _ (show (11 : Nat) ≠ 41 by decide), upd_ne _ _ (show (14 : Nat) ≠ 41 by decide), upd_ne _ _ (show (27 : Nat) ≠ 41 by decide), upd_ne _ _ (show (29 : Nat) ≠ 41 by decide), xdu_ne E _ _ (show (2 : Nat) ≠ 0 by decide), xdu_ne E _ _ (show (4 : Nat) ≠ 0 by decide), xdu_ne E _ _ (show (5 : Nat) ≠ 0 by decide), xdu_ne E _ _ (show (8 : Nat) ≠ 0 by decide), xdu_ne E _ _ (show (12 : Nat) ≠ 0 by decide), xdu_ne E _ _ (show (13 : Nat) ≠ 0 by decide), xdu_ne E _ _ (show (14 : Nat) ≠ 0 by decide), xdu_ne E _ _ (show (15 : Nat) ≠ 0 by decide), xdu_ne E _ _ (show (17 : Nat) ≠ 0 by decide), xdu_ne E _ _ (show (19 : Nat) ≠ 0 by decide), xdu_ne E _ _ (show (20 : Nat) ≠ 0 by decide), xdu_ne E _ _ (show (21 : Nat) ≠ 0 by decide)]
    exact ⟨⟨hB.1.1, hB.1.2.1, hB.1.2.2.1, hB.1.2.2.2.1, hB.1.2.2.2.2.1, hB.1.2.2.2.2.2.1, hB.1.2.2.2.2.2.2.1, hx⟩, hB.2⟩
  · unfold PL at hP ⊢
    rw [xdu_ne _ _ _ (by decide), xdu_ne _ _ _ (by decide)]
    exact hP
theorem Iv.n1 {E : xD} {x : Int32} (h : Iv E) (hx : vp_in x 21) : Iv (xdu E 0 1 x) := by
  obtain ⟨hB, hL, hF, hP⟩ := h
  refine ⟨?_, hL.same (by rw [xdu_self, upd_ne _ _ (by decide)]) (xdu_ne _ _ _ (by decide)) (xdu_ne _ _ _ (by decide)) (xdu_ne _ _ _ (by decide)) (by rw [xdu_ne _ _ _ (by decide)]; exact hL.2.1), hF.same (xdu_ne _ _ _ (by decide)) (xdu_ne _ _ _ (by decide)) (xdu_ne _ _ _ (by decide)), ?_⟩
  · unfold RB at hB ⊢
    simp only [xdu_self, upd_self, upd_ne _ _ (show (3 : Nat) ≠ 1 by decide), upd_ne _ _ (show (6 : Nat) ≠ 1 by decide), upd_ne _ _ (show (11 : Nat) ≠ 1 by decide), upd_ne _ _ (show (14 : Nat) ≠ 1 by decide), upd_ne _ _ (show (27 : Nat) ≠ 1 by decide), upd_ne _ _ (show (29 : Nat) ≠ 1 by decide), upd_ne _ _ (show (41 : Nat) ≠ 1 by decide), xdu_ne E _ _ (show (2 : Nat) ≠ 0 by decide), xdu_ne E _ _ (show (4 : Nat) ≠ 0 by decide), xdu_ne E _ _ (show (5 : Nat) ≠ 0 by decide), xdu_ne E _ _ (show (8 : Nat) ≠ 0 by decide), xdu_ne E _ _ (show (12 : Nat) ≠ 0 by decide), xdu_ne E _ _ (show (13 : Nat) ≠ 0 by decide), xdu_ne E _ _ (show (14 : Nat) ≠ 0 by decide), xdu_ne E _ _ (show (15 : Nat) ≠ 0 by decide), xdu_ne E _ _ (show (17 : Nat) ≠ 0 by decide), xdu_ne E _ _ (show (19 : Nat) ≠ 0 by decide), xdu_ne E _ _ (show (20 : Nat) ≠ 0 by decide), xdu_ne E _ _ (show (21 : Nat) ≠ 0 by decide)]
    exact ⟨⟨hx, hB.1.2.1, hB.1.2.2.1, hB.1.2.2.2.1, hB.1.2.2.2.2.1, hB.1.2.2.2.2.2.1, hB.1.2.2.2.2.2.2.1, hB.1.2.2.2.2.2.2.2⟩, hB.2⟩
  · unfold PL at hP ⊢
    rw [xdu_ne _ _ _ (by decide), xdu_ne _ _ _ (by decide)]
    exact hP
theorem Iv.spent {E : xD} {x : Int32} (h : Iv E) : Iv (xdu E 0 42 x) := h.same (fun k _ _ _ a _ _ => by rw [xdu_self, upd_ne _ _ a]) (xdu_ne _ _ _ (by decide)) (xdu_ne _ _ _ (by decide)) (xdu_ne _ _ _ (by decide)) (xdu_ne _ _ _ (by decide)) (xdu_ne _ _ _ (by decide)) (xdu_ne _ _ _ (by decide)) (xdu_ne _ _ _ (by decide)) (xdu_ne _ _ _ (by decide)) (xdu_ne _ _ _ (by decide)) (xdu_ne _ _ _ (by decide)) (xdu_ne _ _ _ (by decide)) (xdu_ne _ _ _ (by decide)) (xdu_ne _ _ _ (by decide))
/-- an array that it does not look at -/
theorem Iv.free {E : xD} {j k : Nat} {x : Int32} (h : Iv E) (hj : j ≠ 0 ∧ j ≠ 2 ∧ j ≠ 4 ∧ j ≠ 5 ∧ j ≠ 8 ∧ j ≠ 10 ∧ j ≠ 12 ∧ j ≠ 13 ∧ j ≠ 14 ∧ j ≠ 15 ∧ j ≠ 17 ∧ j ≠ 19 ∧ j ≠ 20 ∧ j ≠ 21) : Iv (xdu E j k x) := h.same (fun k _ _ _ _ _ _ => by rw [xdu_ne _ _ _ (Ne.symm hj.1)]) (xdu_ne _ _ _ (by omega)) (xdu_ne _ _ _ (by omega)) (xdu_ne _ _ _ (by omega)) (xdu_ne _ _ _ (by omega)) (xdu_ne _ _ _ (by omega)) (xdu_ne _ _ _ (by omega)) (xdu_ne _ _ _ (by omega)) (xdu_ne _ _ _ (by omega)) (xdu_ne _ _ _ (by omega)) (xdu_ne _ _ _ (by omega)) (xdu_ne _ _ _ (by omega)) (xdu_ne _ _ _ (by omega)) (xdu_ne _ _ _ (by omega))
theorem Iv.fails {E : xD} {k a b : Int32} (h : Iv E) : Iv (sFails E k a b) := by
  unfold sFails
  split
  next q =>
    refine (((h.free (by decide)).free (by decide)).free (by decide)).n27 ?_
    exact (vi_ad (vi_lt h.1.n27 (by decide) q.2) (vi_of (n := 1) (N := 2) (by decide) (by decide)) (by decide) (by decide) (by decide) (by decide)).1
  next => exact h
theorem Iv.say {E : xD} {c : Int32} (h : Iv E) : Iv (sSay E c) := by
  unfold sSay
  split
  next q => exact (h.free (by decide)).n29 (vi_ad (vi_lt h.1.n29 (by decide) q) (vi_of (n := 1) (N := 2) (by decide) (by decide)) (by decide) (by decide) (by decide) (by decide)).1
  next => exact h
theorem Iv.says : ∀ {cs : List Int32} {E : xD}, Iv E → Iv (sSays E cs)
  | [], _, h => h
  | c :: cs, E, h => by
    have h2 : Iv (sSay E c) := h.say
    have h3 : Iv (sSays (sSay E c) cs) := Iv.says h2
    rw [sSays]
    exact h3
theorem Iv.sayN {t : Int32} : ∀ (n : Nat) (k : Int32) (E : xD), Iv E → Iv (sSayN E t k n)
  | 0, _, _, h => h
  | n + 1, k, E, h => by
    rw [sSayN]
    exact Iv.sayN n _ _ h.say
theorem Iv.sayText {E : xD} {x : Int32} (h : Iv E) : Iv (sSayText E x) := Iv.sayN _ _ _ h
theorem Iv.article {E : xD} {x a : Int32} (h : Iv E) : Iv (sArticle E x a) := by
  unfold sArticle
  split
  · split
    · exact h.say.say.say
    · exact h.say.say
  · split
    · exact h.say.say.say.say
    · exact h
theorem Iv.sayNum {E : xD} {v : Int32} (h : Iv E) : Iv (sSayNum E v) := by
  unfold sSayNum
  split
  · exact h.say.say.say.say
  · exact h.say.say.say
theorem Iv.name {E : xD} {v a : Int32} (h : Iv E) : Iv (sName E v a) := by
  unfold sName
  split
  · exact h.says
  · split
    · exact h.says
    · split
      · split
        · exact h.says.sayNum
        · exact h.sayNum
      · split <;> split
        · exact h.says.article.sayText
        · exact h.article.sayText
        · exact h.says.sayText
        · exact h.sayText
theorem Iv.read {E : xD} {t n i : Int32} (h : Iv E) : Iv (sRead E t n i).2 := by
  unfold sRead
  split
  · exact h.fails
  · exact h
theorem Iv.write {E : xD} {t n i v : Int32} (h : Iv E) : Iv (sWrite E t n i v).2 := by
  unfold sWrite
  split
  · exact h.fails
  · exact h.free (by decide)
theorem Iv.tree {E : xD} {v w : Int32} (h : Iv E) : Iv (sTree E v w).2 := by
  unfold sTree
  split
  · exact h.fails
  · exact h
theorem Iv.spend {E : xD} {o : Int32} (h : Iv E) : Iv (sSpend E o) := by
  unfold sSpend
  split
  · exact h.fails.spent
  · exact h
/-- rows alone -/
theorem Iv.rowsOf {E E' : xD} (h : Iv E) (hj : ∀ j, j ≠ 15 → j ≠ 16 → E' j = E j) (h15 : ∀ i, i < 492 → vp_in (E' 15 i) 5) : Iv E' := by
  obtain ⟨hB, hL, hF, hP⟩ := h
  refine ⟨?_, hL.same (by rw [hj 0 (by decide) (by decide)]) (hj 10 (by decide) (by decide)) (hj 13 (by decide) (by decide)) (hj 14 (by decide) (by decide)) h15, hF.same (hj 19 (by decide) (by decide)) (hj 20 (by decide) (by decide)) (hj 21 (by decide) (by decide)), ?_⟩
  · unfold RB at hB ⊢
    rw [hj 0 (by decide) (by decide), hj 2 (by decide) (by decide), hj 4 (by decide) (by decide), hj 5 (by decide) (by decide), hj 8 (by decide) (by decide), hj 12 (by decide) (by decide), hj 13 (by decide) (by decide), hj 14 (by decide) (by decide), hj 17 (by decide) (by decide), hj 19 (by decide) (by decide), hj 20 (by decide) (by decide), hj 21 (by decide) (by decide)]
    exact ⟨hB.1, hB.2.1, hB.2.2.1, hB.2.2.2.1, hB.2.2.2.2.1, hB.2.2.2.2.2.1, h15, hB.2.2.2.2.2.2.2⟩
  · unfold PL at hP ⊢
    rw [hj 12 (by decide) (by decide), hj 10 (by decide) (by decide)]
    exact hP
theorem Iv.rows {E : xD} {o : Nat} (h : Iv E) (ho : o < 41) : Iv (sRows E (nI o)) := by
  obtain ⟨h1, h2⟩ := sRows_LN h.2.1 ho
  exact h.rowsOf h2 h1.2.1
/-- the tree alone -/
theorem Iv.treeOf {E E' : xD} (h : Iv E) (hj : ∀ j, j ≠ 19 → j ≠ 20 → j ≠ 21 → E' j = E j) (ht : ∀ t, t < 41 → vp_in (E' 19 t) 41 ∧ vp_in (E' 20 t) 41 ∧ vp_in (E' 21 t) 41) (hF' : FO E') : Iv E' := by
  obtain ⟨hB, hL, hF, hP⟩ := h
  refine ⟨?_, hL.same (by rw [hj 0 (by decide) (by decide) (by decide)]) (hj 10 (by decide) (by decide) (by decide)) (hj 13 (by decide) (by decide) (by decide)) (hj 14 (by decide) (by decide) (by decide)) (by rw [hj 15 (by decide) (by decide) (by decide)]; exact hL.2.1), hF', ?_⟩
  · unfold RB at hB ⊢
    rw [hj 0 (by decide) (by decide) (by decide), hj 2 (by decide) (by decide) (by decide), hj 4 (by decide) (by decide) (by decide), hj 5 (by decide) (by decide) (by decide), hj 8 (by decide) (by decide) (by decide), hj 12 (by decide) (by decide) (by decide), hj 13 (by decide) (by decide) (by decide), hj 14 (by decide) (by decide) (by decide), hj 15 (by decide) (by decide) (by decide), hj 17 (by decide) (by decide) (by decide)]
    exact ⟨hB.1, hB.2.1, hB.2.2.1, hB.2.2.2.1, hB.2.2.2.2.1, hB.2.2.2.2.2.1, hB.2.2.2.2.2.2.1, ht, hB.2.2.2.2.2.2.2.2⟩
  · unfold PL at hP ⊢
    rw [hj 12 (by decide) (by decide) (by decide), hj 10 (by decide) (by decide) (by decide)]
    exact hP
theorem Iv.leave {E : xD} {o : Nat} (h : Iv E) (h1 : 1 ≤ o) (h2 : o < 41) : Iv (sLeave E (nI o)) := by
  obtain ⟨g1, g2, g3, -⟩ := sLeave_FO h.1 h.2.2.1 h1 h2
  exact h.treeOf g2 g3 g1
theorem sMeta_n {E : xD} (hB : RB E) {v : Int32} (h : sMeta E v = 2) : ∃ a, v = nI a ∧ 1 ≤ a ∧ a < 41 := by
  have hs := sMeta_2 h
  have hv := hB.in14 hs
  have e := vi_n hv (by decide)
  have g := (sIn_t.mp hs).1
  rw [e.1] at g
  have := (nI_leI (a := 1) (by decide) (by omega)).mp g
  exact ⟨ix v, e.1, this, e.2⟩
theorem Iv.move {E : xD} {a b : Int32} (h : Iv E) : Iv (sMove E a b).2 := by
  unfold sMove
  split
  · exact h.fails
  next hm =>
    have ha : sMeta E a = 2 := Decidable.not_not.mp (fun q => hm (Or.inl q))
    obtain ⟨na, rfl, a1, a2⟩ := sMeta_n h.1 ha
    split
    · exact h.fails
    next hn =>
      dsimp only
      split
      · exact h.leave a1 a2
      next hb0 =>
        have hb : sMeta E b = 2 := Decidable.not_not.mp (fun q => hm (Or.inr ⟨hb0, q⟩))
        obtain ⟨nb, rfl, b1, b2⟩ := sMeta_n h.1 hb
        obtain ⟨g1, g2, g3, -⟩ := sLeave_FO h.1 h.2.2.1 a1 a2
        have hu : ∀ (f : Nat → Int32) (k : Nat) (x : Int32), (∀ t, t < 41 → vp_in (f t) 41) → vp_in x 41 → ∀ t, t < 41 → vp_in (upd f k x t) 41 := fun f k x hf hx t ht => by
          unfold upd
          split
          · exact hx
          · exact hf t ht
        refine h.treeOf (fun j x y z => by rw [xdu_ne _ _ _ y, xdu_ne _ _ _ z, xdu_ne _ _ _ x]; exact g2 j x y z) (fun t ht => ⟨?_, ?_, ?_⟩) (sMove_FO h.1 h.2.2.1 a1 a2 b1 b2 hn)
        · rw [xdu_ne _ _ _ (by decide), xdu_ne _ _ _ (by decide), xdu_self]
          exact hu _ _ _ (fun t ht => (g3 t ht).1) (vi_of b2 (by decide)) t ht
        · rw [xdu_self, xdu_ne _ _ _ (by decide), xdu_ne _ _ _ (by decide)]
          exact hu _ _ _ (fun t ht => (g3 t ht).2.1) (vi_of a2 (by decide)) t ht
        · rw [xdu_ne _ _ _ (by decide), xdu_self, xdu_ne _ _ _ (by decide)]
          exact hu _ _ _ (fun t ht => (g3 t ht).2.2) (g3 _ (by rw [ix_nI (by omega)]; exact b2)).2.1 t ht
theorem Iv.lift {o : Nat} : ∀ (n : Nat) (E : xD), o < 41 → Iv E → Iv (sLift E (nI o) n)
  | 0, _, _, h => h
  | n + 1, E, ho, h => by
    rw [sLift]
    split
    · exact h
    next q =>
      have e := vi_n (h.1.a20 (show ix (nI o) < 41 by rw [ix_nI (by omega)]; exact ho)) (by decide)
      have e0 : ix (E 20 (ix (nI o))) ≠ 0 := fun z => q (by rw [e.1, z]; rfl)
      rw [e.1]
      exact Iv.lift n _ ho (h.leave (by omega) e.2)
theorem Iv.gone {E : xD} {o : Nat} (h : Iv E) (h1 : 1 ≤ o) (h2 : o < 41) : Iv (sGone E (nI o)) := (Iv.lift _ _ h2 (h.leave h1 h2)).free (by decide)
