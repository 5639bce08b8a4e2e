/-! ===== THE PILE DOES WHAT THE FUNCTIONS SAY ===== -/
def Sg (S S' : xD) (t : Nat) : Prop := S' 0 31 = S 0 31 ∧ S' 0 32 = S 0 32 ∧ ∀ j i, 24 ≤ j → j ≤ 29 → i < t → S' j i = S j i
theorem Sg.tr {S S1 S2 : xD} {t : Nat} (h : Sg S S1 t) (h2 : Sg S1 S2 t) : Sg S S2 t := ⟨h2.1.trans h.1, h2.2.1.trans h.2.1, fun j i a b c => (h2.2.2 j i a b c).trans (h.2.2 j i a b c)⟩
def Pc (S : xD) (t d : Nat) : Prop := S 0 31 = nI t ∧ S 0 32 = nI d ∧ S 0 39 = 0
theorem mAns_f (S : xD) (v : Int32) (t : Nat) : Sg S (mAns S v) t ∧ mAns S v 0 39 = 1 ∧ mAns S v 0 40 = v := by
  unfold mAns
  refine ⟨⟨by rw [xdu_self, upd_ne _ _ (by decide), xdu_self, upd_ne _ _ (by decide)], by rw [xdu_self, upd_ne _ _ (by decide), xdu_self, upd_ne _ _ (by decide)], fun j i a b c => by rw [xdu_ne _ _ _ (by omega), xdu_ne _ _ _ (by omega)]⟩, by rw [xdu_self, upd_ne _ _ (by decide), xdu_self, upd_self], by rw [xdu_self, upd_self]⟩
theorem mPile_f {S : xD} {t : Nat} (h31 : S 0 31 = nI t) (ht : t < 40) (w o : Int32) : mPile S w o 0 31 = nI (t + 1) ∧ mPile S w o 0 32 = S 0 32 ∧ mPile S w o 0 39 = S 0 39 ∧ mPile S w o 24 t = w ∧ mPile S w o 27 t = o ∧ (∀ j i, 24 ≤ j → j ≤ 29 → i < t → mPile S w o j i = S j i) ∧ ∀ j, j ≠ 0 → j ≠ 24 → j ≠ 27 → mPile S w o j = S j := by
  unfold mPile
  rw [h31, ix_nI (by omega)]
  refine ⟨by rw [xdu_self, upd_self]; exact nI_1 t, by rw [xdu_self, upd_ne _ _ (by decide), xdu_ne _ _ _ (by decide), xdu_ne _ _ _ (by decide)], by rw [xdu_self, upd_ne _ _ (by decide), xdu_ne _ _ _ (by decide), xdu_ne _ _ _ (by decide)], by rw [xdu_ne _ _ _ (by decide), xdu_ne _ _ _ (by decide), xdu_self, upd_self], by rw [xdu_ne _ _ _ (by decide), xdu_self, upd_self], fun j i a b c => ?_, fun j a b c => by rw [xdu_ne _ _ _ a, xdu_ne _ _ _ c, xdu_ne _ _ _ b]⟩
  rw [xdu_ne _ _ _ (by omega)]
  by_cases q : j = 27
  · subst q
    rw [xdu_self, upd_ne _ _ (by omega), xdu_ne _ _ _ (by decide)]
  · rw [xdu_ne _ _ _ q]
    by_cases q2 : j = 24
    · subst q2
      rw [xdu_self, upd_ne _ _ (by omega)]
    · rw [xdu_ne _ _ _ q2]
/-- a routine's frame at place t, over the pile S -/
def Fr (S S3 : xD) (t d : Nat) (q k o w r : Int32) : Prop := S3 0 31 = nI (t + 1) ∧ S3 0 32 = nI (d + 1) ∧ S3 0 39 = 0 ∧ S3 24 t = 0 ∧ S3 25 t = q ∧ S3 26 t = k ∧ S3 27 t = o ∧ S3 28 t = w ∧ S3 29 t = r ∧ ∀ j i, 24 ≤ j → j ≤ 29 → i < t → S3 j i = S j i
theorem mPush_f {S : xD} {t d : Nat} (hP : Pc S t d) (ht : t < 40) (v o w : Int32) : Fr S (mPush S v o w) t d (v - 201) 0 o w 0 := by
  obtain ⟨h31, h32, h39⟩ := hP
  unfold mPush
  rw [h31, ix_nI (show t < 2 ^ 31 by omega)]
  have e31 : (xdu (xdu (xdu (xdu (xdu S 25 t (v - 201)) 26 t 0) 28 t w) 29 t 0) 0 32 (S 0 32 + 1)) 0 31 = nI t := by
    rw [xdu_self, upd_ne _ _ (by decide), xdu_ne _ _ _ (by decide), xdu_ne _ _ _ (by decide), xdu_ne _ _ _ (by decide), xdu_ne _ _ _ (by decide)]
    exact h31
  obtain ⟨p1, p2, p3, p4, p5, p6, p7⟩ := mPile_f e31 ht 0 o
  refine ⟨p1, ?_, ?_, p4, ?_, ?_, p5, ?_, ?_, fun j i a b c => ?_⟩
  · rw [p2, xdu_self, upd_self, h32]; exact nI_1 d
  · rw [p3, xdu_self, upd_ne _ _ (by decide), xdu_ne _ _ _ (by decide), xdu_ne _ _ _ (by decide), xdu_ne _ _ _ (by decide), xdu_ne _ _ _ (by decide)]; exact h39
  · rw [p7 25 (by decide) (by decide) (by decide), xdu_ne _ _ _ (by decide), xdu_ne _ _ _ (by decide), xdu_ne _ _ _ (by decide), xdu_ne _ _ _ (by decide), xdu_self, upd_self]
  · rw [p7 26 (by decide) (by decide) (by decide), xdu_ne _ _ _ (by decide), xdu_ne _ _ _ (by decide), xdu_ne _ _ _ (by decide), xdu_self, upd_self]
  · rw [p7 28 (by decide) (by decide) (by decide), xdu_ne _ _ _ (by decide), xdu_ne _ _ _ (by decide), xdu_self, upd_self]
  · rw [p7 29 (by decide) (by decide) (by decide), xdu_ne _ _ _ (by decide), xdu_self, upd_self]
  · rw [p6 j i a b c, xdu_ne _ _ _ (by omega)]
    have hx : ∀ (X : xD) (m : Nat) (y : Int32), xdu X m t y j i = X j i := fun X m y => by
      by_cases z : j = m
      · subst z; rw [xdu_self, upd_ne _ _ (by omega)]
      · rw [xdu_ne _ _ _ z]
    rw [hx, hx, hx, hx]
theorem Fr.put {S S3 : xD} {t d : Nat} {q k o w r : Int32} (h : Fr S S3 t d q k o w r) (r' : Int32) : Fr S (xdu S3 29 t r') t d q k o w r' := by
  obtain ⟨a1, a2, a3, a4, a5, a6, a7, a8, a9, a10⟩ := h
  refine ⟨by rw [xdu_ne _ _ _ (by decide)]; exact a1, by rw [xdu_ne _ _ _ (by decide)]; exact a2, by rw [xdu_ne _ _ _ (by decide)]; exact a3, by rw [xdu_ne _ _ _ (by decide)]; exact a4, by rw [xdu_ne _ _ _ (by decide)]; exact a5, by rw [xdu_ne _ _ _ (by decide)]; exact a6, by rw [xdu_ne _ _ _ (by decide)]; exact a7, by rw [xdu_ne _ _ _ (by decide)]; exact a8, by rw [xdu_self, upd_self], fun j i b c e => ?_⟩
  by_cases z : j = 29
  · subst z; rw [xdu_self, upd_ne _ _ (by omega)]; exact a10 _ i b c e
  · rw [xdu_ne _ _ _ z]; exact a10 j i b c e
theorem Fr.next {S S3 : xD} {t d : Nat} {q k o w r : Int32} (h : Fr S S3 t d q k o w r) (k' : Int32) : Fr S (xdu S3 26 t k') t d q k' o w r := by
  obtain ⟨a1, a2, a3, a4, a5, a6, a7, a8, a9, a10⟩ := h
  refine ⟨by rw [xdu_ne _ _ _ (by decide)]; exact a1, by rw [xdu_ne _ _ _ (by decide)]; exact a2, by rw [xdu_ne _ _ _ (by decide)]; exact a3, by rw [xdu_ne _ _ _ (by decide)]; exact a4, by rw [xdu_ne _ _ _ (by decide)]; exact a5, by rw [xdu_self, upd_self], by rw [xdu_ne _ _ _ (by decide)]; exact a7, by rw [xdu_ne _ _ _ (by decide)]; exact a8, by rw [xdu_ne _ _ _ (by decide)]; exact a9, fun j i b c e => ?_⟩
  by_cases z : j = 26
  · subst z; rw [xdu_self, upd_ne _ _ (by omega)]; exact a10 _ i b c e
  · rw [xdu_ne _ _ _ z]; exact a10 j i b c e
theorem Fr.ends {S S3 : xD} {t d : Nat} {q k o w r : Int32} (h : Fr S S3 t d q k o w r) (h31 : S 0 31 = nI t) (h32 : S 0 32 = nI d) : Sg S (mEnds S3 t) t ∧ mEnds S3 t 0 39 = 1 ∧ mEnds S3 t 0 40 = r := by
  obtain ⟨a1, a2, a3, a4, a5, a6, a7, a8, a9, a10⟩ := h
  obtain ⟨⟨b1, b2, b3⟩, b4, b5⟩ := mAns_f (xdu (xdu S3 0 31 (nI t)) 0 32 (S3 0 32 - 1)) (S3 29 t) t
  refine ⟨⟨?_, ?_, fun j i x y z => ?_⟩, b4, b5.trans a9⟩
  · exact b1.trans (by rw [xdu_self, upd_ne _ _ (by decide), xdu_self, upd_self, h31])
  · exact b2.trans (by rw [xdu_self, upd_self, a2, nI_pred, h32])
  · exact (b3 j i x y z).trans (by rw [xdu_ne _ _ _ (by omega), xdu_ne _ _ _ (by omega)]; exact a10 j i x y z)
theorem Fr.back {S S3 S' : xD} {t d : Nat} {q k o w r : Int32} (h : Fr S S3 t d q k o w r) (hs : Sg S3 S' (t + 1)) : S' 0 31 = nI (t + 1) ∧ S' 24 t = 0 ∧ Fr S (xdu (xdu S' 29 t (S' 0 40)) 0 39 0) t d q k o w (S' 0 40) := by
  obtain ⟨a1, a2, a3, a4, a5, a6, a7, a8, a9, a10⟩ := h
  obtain ⟨s1, s2, s3⟩ := hs
  have e : ∀ j, 24 ≤ j → j ≤ 29 → S' j t = S3 j t := fun j x y => s3 j t x y (by omega)
  refine ⟨s1.trans a1, (e 24 (by decide) (by decide)).trans a4, ?_⟩
  refine ⟨?_, ?_, ?_, ?_, ?_, ?_, ?_, ?_, ?_, fun j i x y z => ?_⟩
  · rw [xdu_self, upd_ne _ _ (by decide), xdu_ne _ _ _ (by decide)]; exact s1.trans a1
  · rw [xdu_self, upd_ne _ _ (by decide), xdu_ne _ _ _ (by decide)]; exact s2.trans a2
  · rw [xdu_self, upd_self]
  · rw [xdu_ne _ _ _ (by decide), xdu_ne _ _ _ (by decide)]; exact (e 24 (by decide) (by decide)).trans a4
  · rw [xdu_ne _ _ _ (by decide), xdu_ne _ _ _ (by decide)]; exact (e 25 (by decide) (by decide)).trans a5
  · rw [xdu_ne _ _ _ (by decide), xdu_ne _ _ _ (by decide)]; exact (e 26 (by decide) (by decide)).trans a6
  · rw [xdu_ne _ _ _ (by decide), xdu_ne _ _ _ (by decide)]; exact (e 27 (by decide) (by decide)).trans a7
  · rw [xdu_ne _ _ _ (by decide), xdu_ne _ _ _ (by decide)]; exact (e 28 (by decide) (by decide)).trans a8
  · rw [xdu_ne _ _ _ (by decide), xdu_self, upd_self]
  · rw [xdu_ne _ _ _ (by omega)]
    by_cases z2 : j = 29
    · subst z2; rw [xdu_self, upd_ne _ _ (by omega)]; exact (s3 _ i x y (by omega)).trans (a10 _ i x y z)
    · rw [xdu_ne _ _ _ z2]; exact (s3 j i x y (by omega)).trans (a10 j i x y z)
section SIM
variable {Γ : xGm} {l : Launch} {f : Nat} {G : xG} {D : xD} {R : xR} {Q : Option Value → xG → xD → xR → Prop}
def Kx (Γ : xGm) (l : Launch) (f : Nat) (G : xG) (D : xD) (R : xR) (Q : Option Value → xG → xD → xR → Prop) (S : xD) (t : Nat) (r : Int32 × xD) : Prop := ∀ S', Sg S S' t → S' 0 39 = 1 → S' 0 40 = r.1 → Gx Γ l f G D R Q S' r.2
theorem Kx.ans {S : xD} {t : Nat} {v : Int32} {E : xD} (h : Kx Γ l f G D R Q S t (v, E)) : Gx Γ l f G D R Q (mAns S v) E := by
  obtain ⟨a, b, c⟩ := mAns_f S v t
  exact h _ a b c
/-- a routine of level n does as sRun n says -/
def PRun (Γ : xGm) (l : Launch) (f : Nat) (G : xG) (D : xD) (R : xR) (Q : Option Value → xG → xD → xR → Prop) (n : Nat) : Prop := ∀ (S E : xD) (t d : Nat) (v o w : Int32), Iv E → Pc S t d → d + n = 12 → t ≤ 2 * d + 1 → sMeta E v = 4 → Kx Γ l f G D R Q S t (sRun n E v o w) → Gx Γ l f G D R Q (mRuns S E v o w).1 (mRuns S E v o w).2
theorem p_does {n : Nat} (hr : PRun Γ l f G D R Q n) {S E : xD} {t d : Nat} {v o w : Int32} (hI : Iv E) (hP : Pc S t d) (hn : d + n = 12) (ht : t ≤ 2 * d + 1) (hK : Kx Γ l f G D R Q S t (sDoes (sRun n) E v o w)) : Gx Γ l f G D R Q (mDoes S E v o w).1 (mDoes S E v o w).2 := by
  unfold sDoes at hK
  unfold mDoes
  by_cases h4 : sMeta E v = 4
  · rw [if_pos h4] at hK ⊢
    exact hr S E t d v o w hI hP hn ht h4 hK
  · rw [if_neg h4] at hK ⊢
    by_cases h3 : sMeta E v = 3
    · rw [if_pos h3] at hK ⊢
      exact hK.ans
    · rw [if_neg h3] at hK ⊢
      exact hK.ans
theorem p_sendO {n : Nat} (hr : PRun Γ l f G D R Q n) {S E : xD} {t d : Nat} {m o w : Int32} (hI : Iv E) (hP : Pc S t d) (hn : d + n = 12) (ht : t ≤ 2 * d + 1) (hK : Kx Γ l f G D R Q S t (sSendO (sRun n) E o m w)) : Gx Γ l f G D R Q (mSendO S E o m w).1 (mSendO S E o m w).2 := by
  unfold sSendO at hK
  unfold mSendO
  by_cases h : sRowAt E o m = 0
  · rw [if_pos h] at hK ⊢
    exact hK.ans
  · rw [if_neg h] at hK ⊢
    exact p_does hr hI hP hn ht hK
theorem p_ifThere {n : Nat} (hr : PRun Γ l f G D R Q n) {S E : xD} {t d : Nat} {m o w : Int32} (hI : Iv E) (hP : Pc S t d) (hn : d + n = 12) (ht : t ≤ 2 * d + 1) (hK : Kx Γ l f G D R Q S t (sIfThere (sRun n) E o m w)) : Gx Γ l f G D R Q (mIfThere S E o m w).1 (mIfThere S E o m w).2 := by
  unfold sIfThere at hK
  unfold mIfThere
  by_cases h : ¬ sRowAt E o m ≤ 0
  · rw [if_pos h] at hK ⊢
    exact p_sendO hr hI hP hn ht hK
  · rw [if_neg h] at hK ⊢
    exact hK.ans
theorem Pc.pile {S : xD} {t d : Nat} (hP : Pc S t d) (ht : t < 40) (w o : Int32) : Pc (mPile S w o) (t + 1) d := by
  obtain ⟨p1, p2, p3, -⟩ := mPile_f hP.1 ht w o
  exact ⟨p1, p2.trans hP.2.1, p3.trans hP.2.2⟩
/-- what lay above the pile S is taken off again -/
theorem pop_S {S S1 S' : xD} {t d : Nat} {w o a : Int32} (hP : Pc S t d) (ht : t < 40) (hS1 : S1 = mPile S w o) (hs : Sg S1 S' (t + 1)) (h39 : S' 0 39 = 1) : Sg S (xdu (xdu S' 0 31 (nI t)) 0 40 a) t ∧ (xdu (xdu S' 0 31 (nI t)) 0 40 a) 0 39 = 1 ∧ (xdu (xdu S' 0 31 (nI t)) 0 40 a) 0 40 = a ∧ S' 0 31 = nI (t + 1) ∧ S' 24 t = w ∧ S' 27 t = o := by
  subst hS1
  obtain ⟨p1, p2, p3, p4, p5, p6, p7⟩ := mPile_f hP.1 ht w o
  obtain ⟨s1, s2, s3⟩ := hs
  refine ⟨⟨?_, ?_, fun j i x y z => ?_⟩, ?_, ?_, s1.trans p1, (s3 24 t (by decide) (by decide) (by omega)).trans p4, (s3 27 t (by decide) (by decide) (by omega)).trans p5⟩
  · rw [xdu_self, upd_ne _ _ (by decide), xdu_self, upd_self, hP.1]
  · rw [xdu_self, upd_ne _ _ (by decide), xdu_self, upd_ne _ _ (by decide)]; exact s2.trans p2
  · rw [xdu_ne _ _ _ (by omega), xdu_ne _ _ _ (by omega)]; exact (s3 j i x y (by omega)).trans (p6 j i x y z)
  · rw [xdu_self, upd_ne _ _ (by decide), xdu_self, upd_ne _ _ (by decide)]; exact h39
  · rw [xdu_self, upd_self]
theorem p_sendG (hX : xFix G R) (hf : 9 ≤ f) {n : Nat} (hr : PRun Γ l f G D R Q n) {S E : xD} {t d c : Nat} {m w : Int32} (hI : Iv E) (hc : c < 41) (hP : Pc S t d) (hn : d + n = 12) (ht : t ≤ 2 * d) (hK : Kx Γ l f G D R Q S t (sSendG (sRun n) E (nI c) m w)) : Gx Γ l f G D R Q (mSendG S E (nI c) m w).1 (mSendG S E (nI c) m w).2 := by
  have ht4 : t < 40 := by omega
  unfold sSendG at hK
  unfold mSendG
  by_cases h14 : m = 14
  · rw [if_pos h14] at hK ⊢
    exact hK.ans
  rw [if_neg h14] at hK ⊢
  by_cases h12 : m = 12
  · rw [if_pos h12] at hK ⊢
    by_cases h0 : sLeast E (nI c) 0 (ix (E 12 (ix (nI c)))) = 0
    · rw [if_pos h0] at hK ⊢
      exact hK.ans
    · rw [if_neg h0] at hK ⊢
      obtain ⟨a, e, a1, a2, -⟩ := pool_l hI hc h0
      rw [e] at hK ⊢
      have i1 := hI.kfree (j := 11) (k := ix (nI a)) (x := 1) (by decide)
      have i2 := i1.tr (i1.1.krows a2)
      refine p_ifThere hr i2.1 (hP.pile ht4 1 (nI a)) hn (by omega) (fun S' hs h39 _ => ?_)
      obtain ⟨q1, q2, q3, q4, q5, q6⟩ := pop_S (a := S' 27 t) hP ht4 rfl hs h39
      refine g_made hX hf h39 ht4 q4 q5 (hK _ q1 q2 (q3.trans q6))
  rw [if_neg h12] at hK ⊢
  by_cases h13 : ¬ m = 13 ∧ ¬ m = 15
  · rw [if_pos h13] at hK ⊢
    exact hK.ans
  rw [if_neg h13] at hK ⊢
  by_cases hw : sIn w (nI c + 1) (nI c + E 12 (ix (nI c))) = false ∨ E 11 (ix w) = 0
  · rw [if_pos hw] at hK ⊢
    exact hK.ans
  rw [if_neg hw] at hK ⊢
  have hw2 : sIn w (nI c + 1) (nI c + E 12 (ix (nI c))) = true := by
    by_cases q : sIn w (nI c + 1) (nI c + E 12 (ix (nI c))) = true
    · exact q
    · exact absurd (Or.inl (by simpa using q)) hw
  obtain ⟨a, rfl, a1, a2, a3⟩ := pool_w hI hc hw2
  have k1 := ik_ifThere (o := nI a) (n := 2) (w := 0) (ik_run n) hI
  by_cases h3 : m = 13
  · rw [if_pos h3] at hK ⊢
    refine p_ifThere hr hI (hP.pile ht4 2 (nI a)) hn (by omega) (fun S' hs h39 _ => ?_)
    obtain ⟨q1, q2, q3, q4, q5, q6⟩ := pop_S (a := 1) hP ht4 rfl hs h39
    refine g_goes hX hf k1.1 h39 ht4 q4 q5 a1 a2 q6 ?_
    rw [ix_nI (show a < 2 ^ 31 by omega)] at hK
    exact hK _ q1 q2 q3
  · rw [if_neg h3] at hK ⊢
    refine p_ifThere hr hI (hP.pile ht4 3 (nI a)) hn (by omega) (fun S' hs h39 _ => ?_)
    obtain ⟨q1, q2, q3, q4, q5, q6⟩ := pop_S (a := 1) hP ht4 rfl hs h39
    rw [ix_nI (show a < 2 ^ 31 by omega)] at hK
    refine g_again hX hf k1.1 h39 ht4 q4 q5 (by rw [q4]; exact vi_of (by omega) (by decide)) a1 a2 q6 (by rw [k1.2.2.1]; exact a3) (fun hE => ?_) (fun hE => ?_)
    · rw [if_pos hE] at hK
      have i2 := k1.1.krows a2
      have hs2 := hP.pile ht4 3 (nI a)
      obtain ⟨p1, p2, p3, p4, p5, p6, p7⟩ := mPile_f hP.1 ht4 3 (nI a)
      refine p_ifThere hr i2.1 (t := t + 1) (d := d) ⟨?_, ?_, ?_⟩ hn (by omega) (fun S3 hs3 h393 _ => ?_)
      · rw [xdu_self, upd_ne _ _ (by decide), xdu_ne _ _ _ (by decide)]; exact q4
      · rw [xdu_self, upd_ne _ _ (by decide), xdu_ne _ _ _ (by decide)]; exact hs.2.1.trans hs2.2.1
      · rw [xdu_self, upd_self]
      · obtain ⟨u1, u2, u3⟩ := hs3
        have v31 : S3 0 31 = nI (t + 1) := u1.trans (by rw [xdu_self, upd_ne _ _ (by decide), xdu_ne _ _ _ (by decide)]; exact q4)
        have v24 : S3 24 t = 4 := (u3 24 t (by decide) (by decide) (by omega)).trans (by rw [xdu_ne _ _ _ (by decide), xdu_self, upd_self])
        refine g_am hX hf h393 ht4 v31 v24 (hK _ ⟨?_, ?_, fun j i x y z => ?_⟩ ?_ ?_)
        · rw [xdu_self, upd_ne _ _ (by decide), xdu_self, upd_self, hP.1]
        · rw [xdu_self, upd_ne _ _ (by decide), xdu_self, upd_ne _ _ (by decide)]
          exact u2.trans (by rw [xdu_self, upd_ne _ _ (by decide), xdu_ne _ _ _ (by decide)]; exact hs.2.1.trans p2)
        · rw [xdu_ne _ _ _ (by omega), xdu_ne _ _ _ (by omega)]
          refine (u3 j i x y (by omega)).trans ?_
          rw [xdu_ne _ _ _ (by omega)]
          by_cases z2 : j = 24
          · subst z2; rw [xdu_self, upd_ne _ _ (by omega)]; exact (hs.2.2 _ i x y (by omega)).trans (p6 _ i x y z)
          · rw [xdu_ne _ _ _ z2]; exact (hs.2.2 j i x y (by omega)).trans (p6 j i x y z)
        · rw [xdu_self, upd_ne _ _ (by decide), xdu_self, upd_ne _ _ (by decide)]; exact h393
        · rw [xdu_self, upd_self]
    · rw [if_neg (fun q => q hE)] at hK
      exact hK _ q1 q2 q3
theorem p_send (hX : xFix G R) (hf : 9 ≤ f) {n : Nat} (hr : PRun Γ l f G D R Q n) {S E : xD} {t d : Nat} {o m w : Int32} (hI : Iv E) (hP : Pc S t d) (hn : d + n = 12) (ht : t ≤ 2 * d) (hK : Kx Γ l f G D R Q S t (sSend (sRun n) E o m w)) : Gx Γ l f G D R Q (mSends S E o m w).1 (mSends S E o m w).2 := by
  unfold sSend at hK
  unfold mSends
  by_cases h1 : sMeta E o = 1
  · rw [if_pos h1] at hK ⊢
    obtain ⟨c, rfl, c1, c2⟩ := sMeta_1n hI.1 h1
    exact p_sendG hX hf hr hI c2 hP hn ht hK
  · rw [if_neg h1] at hK ⊢
    by_cases h2 : sMeta E o = 2
    · rw [if_pos h2] at hK ⊢
      exact p_sendO hr hI hP hn (by omega) hK
    · rw [if_neg h2] at hK ⊢
      exact hK.ans
theorem p_sendAs {n : Nat} (hr : PRun Γ l f G D R Q n) {S E : xD} {t d : Nat} {g o m w : Int32} (hI : Iv E) (hP : Pc S t d) (hn : d + n = 12) (ht : t ≤ 2 * d) (hK : Kx Γ l f G D R Q S t (sSendAs (sRun n) E g o m w)) : Gx Γ l f G D R Q (mSendsAs S E g o m w).1 (mSendsAs S E g o m w).2 := by
  unfold sSendAs at hK
  unfold mSendsAs
  by_cases h1 : ¬ sMeta E o = 2
  · rw [if_pos h1] at hK ⊢
    exact hK.ans
  rw [if_neg h1] at hK ⊢
  by_cases h2 : sIsOf E o g = false
  · rw [if_pos h2] at hK ⊢
    exact hK.ans
  rw [if_neg h2] at hK ⊢
  by_cases h3 : sRowAt E g m = 0
  · rw [if_pos h3] at hK ⊢
    exact hK.ans
  rw [if_neg h3] at hK ⊢
  exact p_does hr hI hP hn (by omega) hK
end SIM
