/-! ===== SENDING keeps what always holds, and classes, pools, routines as they are ===== -/
def Keep (E E' : xD) : Prop := (E' 4 = E 4 ∧ E' 5 = E 5) ∧ E' 10 = E 10 ∧ E' 12 = E 12 ∧ ∀ k, k ≠ 27 → k ≠ 29 → k ≠ 41 → k ≠ 42 → E' 0 k = E 0 k
def IK (E E' : xD) : Prop := Iv E' ∧ Keep E E'
theorem Keep.rf {E : xD} : Keep E E := ⟨⟨rfl, rfl⟩, rfl, rfl, fun _ _ _ _ _ => rfl⟩
theorem Keep.tr {E E1 E2 : xD} (h : Keep E E1) (h2 : Keep E1 E2) : Keep E E2 := ⟨⟨h2.1.1.trans h.1.1, h2.1.2.trans h.1.2⟩, h2.2.1.trans h.2.1, h2.2.2.1.trans h.2.2.1, fun k a b c d => (h2.2.2.2 k a b c d).trans (h.2.2.2 k a b c d)⟩
theorem IK.tr {E E1 E2 : xD} (h : IK E E1) (h2 : IK E1 E2) : IK E E2 := ⟨h2.1, h.2.tr h2.2⟩
theorem Iv.ik {E : xD} (h : Iv E) : IK E E := ⟨h, Keep.rf⟩
theorem sFails_ne {E : xD} {k a b : Int32} {j : Nat} (h0 : j ≠ 0) (h22 : j ≠ 22) : sFails E k a b j = E j := by
  unfold sFails
  split
  · rw [xdu_ne _ _ _ h0, xdu_ne _ _ _ h22, xdu_ne _ _ _ h22, xdu_ne _ _ _ h22]
  · rfl
theorem sFails_0 {E : xD} {k a b : Int32} {i : Nat} (h : i ≠ 27) : sFails E k a b 0 i = E 0 i := by
  unfold sFails
  split
  · rw [xdu_self, upd_ne _ _ h, xdu_ne _ _ _ (by decide), xdu_ne _ _ _ (by decide), xdu_ne _ _ _ (by decide)]
  · rfl
theorem Iv.kfails {E : xD} {k a b : Int32} (h : Iv E) : IK E (sFails E k a b) := ⟨h.fails, ⟨sFails_ne (by decide) (by decide), sFails_ne (by decide) (by decide)⟩, sFails_ne (by decide) (by decide), sFails_ne (by decide) (by decide), fun _ a _ _ _ => sFails_0 a⟩
theorem sSayN_ne {t : Int32} {j : Nat} (h0 : j ≠ 0) (h23 : j ≠ 23) : ∀ (n : Nat) (k : Int32) (E : xD), sSayN E t k n j = E j
  | 0, _, _ => rfl
  | n + 1, k, E => by rw [sSayN, sSayN_ne h0 h23 n, sSay_ne h0 h23]
theorem sSayN_0 {t : Int32} {i : Nat} (h : i ≠ 29) : ∀ (n : Nat) (k : Int32) (E : xD), sSayN E t k n 0 i = E 0 i
  | 0, _, _ => rfl
  | n + 1, k, E => by rw [sSayN, sSayN_0 h n, sSay_0 h]
theorem sSayText_0 {E : xD} {x : Int32} {i : Nat} (h : i ≠ 29) : sSayText E x 0 i = E 0 i := sSayN_0 h _ _ _
theorem sArticle_0 {E : xD} {x a : Int32} {i : Nat} (h : i ≠ 29) : sArticle E x a 0 i = E 0 i := by
  unfold sArticle
  split
  · rw [sSay_0 h]
    split
    · rw [sSay_0 h, sSay_0 h]
    · rw [sSay_0 h]
  · split
    · rw [sSay_0 h, sSay_0 h, sSay_0 h, sSay_0 h]
    · rfl
theorem sSayNum_0 {E : xD} {v : Int32} {i : Nat} (h : i ≠ 29) : sSayNum E v 0 i = E 0 i := by
  unfold sSayNum
  split <;> simp only [sSay_0 h]
theorem sName_0 {E : xD} {v a : Int32} {i : Nat} (h : i ≠ 29) : sName E v a 0 i = E 0 i := by
  unfold sName
  split
  · exact sSays_0 h
  · split
    · exact sSays_0 h
    · split
      · rw [sSayNum_0 h]
        split
        · exact sSays_0 h
        · rfl
      · rw [sSayText_0 h]
        split
        · rw [sArticle_0 h]
          split
          · exact sSays_0 h
          · rfl
        · split
          · exact sSays_0 h
          · rfl
theorem sSayText_ne {E : xD} {x : Int32} {j : Nat} (h0 : j ≠ 0) (h23 : j ≠ 23) : sSayText E x j = E j := sSayN_ne h0 h23 _ _ _
theorem sSayNum_ne {E : xD} {v : Int32} {j : Nat} (h0 : j ≠ 0) (h23 : j ≠ 23) : sSayNum E v j = E j := by
  unfold sSayNum
  split <;> simp only [sSay_ne h0 h23]
theorem sName_ne {E : xD} {v a : Int32} {j : Nat} (h0 : j ≠ 0) (h23 : j ≠ 23) : sName E v a j = E j := by
  unfold sName
  split
  · exact sSays_ne h0 h23
  · split
    · exact sSays_ne h0 h23
    · split
      · rw [sSayNum_ne h0 h23]
        split
        · exact sSays_ne h0 h23
        · rfl
      · rw [sSayText_ne h0 h23]
        split
        · rw [sArticle_ne h0 h23]
          split
          · exact sSays_ne h0 h23
          · rfl
        · split
          · exact sSays_ne h0 h23
          · rfl
theorem Iv.ktext {E : xD} {x : Int32} (h : Iv E) : IK E (sSayText E x) := ⟨h.sayText, ⟨sSayText_ne (by decide) (by decide), sSayText_ne (by decide) (by decide)⟩, sSayText_ne (by decide) (by decide), sSayText_ne (by decide) (by decide), fun _ _ b _ _ => sSayText_0 b⟩
theorem Iv.kname {E : xD} {v a : Int32} (h : Iv E) : IK E (sName E v a) := ⟨h.name, ⟨sName_ne (by decide) (by decide), sName_ne (by decide) (by decide)⟩, sName_ne (by decide) (by decide), sName_ne (by decide) (by decide), fun _ _ b _ _ => sName_0 b⟩
theorem Iv.kread {E : xD} {t n i : Int32} (h : Iv E) : IK E (sRead E t n i).2 := by
  unfold sRead
  split
  · exact h.kfails
  · exact h.ik
theorem Iv.kfree {E : xD} {j k : Nat} {x : Int32} (h : Iv E) (hj : j ≠ 0 ∧ j ≠ 2 ∧ j ≠ 4 ∧ j ≠ 5 ∧ j ≠ 8 ∧ j ≠ 10 ∧ j ≠ 12 ∧ j ≠ 13 ∧ j ≠ 14 ∧ j ≠ 15 ∧ j ≠ 17 ∧ j ≠ 19 ∧ j ≠ 20 ∧ j ≠ 21) : IK E (xdu E j k x) := ⟨h.free hj, ⟨xdu_ne _ _ _ (by omega), xdu_ne _ _ _ (by omega)⟩, xdu_ne _ _ _ (by omega), xdu_ne _ _ _ (by omega), fun _ _ _ _ _ => by rw [xdu_ne _ _ _ (Ne.symm hj.1)]⟩
theorem Iv.kwrite {E : xD} {t n i v : Int32} (h : Iv E) : IK E (sWrite E t n i v).2 := by
  unfold sWrite
  split
  · exact h.kfails
  · exact h.kfree (by decide)
theorem Iv.ktree {E : xD} {v w : Int32} (h : Iv E) : IK E (sTree E v w).2 := by
  unfold sTree
  split
  · exact h.kfails
  · exact h.ik
theorem Iv.kspend {E : xD} {o : Int32} (h : Iv E) : IK E (sSpend E o) := by
  unfold sSpend
  split
  · exact h.kfails.tr ⟨h.fails.spent, ⟨xdu_ne _ _ _ (by decide), xdu_ne _ _ _ (by decide)⟩, xdu_ne _ _ _ (by decide), xdu_ne _ _ _ (by decide), fun _ _ _ _ d => by rw [xdu_self, upd_ne _ _ d]⟩
  · exact h.ik
theorem Iv.krows {E : xD} {o : Nat} (h : Iv E) (ho : o < 41) : IK E (sRows E (nI o)) := by
  have h2 := (sRows_LN h.2.1 ho).2
  exact ⟨h.rows ho, ⟨h2 4 (by decide) (by decide), h2 5 (by decide) (by decide)⟩, h2 10 (by decide) (by decide), h2 12 (by decide) (by decide), fun _ _ _ _ _ => by rw [h2 0 (by decide) (by decide)]⟩
theorem sLeave_ne {E : xD} {o : Int32} {j : Nat} (h19 : j ≠ 19) (h20 : j ≠ 20) (h21 : j ≠ 21) : sLeave E o j = E j := by
  unfold sLeave
  split
  · rfl
  · rw [xdu_ne _ _ _ h21, xdu_ne _ _ _ h19]
    split
    · rw [xdu_ne _ _ _ h20]
    · rw [xdu_ne _ _ _ h21]
theorem sLift_ne {o : Int32} {j : Nat} (h19 : j ≠ 19) (h20 : j ≠ 20) (h21 : j ≠ 21) : ∀ (n : Nat) (E : xD), sLift E o n j = E j
  | 0, _ => rfl
  | n + 1, E => by
    rw [sLift]
    split
    · rfl
    · rw [sLift_ne h19 h20 h21 n, sLeave_ne h19 h20 h21]
theorem sGone_ne {E : xD} {o : Int32} {j : Nat} (h11 : j ≠ 11) (h19 : j ≠ 19) (h20 : j ≠ 20) (h21 : j ≠ 21) : sGone E o j = E j := by
  unfold sGone
  rw [xdu_ne _ _ _ h11, sLift_ne h19 h20 h21, sLeave_ne h19 h20 h21]
theorem Iv.kgone {E : xD} {o : Nat} (h : Iv E) (h1 : 1 ≤ o) (h2 : o < 41) : IK E (sGone E (nI o)) := ⟨h.gone h1 h2, ⟨sGone_ne (by decide) (by decide) (by decide) (by decide), sGone_ne (by decide) (by decide) (by decide) (by decide)⟩, sGone_ne (by decide) (by decide) (by decide) (by decide), sGone_ne (by decide) (by decide) (by decide) (by decide), fun _ _ _ _ _ => by rw [sGone_ne (by decide) (by decide) (by decide) (by decide)]⟩
theorem sMove_ne {E : xD} {a b : Int32} {j : Nat} (h0 : j ≠ 0) (h22 : j ≠ 22) (h19 : j ≠ 19) (h20 : j ≠ 20) (h21 : j ≠ 21) : (sMove E a b).2 j = E j := by
  unfold sMove
  split
  · exact sFails_ne h0 h22
  · split
    · exact sFails_ne h0 h22
    · dsimp only
      split
      · exact sLeave_ne h19 h20 h21
      · rw [xdu_ne _ _ _ h20, xdu_ne _ _ _ h21, xdu_ne _ _ _ h19, sLeave_ne h19 h20 h21]
theorem sMove_0 {E : xD} {a b : Int32} {i : Nat} (h : i ≠ 27) : (sMove E a b).2 0 i = E 0 i := by
  unfold sMove
  split
  · exact sFails_0 h
  · split
    · exact sFails_0 h
    · dsimp only
      split
      · rw [sLeave_ne (by decide) (by decide) (by decide)]
      · rw [xdu_ne _ _ _ (by decide), xdu_ne _ _ _ (by decide), xdu_ne _ _ _ (by decide), sLeave_ne (by decide) (by decide) (by decide)]
theorem Iv.kmove {E : xD} {a b : Int32} (h : Iv E) : IK E (sMove E a b).2 := ⟨h.move, ⟨sMove_ne (by decide) (by decide) (by decide) (by decide) (by decide), sMove_ne (by decide) (by decide) (by decide) (by decide) (by decide)⟩, sMove_ne (by decide) (by decide) (by decide) (by decide) (by decide), sMove_ne (by decide) (by decide) (by decide) (by decide) (by decide), fun _ a _ _ _ => sMove_0 a⟩
/-- a running that keeps it -/
def IKr (rn : xRn) : Prop := ∀ (E : xD) (r o w : Int32), Iv E → IK E (rn E r o w).2
theorem ik_does {rn : xRn} (hr : IKr rn) {E : xD} {v o w : Int32} (h : Iv E) : IK E (sDoes rn E v o w).2 := by
  unfold sDoes
  split
  · exact hr E v o w h
  · split
    · exact h.ktext
    · exact h.ik
theorem ik_sendO {rn : xRn} (hr : IKr rn) {E : xD} {o n w : Int32} (h : Iv E) : IK E (sSendO rn E o n w).2 := by
  unfold sSendO
  split
  · exact h.kfails
  · exact ik_does hr h
theorem ik_ifThere {rn : xRn} (hr : IKr rn) {E : xD} {o n w : Int32} (h : Iv E) : IK E (sIfThere rn E o n w).2 := by
  unfold sIfThere
  split
  · exact ik_sendO hr h
  · exact h.ik
/-- the object of a pool that is meant -/
theorem pool_w {E : xD} (h : Iv E) {c : Nat} (hc : c < 41) {w : Int32} (hw : sIn w (nI c + 1) (nI c + E 12 (ix (nI c))) = true) : ∃ a, w = nI a ∧ 1 ≤ a ∧ a < 41 ∧ E 10 a = 0 := by
  have pn := pool_n h.1 hc (by omega)
  obtain ⟨g1, g2⟩ := sIn_t.mp hw
  rw [ix_nI (show c < 2 ^ 31 by omega), pn.1, nI_add] at g2
  rw [show (1 : Int32) = nI 1 from rfl, nI_add] at g1
  have hv : vp_in w 41 := vi_btw (a := c + 1) (x := nI (c + ix (E 12 c))) (A := 41) (vi_of (by omega) (by decide)) g1 g2 (by omega) (by decide)
  have e := vi_n hv (by decide)
  rw [e.1] at g1 g2
  have q1 := (nI_leI (by omega) (by omega)).mp g1
  have q2 := (nI_leI (by omega) (by omega)).mp g2
  refine ⟨ix w, e.1, by omega, e.2, ?_⟩
  have := h.2.2.2 c hc (ix w - c) (by omega) (by omega) (fun q => by rw [q] at q2; exact absurd q2 (by show ¬ ix w ≤ c + 0; omega))
  rw [show c + (ix w - c) = ix w by omega] at this
  exact this
theorem pool_l {E : xD} (h : Iv E) {c : Nat} (hc : c < 41) (h0 : ¬ sLeast E (nI c) 0 (ix (E 12 (ix (nI c)))) = 0) : ∃ a, sLeast E (nI c) 0 (ix (E 12 (ix (nI c)))) = nI a ∧ 1 ≤ a ∧ a < 41 ∧ E 10 a = 0 := by
  have pn := pool_n h.1 hc (by omega)
  rw [ix_nI (show c < 2 ^ 31 by omega)] at h0 ⊢
  obtain ⟨i, i1, i2, i3, i4⟩ := (sLeast_n 0 (ix (E 12 c)) pn.2).resolve_left h0
  refine ⟨c + i, i3, by omega, by omega, h.2.2.2 c hc i i1 i2 (fun q => ?_)⟩
  rw [q] at i2
  exact absurd i2 (by show ¬ i ≤ 0; omega)
theorem ik_sendG {rn : xRn} (hr : IKr rn) {E : xD} {c : Nat} (hc : c < 41) {n w : Int32} (h : Iv E) : IK E (sSendG rn E (nI c) n w).2 := by
  unfold sSendG
  split
  · exact h.ik
  · split
    · split
      · exact h.ik
      next h0 =>
        obtain ⟨a, e, a1, a2, -⟩ := pool_l h hc h0
        dsimp only
        rw [e]
        have h1 := h.kfree (j := 11) (k := ix (nI a)) (x := 1) (by decide)
        have h2 := h1.tr (h1.1.krows a2)
        exact h2.tr (ik_ifThere hr h2.1)
    · split
      · exact h.kfails
      · split
        · exact h.kfails
        next hw =>
          have hw : sIn w (nI c + 1) (nI c + E 12 (ix (nI c))) = true := by
            by_cases q : sIn w (nI c + 1) (nI c + E 12 (ix (nI c))) = true
            · exact q
            · exact absurd (Or.inl (by simpa using q)) hw
          obtain ⟨a, rfl, a1, a2, a3⟩ := pool_w h hc hw
          have k1 := ik_ifThere (o := nI a) (n := 2) (w := 0) hr h
          split
          · dsimp only
            split
            · exact k1.tr (k1.1.kgone a1 a2)
            · exact k1
          · dsimp only
            split
            · have k2 := k1.tr (k1.1.krows a2)
              exact k2.tr (ik_ifThere hr k2.1)
            · exact k1
theorem ik_send {rn : xRn} (hr : IKr rn) {E : xD} {o n w : Int32} (h : Iv E) : IK E (sSend rn E o n w).2 := by
  unfold sSend
  split
  next q =>
    obtain ⟨c, rfl, c1, c2⟩ := sMeta_1n h.1 q
    exact ik_sendG hr c2 h
  · split
    · exact ik_sendO hr h
    · exact h.kfails
theorem ik_sendAs {rn : xRn} (hr : IKr rn) {E : xD} {g o n w : Int32} (h : Iv E) : IK E (sSendAs rn E g o n w).2 := by
  unfold sSendAs
  split
  · exact h.kfails
  · split
    · exact h.kfails
    · split
      · exact h.kfails
      · exact ik_does hr h
theorem itP {α : Type} {P : α → Prop} {p : Prop} {inst : Decidable p} {a b : α} (h1 : p → P a) (h2 : ¬ p → P b) : P (@ite α p inst a b) := by
  by_cases h : p
  · rw [if_pos h]; exact h1 h
  · rw [if_neg h]; exact h2 h
theorem ik_act1 {rn : xRn} (hr : IKr rn) {E : xD} {c a b o w r : Int32} (h : Iv E) : IK E (sAct1 rn E c a b o w r).2 := by
  unfold sAct1
  refine itP (P := fun z : Int32 × xD => IK E z.2) (fun _ => h.ik) (fun _ => ?_)
  refine itP (P := fun z : Int32 × xD => IK E z.2) (fun _ => h.ik) (fun _ => ?_)
  refine itP (P := fun z : Int32 × xD => IK E z.2) (fun _ => h.ik) (fun _ => ?_)
  refine itP (P := fun z : Int32 × xD => IK E z.2) (fun _ => h.ik) (fun _ => ?_)
  refine itP (P := fun z : Int32 × xD => IK E z.2) (fun _ => h.kread) (fun _ => ?_)
  refine itP (P := fun z : Int32 × xD => IK E z.2) (fun _ => h.kwrite) (fun _ => ?_)
  refine itP (P := fun z : Int32 × xD => IK E z.2) (fun _ => ik_send hr h) (fun _ => ?_)
  refine itP (P := fun z : Int32 × xD => IK E z.2) (fun _ => ik_sendAs hr h) (fun _ => ?_)
  refine itP (P := fun z : Int32 × xD => IK E z.2) (fun _ => h.kmove) (fun _ => ?_)
  refine itP (P := fun z : Int32 × xD => IK E z.2) (fun _ => h.ktree) (fun _ => ?_)
  refine itP (P := fun z : Int32 × xD => IK E z.2) (fun _ => h.ktree) (fun _ => ?_)
  refine itP (P := fun z : Int32 × xD => IK E z.2) (fun _ => h.ktree) (fun _ => ?_)
  refine itP (P := fun z : Int32 × xD => IK E z.2) (fun _ => h.ik) (fun _ => ?_)
  refine itP (P := fun z : Int32 × xD => IK E z.2) (fun _ => h.kname) (fun _ => ?_)
  exact h.ik
theorem Iv.kacts {E : xD} (h : Iv E) (h200 : ¬ E 0 41 = 200) : IK E (xdu E 0 41 (E 0 41 + 1)) := ⟨h.n41 (vi_ad (vi_ne h.1.n41 (by decide) h200) (vi_of (n := 1) (N := 2) (by decide) (by decide)) (by decide) (by decide) (by decide) (by decide)).1, ⟨xdu_ne _ _ _ (by decide), xdu_ne _ _ _ (by decide)⟩, xdu_ne _ _ _ (by decide), xdu_ne _ _ _ (by decide), fun _ _ _ c _ => by rw [xdu_self, upd_ne _ _ c]⟩
theorem ik_acts {rn : xRn} (hr : IKr rn) {q o w : Int32} : ∀ (n : Nat) (k r : Int32) (E : xD), Iv E → IK E (sActs rn E q o w k r n).2
  | 0, _, _, _, h => h.ik
  | n + 1, k, r, E, h => by
    rw [sActs]
    split
    · exact h.kspend
    next h200 =>
      have h1 := h.kacts h200
      have h2 := h1.tr (ik_act1 (c := E 5 (ix (8 * q + k))) (a := E 6 (ix (8 * q + k))) (b := E 7 (ix (8 * q + k))) (o := o) (w := w) (r := r) hr h1.1)
      split
      · exact h2
      · exact h2.tr (ik_acts hr n _ _ _ h2.1)
theorem ik_run : ∀ n, IKr (sRun n)
  | 0, E, _, o, _, h => h.kfails
  | n + 1, E, r, o, w, h => ik_acts (ik_run n) _ _ _ _ h
theorem Keep.meta4 {E E' : xD} (h : Keep E E') {v : Int32} (h4 : sMeta E v = 4) : sMeta E' v = 4 := by
  obtain ⟨-, -, -, h0⟩ := h
  have hg := (sMeta_34 (E := E) (v := v)).2 h4
  unfold sMeta at h4 ⊢
  rw [h0 14 (by decide) (by decide) (by decide) (by decide), h0 3 (by decide) (by decide) (by decide) (by decide), h0 6 (by decide) (by decide) (by decide) (by decide), h0 11 (by decide) (by decide) (by decide) (by decide)]
  by_cases q : sIn v 1 (E 0 14) = true
  · rw [if_pos q] at h4
    split at h4
    · exact absurd h4 (by decide)
    · split at h4 <;> exact absurd h4 (by decide)
  · rw [if_neg q] at h4 ⊢
    exact h4
