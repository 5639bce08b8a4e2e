/-! ===== THE PILE: what the reference's own steps do; S is the pile (and top, depth, ready, answer), E the data ===== -/
def mAns (S : xD) (v : Int32) : xD := xdu (xdu S 0 39 1) 0 40 v
def mPile (S : xD) (w o : Int32) : xD := xdu (xdu (xdu S 24 (ix (S 0 31)) w) 27 (ix (S 0 31)) o) 0 31 (S 0 31 + 1)
def mPush (S : xD) (r o w : Int32) : xD := mPile (xdu (xdu (xdu (xdu (xdu S 25 (ix (S 0 31)) (r - 201)) 26 (ix (S 0 31)) 0) 28 (ix (S 0 31)) w) 29 (ix (S 0 31)) 0) 0 32 (S 0 32 + 1)) 0 o
noncomputable def mRuns (S E : xD) (r o w : Int32) : xD × xD := if S 0 32 = 12 then (mAns S 0, sFails E 9 o 0) else (mPush S r o w, E)
noncomputable def mDoes (S E : xD) (v o w : Int32) : xD × xD := if sMeta E v = 4 then mRuns S E v o w else if sMeta E v = 3 then (mAns S 1, sSayText E v) else (mAns S v, E)
noncomputable def mSendO (S E : xD) (o n w : Int32) : xD × xD := if sRowAt E o n = 0 then (mAns S 0, sFails E 3 o n) else mDoes S E (E 16 (ix (4 * (12 * o + n)))) o w
noncomputable def mIfThere (S E : xD) (o n w : Int32) : xD × xD := if ¬ sRowAt E o n ≤ 0 then mSendO S E o n w else (mAns S 0, E)
noncomputable def mSendG (S E : xD) (c n w : Int32) : xD × xD :=
  if n = 14 then (mAns S (nI (sFreeN E c (ix (E 12 (ix c))))), E)
  else if n = 12 then (if sLeast E c 0 (ix (E 12 (ix c))) = 0 then (mAns S 0, E) else mIfThere (mPile S 1 (sLeast E c 0 (ix (E 12 (ix c))))) (sRows (xdu E 11 (ix (sLeast E c 0 (ix (E 12 (ix c))))) 1) (sLeast E c 0 (ix (E 12 (ix c))))) (sLeast E c 0 (ix (E 12 (ix c)))) 1 w)
  else if ¬ n = 13 ∧ ¬ n = 15 then (mAns S 0, sFails E 2 c n)
  else if sIn w (c + 1) (c + E 12 (ix c)) = false ∨ E 11 (ix w) = 0 then (mAns S 0, sFails E 8 c w)
  else mIfThere (mPile S (if n = 13 then 2 else 3) w) E w 2 0
noncomputable def mSends (S E : xD) (o n w : Int32) : xD × xD := if sMeta E o = 1 then mSendG S E o n w else if sMeta E o = 2 then mSendO S E o n w else (mAns S 0, sFails E 1 o n)
noncomputable def mSendsAs (S E : xD) (g o n w : Int32) : xD × xD := if ¬ sMeta E o = 2 then (mAns S 0, sFails E 1 o n) else if sIsOf E o g = false then (mAns S 0, sFails E 4 o n) else if sRowAt E g n = 0 then (mAns S 0, sFails E 3 o n) else mDoes S E (E 16 (ix (4 * (12 * g + n)))) o w
/-- the pile's top and depth in their range -/
def mOk (S : xD) (t : Nat) : Prop := S 0 31 = nI t ∧ t < 40
theorem sMeta_34 {E : xD} {v : Int32} : (sMeta E v = 3 → 101 ≤ v ∧ v ≤ 100 + E 0 3) ∧ (sMeta E v = 4 → 201 ≤ v ∧ v ≤ 200 + E 0 6) := by
  unfold sMeta
  split
  · split
    · exact ⟨fun h => absurd h (by decide), fun h => absurd h (by decide)⟩
    · split <;> exact ⟨fun h => absurd h (by decide), fun h => absurd h (by decide)⟩
  · split
    next q => exact ⟨fun _ => sIn_t.mp q, fun h => absurd h (by decide)⟩
    next =>
      split
      next q => exact ⟨fun h => absurd h (by decide), fun _ => sIn_t.mp q⟩
      next => split <;> exact ⟨fun h => absurd h (by decide), fun h => absurd h (by decide)⟩
theorem vi_rout {E : xD} (hB : RB E) {v : Int32} (h : sMeta E v = 4) : vp_in (v - 201) 20 := vi_off (b := 200) hB.n6 (by decide) (by decide) (sMeta_34.2 h).1 (sMeta_34.2 h).2
theorem sRowAt_n {E : xD} {t n : Int32} (h : ¬ sRowAt E t n = 0) : vp_in n 12 := by
  unfold sRowAt at h
  split at h
  next q => exact vi_n11 q
  next => exact absurd rfl h
/-- a pool, counted -/
theorem pool_n {E : xD} (hB : RB E) {c : Nat} (hc : c < 41) (hc2 : c ≤ 40) : E 12 c = nI (ix (E 12 c)) ∧ c + ix (E 12 c) ≤ 40 := by
  by_cases h : E 12 c = 0
  · rw [h]
    exact ⟨rfl, by show c + 0 ≤ 40; omega⟩
  · obtain ⟨h1, h2⟩ := hB.a12 hc h
    have e := vi_n h1 (by decide)
    have e14 := vi_n hB.n14 (by decide)
    exact ⟨e.1, by omega⟩
theorem sLeast_n {E : xD} {c : Nat} (o : Int32) : ∀ (n : Nat), c + n ≤ 40 → sLeast E (nI c) o n = o ∨ ∃ i, 1 ≤ i ∧ i ≤ n ∧ sLeast E (nI c) o n = nI (c + i) ∧ E 11 (c + i) = 0 := by
  intro n
  induction n generalizing o with
  | zero => intro _; exact Or.inl rfl
  | succ n ih =>
    intro hn
    rw [sLeast, nI_add, ix_nI (by omega)]
    split
    · rcases ih o (by omega) with h | ⟨i, i1, i2, i3, i4⟩
      · exact Or.inl h
      · exact Or.inr ⟨i, i1, by omega, i3, i4⟩
    next q =>
      have q : E 11 (c + (n + 1)) = 0 := Decidable.not_not.mp q
      rcases ih (nI (c + (n + 1))) (by omega) with h | ⟨i, i1, i2, i3, i4⟩
      · exact Or.inr ⟨n + 1, by omega, by omega, h, q⟩
      · exact Or.inr ⟨i, i1, by omega, i3, i4⟩
/-- the children of o, taken out one by one -/
def lOk (E : xD) (o : Int32) : Nat → Prop
  | 0 => E 20 (ix o) = 0
  | n + 1 => E 20 (ix o) = 0 ∨ lOk (sLeave E (E 20 (ix o))) o n
theorem lOk_of {o : Nat} (h1 : 1 ≤ o) (h2 : o < 41) : ∀ (l : List Nat) (E : xD), Iv E → sg (nat E 21) (nat E 20 o) l 0 → ∀ n, l.length ≤ n → lOk E (nI o) n := by
  intro l
  induction l with
  | nil =>
    intro E h hs n _
    have e := vi_n (h.1.a20 h2) (by decide)
    have z : E 20 (ix (nI o)) = 0 := by
      rw [ix_nI (by omega), e.1, (show ix (E 20 o) = 0 from hs)]
      rfl
    cases n with
    | zero => exact z
    | succ n => exact Or.inl z
  | cons x l ih =>
    intro E h hs n hn
    obtain ⟨n, rfl⟩ : ∃ z, n = z + 1 := ⟨n - 1, by simp at hn; omega⟩
    have hnd := sg_nodup hs
    obtain ⟨a, x0, c⟩ := hs
    obtain ⟨kids, hk⟩ := h.2.2.1
    obtain ⟨k1, k2⟩ := hk.1 o h1 h2
    have e := vi_n (h.1.a20 h2) (by decide)
    have ex : E 20 o = nI x := by rw [e.1]; congr 1
    have hm : x ∈ kids o := by
      have := sg_uniq (l := kids o) (l' := x :: l) k1 ⟨a, x0, c⟩
      rw [this]; simp
    obtain ⟨x1, x2, x3⟩ := (k2 x).mp hm
    have e19 : E 19 x = nI o := by
      have := vi_n (h.1.a19 x2) (by decide)
      rw [this.1]; congr 1
    have el : sLeave E (nI x) = xdu (xdu (xdu E 20 o (E 21 x)) 19 x 0) 21 x 0 := by
      unfold sLeave
      rw [ix_nI (show x < 2 ^ 31 by omega), e19, if_neg (fun q => by have := congrArg ix q; rw [ix_nI (by omega)] at this; exact absurd this (by show o ≠ 0; omega)), ix_nI (by omega), if_pos ex]
    refine Or.inr ?_
    rw [ix_nI (by omega), ex]
    refine ih _ (h.leave x1 x2) ?_ n (by simp at hn; omega)
    rw [el, nat_self, nat_ne _ _ _ (show (21 : Nat) ≠ 19 by decide), nat_ne _ _ _ (show (21 : Nat) ≠ 20 by decide), nat_ne _ _ _ (show (20 : Nat) ≠ 21 by decide), nat_ne _ _ _ (show (20 : Nat) ≠ 19 by decide), nat_self, fup_self]
    have hxl := (List.nodup_cons.mp hnd).1
    exact sg_cong (fun y hy => fup_ne _ _ (fun z => hxl (z ▸ hy))) c
theorem Iv.lOk {E : xD} (h : Iv E) {o : Nat} (h1 : 1 ≤ o) (h2 : o < 41) : lOk E (nI o) 40 := by
  obtain ⟨kids, hk⟩ := id h.2.2.1
  obtain ⟨k1, k2⟩ := hk.1 o h1 h2
  exact lOk_of h1 h2 (kids o) E h k1 40 (nd_len (sg_nodup k1) (fun x hx => ⟨sg_ne k1 x hx, ((k2 x).mp hx).2.1⟩))
