/-! ===== the forest in the reference's cells ===== -/
def nat (E : xD) (j : Nat) : Nat → Nat := fun x => ix (E j x)
def FO (E : xD) : Prop := ∃ kids, FOp (nat E 19) (nat E 20) (nat E 21) kids
theorem nat_upd (f : Nat → Int32) (k : Nat) (y : Int32) : (fun x => ix (upd f k y x)) = fup (fun x => ix (f x)) k (ix y) := by
  funext x
  unfold upd fup
  split <;> rfl
theorem nat_self (E : xD) (j k : Nat) (y : Int32) : nat (xdu E j k y) j = fup (nat E j) k (ix y) := by
  unfold nat
  rw [xdu_self]
  exact nat_upd _ _ _
theorem nat_ne (E : xD) {j i : Nat} (k : Nat) (y : Int32) (h : i ≠ j) : nat (xdu E j k y) i = nat E i := by
  unfold nat
  rw [xdu_ne _ _ _ h]
theorem FO.same {E E' : xD} (h : FO E) (h19 : E' 19 = E 19) (h20 : E' 20 = E 20) (h21 : E' 21 = E 21) : FO E' := by
  unfold FO nat at *
  rw [h19, h20, h21]
  exact h
theorem sg_aOk {E : xD} {j : Nat} (hv : ∀ x, x < 41 → vp_in (E j x) 41) : ∀ (l : List Nat) (k : Int32) (n : Nat), sg (nat E j) (ix k) l 0 → k = nI (ix k) → ix k < 41 → l.length ≤ n → aOk E j k n
  | [], k, n, h, e, _, _ => by
    have h : ix k = 0 := h
    rw [h] at e
    cases n with
    | zero => exact e
    | succ n => exact Or.inl e
  | x :: l, k, n, ⟨a, _, c⟩, e, hk, hn => by
    cases n with
    | zero => simp at hn
    | succ n =>
      have e2 := vi_n (hv (ix k) hk) (by decide)
      refine Or.inr (sg_aOk hv l (E j (ix k)) n ?_ e2.1 e2.2 (by simp at hn; omega))
      rw [a]
      exact c
theorem FO_21 {E : xD} (hB : RB E) (hF : FO E) {v : Nat} (h1 : 1 ≤ v) (h2 : v < 41) : aOk E 21 (E 20 v) 40 := by
  obtain ⟨kids, h⟩ := hF
  obtain ⟨hk, hm⟩ := h.1 v h1 h2
  have e := vi_n (hB.a20 h2) (by decide)
  exact sg_aOk (fun x hx => hB.a21 hx) (kids v) (E 20 v) 40 hk e.1 e.2 (nd_len (sg_nodup hk) (fun x hx => ⟨sg_ne hk x hx, ((hm x).mp hx).2.1⟩))
theorem FO_up {E : xD} (hB : RB E) (hF : FO E) {b : Nat} (h1 : 1 ≤ b) (h2 : b < 41) : ∃ l, sg (nat E 19) b l 0 ∧ l.length ≤ 40 := by
  obtain ⟨kids, h⟩ := hF
  obtain ⟨l, hl⟩ := h.2.2 b h1 h2
  exact ⟨l, hl, nd_len (sg_nodup hl) (fun x hx => ⟨sg_ne hl x hx, sg_lt (N := 41) (fun y hy => (vi_n (hB.a19 hy) (by decide)).2) h2 hl x hx⟩)⟩
theorem FO_19 {E : xD} (hB : RB E) (hF : FO E) {b : Int32} (hb : vp_in b 41) : aOk E 19 b 40 := by
  have e := vi_n hb (by decide)
  by_cases q : ix b = 0
  · rw [q] at e
    exact Or.inl e.1
  · obtain ⟨l, hl, hn⟩ := FO_up hB hF (b := ix b) (by omega) e.2
    exact sg_aOk (fun x hx => hB.a19 hx) l b 40 hl e.1 e.2 hn
theorem sg_fOk {E : xD} (hv : ∀ x, x < 41 → vp_in (E 21 x) 41) {o k : Nat} : ∀ (l : List Nat) (h n : Nat), sg (nat E 21) h (l ++ [k]) o → h < 41 → l.length ≤ n → fOk E (nI o) (nI h) n
  | [], h, n, ⟨a, _, c⟩, hh, _ => by
    have e2 := vi_n (hv h hh) (by decide)
    have : E 21 (ix (nI h)) = nI o := by
      rw [ix_nI (by omega), e2.1]
      congr 1
      rw [← (show nat E 21 k = o from c), a]
      rfl
    cases n with
    | zero => exact this
    | succ n => exact Or.inl this
  | x :: l, h, n, ⟨a, _, c⟩, hh, hn => by
    cases n with
    | zero => simp at hn
    | succ n =>
      have e2 := vi_n (hv h hh) (by decide)
      refine Or.inr ?_
      rw [ix_nI (by omega), e2.1]
      refine sg_fOk (k := k) hv l _ n ?_ e2.2 (by simp at hn; omega)
      rw [← a] at c
      exact c
theorem sg_find {E : xD} (hv : ∀ x, x < 41 → vp_in (E 21 x) 41) {o k : Nat} (hk : k < 41) (ho : o < 41) : ∀ (l : List Nat) (h n : Nat), sg (nat E 21) h (l ++ [k]) o → o ∉ l ++ [k] → h < 41 → l.length < n → sFind E (nI o) (nI h) n = nI k
  | [], h, n, ⟨a, _, c⟩, _, hh, hn => by
    obtain ⟨n, rfl⟩ : ∃ z, n = z + 1 := ⟨n - 1, by simp at hn; omega⟩
    have e2 := vi_n (hv h hh) (by decide)
    have : E 21 (ix (nI h)) = nI o := by
      rw [ix_nI (by omega), e2.1]
      congr 1
      rw [← (show nat E 21 k = o from c), a]
      rfl
    rw [sFind, if_pos this, a]
  | x :: l, h, n, ⟨a, _, c⟩, hno, hh, hn => by
    obtain ⟨n, rfl⟩ : ∃ z, n = z + 1 := ⟨n - 1, by simp at hn; omega⟩
    have e2 := vi_n (hv h hh) (by decide)
    rw [← a] at c
    have hne : ¬ E 21 (ix (nI h)) = nI o := fun q => by
      rw [ix_nI (by omega)] at q
      have q2 : nat E 21 h = o := by unfold nat; rw [q, ix_nI (by omega)]
      rw [q2] at c
      cases l with
      | nil => exact hno (by rw [(show o = k from c.1)]; simp)
      | cons y l => exact hno (by rw [(show o = y from c.1)]; simp)
    rw [sFind, if_neg hne, ix_nI (by omega), e2.1]
    exact sg_find hv hk ho l _ n c (fun q => hno (by simp at q ⊢; exact Or.inr q)) e2.2 (by simp at hn; omega)
/-- what leave does: its ranges, its forest; o lies nowhere behind it -/
theorem sLeave_FO {E : xD} (hB : RB E) (hF : FO E) {o : Nat} (h1 : 1 ≤ o) (h2 : o < 41) :
    FO (sLeave E (nI o)) ∧ (∀ j, j ≠ 19 → j ≠ 20 → j ≠ 21 → sLeave E (nI o) j = E j) ∧ (∀ t, t < 41 → vp_in (sLeave E (nI o) 19 t) 41 ∧ vp_in (sLeave E (nI o) 20 t) 41 ∧ vp_in (sLeave E (nI o) 21 t) 41) ∧ nat (sLeave E (nI o)) 19 = fup (nat E 19) o 0 ∧ (¬ E 19 (ix (nI o)) = 0 → ¬ E 20 (ix (E 19 (ix (nI o)))) = nI o → fOk E (nI o) (E 20 (ix (E 19 (ix (nI o)))) ) 39) := by
  have eo : ix (nI o) = o := ix_nI (by omega)
  have hv := hB.a19 h2
  have ev := vi_n hv (by decide)
  have z0 : vp_in (0 : Int32) 41 := vi_of (n := 0) (by decide) (by decide)
  have hu : ∀ (f : Nat → Int32) (k : Nat) (x : Int32), (∀ t, t < 41 → vp_in (f t) 41) → vp_in x 41 → ∀ t, t < 41 → vp_in (upd f k x t) 41 := fun f k x hf hx t ht => by
    unfold upd
    split
    · exact hx
    · exact hf t ht
  by_cases hp : E 19 o = 0
  · have e : sLeave E (nI o) = E := by unfold sLeave; rw [eo, if_pos hp]
    rw [e, eo]
    refine ⟨hF, fun _ _ _ _ => rfl, fun t ht => ⟨hB.a19 ht, hB.a20 ht, hB.a21 ht⟩, ?_, fun q => absurd hp q⟩
    funext x
    unfold fup
    split
    next q => rw [q]; unfold nat; rw [hp]; rfl
    next => rfl
  · obtain ⟨kids, h⟩ := id hF
    have hpn : nat E 19 o ≠ 0 := fun q => hp (by rw [ev.1]; unfold nat at q; rw [q]; rfl)
    have hpl : nat E 19 o < 41 := ev.2
    have e20 := vi_n (hB.a20 hpl) (by decide)
    have s21 := hB.a21 h2
    rcases FO_leave h h1 h2 hpn hpl with ⟨hc, kids', h'⟩ | ⟨hc, l1, k, kids', hs, hno, hnd, hlt, h'⟩
    · have hc' : E 20 (ix (E 19 o)) = nI o := by
        have := e20.1
        unfold nat at hc this
        rw [hc] at this
        exact this
      have e : sLeave E (nI o) = xdu (xdu (xdu E 20 (nat E 19 o) (E 21 o)) 19 o 0) 21 o 0 := by
        unfold sLeave
        rw [eo, if_neg hp, if_pos hc']
        rfl
      rw [e]
      refine ⟨⟨kids', ?_⟩, fun j a b c => by rw [xdu_ne _ _ _ c, xdu_ne _ _ _ a, xdu_ne _ _ _ b], fun t ht => ⟨?_, ?_, ?_⟩, ?_, fun _ q => absurd (by rw [eo]; exact hc') q⟩
      · rw [nat_ne _ _ _ (by decide), nat_self, nat_ne _ _ _ (show (19 : Nat) ≠ 20 by decide), nat_ne _ _ _ (show (20 : Nat) ≠ 21 by decide), nat_ne _ _ _ (show (20 : Nat) ≠ 19 by decide), nat_self, nat_self, nat_ne _ _ _ (show (21 : Nat) ≠ 19 by decide), nat_ne _ _ _ (show (21 : Nat) ≠ 20 by decide)]
        exact h'
      · rw [xdu_ne _ _ _ (by decide), xdu_self, xdu_ne _ _ _ (by decide)]
        exact hu _ _ _ (fun t ht => hB.a19 ht) z0 t ht
      · rw [xdu_ne _ _ _ (by decide), xdu_ne _ _ _ (by decide), xdu_self]
        exact hu _ _ _ (fun t ht => hB.a20 ht) s21 t ht
      · rw [xdu_self, xdu_ne _ _ _ (by decide), xdu_ne _ _ _ (by decide)]
        exact hu _ _ _ (fun t ht => hB.a21 ht) z0 t ht
      · rw [nat_ne _ _ _ (by decide), nat_self, nat_ne _ _ _ (by decide)]
        rfl
    · have hc' : ¬ E 20 (ix (E 19 o)) = nI o := fun q => hc (by unfold nat; rw [q, eo])
      have hl40 := nd_len hnd (fun x hx => ⟨sg_ne hs x hx, hlt x hx⟩)
      simp at hl40
      have hk : k < 41 := hlt k (by simp)
      have hh : E 20 (ix (E 19 o)) = nI (nat E 20 (nat E 19 o)) := e20.1
      have hfd : sFind E (nI o) (E 20 (ix (E 19 o))) (lk 40) = nI k := by
        rw [lk_eq, hh]
        exact sg_find (fun x hx => hB.a21 hx) hk h2 l1 _ 40 hs hno e20.2 (by omega)
      have e : sLeave E (nI o) = xdu (xdu (xdu E 21 k (E 21 o)) 19 o 0) 21 o 0 := by
        unfold sLeave
        rw [eo, if_neg hp, if_neg hc', hfd, ix_nI (by omega)]
      rw [e]
      refine ⟨⟨kids', ?_⟩, fun j a b c => by rw [xdu_ne _ _ _ c, xdu_ne _ _ _ a, xdu_ne _ _ _ c], fun t ht => ⟨?_, ?_, ?_⟩, ?_, fun _ _ => ?_⟩
      · rw [nat_ne _ _ _ (by decide), nat_self, nat_ne _ _ _ (show (19 : Nat) ≠ 21 by decide), nat_ne _ _ _ (show (20 : Nat) ≠ 21 by decide), nat_ne _ _ _ (show (20 : Nat) ≠ 19 by decide), nat_ne _ _ _ (show (20 : Nat) ≠ 21 by decide), nat_self, nat_ne _ _ _ (show (21 : Nat) ≠ 19 by decide), nat_self]
        exact h'
      · rw [xdu_ne _ _ _ (by decide), xdu_self, xdu_ne _ _ _ (by decide)]
        exact hu _ _ _ (fun t ht => hB.a19 ht) z0 t ht
      · rw [xdu_ne _ _ _ (by decide), xdu_ne _ _ _ (by decide), xdu_ne _ _ _ (by decide)]
        exact hB.a20 ht
      · rw [xdu_self, xdu_ne _ _ _ (by decide), xdu_self]
        exact hu _ _ _ (hu _ _ _ (fun t ht => hB.a21 ht) s21) z0 t ht
      · rw [nat_ne _ _ _ (by decide), nat_self, nat_ne _ _ _ (by decide)]
        rfl
      · rw [eo, hh]
        exact sg_fOk (fun x hx => hB.a21 hx) l1 _ 39 hs e20.2 (by omega)
/-- whether a lies on the way up from b -/
theorem sInAt_iff {E : xD} (hv : ∀ x, x < 41 → vp_in (E 19 x) 41) {a : Nat} (ha : a < 41) : ∀ (l : List Nat) (b n : Nat), sg (nat E 19) b l 0 → b < 41 → l.length < n → (sInAt E (nI a) (nI b) n = true ↔ a ∈ l)
  | [], b, n, h, hb, hn => by
    obtain ⟨n, rfl⟩ : ∃ z, n = z + 1 := ⟨n - 1, by simp at hn; omega⟩
    have h : b = 0 := h
    subst h
    rw [sInAt, if_pos (show nI 0 = 0 from rfl)]
    simp
  | x :: l, b, n, ⟨e, x0, c⟩, hb, hn => by
    obtain ⟨n, rfl⟩ : ∃ z, n = z + 1 := ⟨n - 1, by simp at hn; omega⟩
    have e2 := vi_n (hv b hb) (by decide)
    rw [← e] at c x0 ⊢
    have hb0 : ¬ nI b = 0 := fun q => x0 (by have := congrArg ix q; rw [ix_nI (by omega)] at this; exact this)
    rw [sInAt, if_neg hb0, ix_nI (by omega)]
    by_cases q : nI b = nI a
    · rw [if_pos q]
      have := congrArg ix q
      rw [ix_nI (by omega), ix_nI (by omega)] at this
      simp [this]
    · rw [if_neg q, e2.1]
      have h2 := sInAt_iff hv ha l (ix (E 19 b)) n c e2.2 (by simp at hn; omega)
      rw [h2]
      have : a ≠ b := fun z => q (by rw [z])
      simp [this]
/-- what move does to the forest -/
theorem sMove_FO {E : xD} (hB : RB E) (hF : FO E) {a b : Nat} (a1 : 1 ≤ a) (a2 : a < 41) (b1 : 1 ≤ b) (b2 : b < 41) (hn : ¬ sInAt E (nI a) (nI b) (lk 41) = true) : FO (xdu (xdu (xdu (sLeave E (nI a)) 19 (ix (nI a)) (nI b)) 21 (ix (nI a)) (sLeave E (nI a) 20 (ix (nI b)))) 20 (ix (nI b)) (nI a)) := by
  obtain ⟨l, hl, hlen⟩ := FO_up hB hF b1 b2
  rw [lk_eq] at hn
  have hal : a ∉ l := fun q => hn ((sInAt_iff (fun x hx => hB.a19 hx) a2 l b 41 hl b2 (by omega)).mpr q)
  obtain ⟨⟨kids, h⟩, -, -, h19, -⟩ := sLeave_FO hB hF a1 a2
  have hl2 : sg (nat (sLeave E (nI a)) 19) b l 0 := by
    rw [h19]
    exact sg_cong (fun y hy => fup_ne _ _ (fun z => hal (z ▸ hy))) hl
  obtain ⟨kids', h'⟩ := FO_join h a1 a2 b1 b2 (by rw [h19, fup_self]) hl2 hal
  refine ⟨kids', ?_⟩
  rw [ix_nI (by omega), ix_nI (by omega)]
  rw [nat_ne _ _ _ (show (19 : Nat) ≠ 20 by decide), nat_ne _ _ _ (show (19 : Nat) ≠ 21 by decide), nat_self, nat_self, nat_ne _ _ _ (show (20 : Nat) ≠ 21 by decide), nat_ne _ _ _ (show (20 : Nat) ≠ 19 by decide), nat_ne _ _ _ (show (21 : Nat) ≠ 20 by decide), nat_self, nat_ne _ _ _ (show (21 : Nat) ≠ 19 by decide), ix_nI (by omega), ix_nI (by omega)]
  exact h'
