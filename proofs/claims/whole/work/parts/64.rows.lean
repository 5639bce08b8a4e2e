/-! ===== rows as lists ===== -/
def rs (len val : Nat → Int32) (s : Nat) (l : List Int32) : Prop := len s = nI l.length ∧ l.length ≤ 4 ∧ ∀ i, i < l.length → val (4 * s + i) = l.getD i 0
theorem rs_app {len val : Nat → Int32} {s : Nat} {l : List Int32} (h : rs len val s l) (hl : l.length < 4) (x : Int32) : rs (upd len s (nI (l.length + 1))) (upd val (4 * s + l.length) x) s (l ++ [x]) := by
  refine ⟨by rw [upd_self]; simp, by simp; omega, fun i hi => ?_⟩
  simp at hi
  by_cases e : i = l.length
  · subst e
    rw [upd_self]
    simp
  · rw [upd_ne _ _ (by omega), h.2.2 i (by omega), List.getD_eq_getElem?_getD, List.getD_eq_getElem?_getD, List.getElem?_append_left (by omega)]
theorem rs_oth {len val : Nat → Int32} {s t k : Nat} {l : List Int32} {x y : Int32} (h : rs len val t l) (ht : t ≠ s) (hk : k < 4) : rs (upd len s y) (upd val (4 * s + k) x) t l :=
  ⟨by rw [upd_ne _ _ ht]; exact h.1, h.2.1, fun i hi => by
    have := h.2.1
    rw [upd_ne _ _ (by omega)]
    exact h.2.2 i hi⟩
theorem rs_ex {len val : Nat → Int32} {s : Nat} (h : vp_in (len s) 5) : ∃ l, rs len val s l := by
  obtain ⟨e, l⟩ := vi_n h (by decide)
  refine ⟨(List.range (ix (len s))).map (fun i => val (4 * s + i)), by simp; exact e, by simp; omega, fun i hi => ?_⟩
  simp at hi
  simp [List.getD_eq_getElem?_getD, hi]
theorem rs_len {len val : Nat → Int32} {s : Nat} {l : List Int32} (h : rs len val s l) : ix (len s) = l.length := by
  have := h.2.1
  rw [h.1, ix_nI (by omega)]
theorem rs_nil {len val : Nat → Int32} {s : Nat} {l : List Int32} (h : rs len val s l) : len s = 0 ↔ l = [] := by
  have h2 := h.2.1
  constructor
  · intro q
    have := rs_len h
    rw [q] at this
    exact List.length_eq_zero_iff.mp (by rw [← this]; rfl)
  · rintro rfl
    exact h.1
theorem rs_f4 {len val : Nat → Int32} {s : Nat} {l : List Int32} (h : rs len val s l) : 4 ≤ len s ↔ l.length = 4 := by
  have h2 := h.2.1
  rw [h.1, show (4 : Int32) = nI 4 from rfl, nI_leI (by decide) (by omega)]
  omega
theorem tk4 (a b : List Int32) : (a.take 4 ++ b).take 4 = (a ++ b).take 4 := by
  by_cases h : a.length ≤ 4
  · rw [List.take_of_length_le h]
  · rw [List.take_append_of_le_length (l₁ := a) (by omega), List.take_append_of_le_length (by rw [List.length_take]; omega), List.take_take]
    rfl
def inh (n : Nat) (l src : List Int32) : List Int32 := if n = 0 ∨ l = [] then (l ++ src).take 4 else l
def fo (S : Nat → Nat → List Int32) (n : Nat) (l : List Int32) (j : Nat) : Nat → List Int32
  | 0 => l
  | m + 1 => fo S n (inh n l (S j n)) (j + 1) m
theorem getD_drop {src : List Int32} {i : Nat} (h : i < src.length) : src.drop i = src.getD i 0 :: src.drop (i + 1) := by
  rw [List.drop_eq_getElem_cons h, List.getD_eq_getElem?_getD, List.getElem?_eq_getElem h]
  rfl
/-! the class's -/
theorem cAdd_rs {D : xD} {c n : Nat} {l : List Int32} {v : Int32} (h : rs (D (c + 1)) (D (c + 2)) n l) : rs (cAdd D c n v (c + 1)) (cAdd D c n v (c + 2)) n ((l ++ [v]).take 4) := by
  have h2 := h.2.1
  unfold cAdd
  by_cases q : 4 ≤ D (c + 1) n
  · rw [if_pos q, List.take_append_of_le_length (by have := (rs_f4 h).mp q; omega), List.take_of_length_le h2]
    exact h
  · have hl : l.length < 4 := by
      have := mt (rs_f4 h).mpr q
      omega
    rw [if_neg q, xdu_ne _ _ _ (by omega), xdu_self, xdu_self, xdu_ne _ _ _ (by omega), h.1, ix_nI (by omega), show nI l.length + 1 = nI (l.length + 1) from nI_1 _, List.take_of_length_le (by simp; omega)]
    exact rs_app h hl v
theorem cAdd_rs' {D : xD} {c n n' : Nat} {l l' : List Int32} {v : Int32} (h : rs (D (c + 1)) (D (c + 2)) n l) (h' : rs (D (c + 1)) (D (c + 2)) n' l') (hn : n' ≠ n) : rs (cAdd D c n v (c + 1)) (cAdd D c n v (c + 2)) n' l' := by
  have h2 := h.2.1
  unfold cAdd
  by_cases q : 4 ≤ D (c + 1) n
  · rw [if_pos q]
    exact h'
  · have hl : l.length < 4 := by
      have := mt (rs_f4 h).mpr q
      omega
    rw [if_neg q, xdu_ne _ _ _ (by omega), xdu_self, xdu_self, xdu_ne _ _ _ (by omega)]
    exact rs_oth h' hn (by rw [rs_len h]; exact hl)
theorem cRowI_rs {c s n : Nat} {src : List Int32} (z1 : s + 1 ≠ c + 1) (z2 : s + 1 ≠ c + 2) (z3 : s + 2 ≠ c + 1) (z4 : s + 2 ≠ c + 2) : ∀ (m i : Nat) (D : xD) (l : List Int32), rs (D (c + 1)) (D (c + 2)) n l → rs (D (s + 1)) (D (s + 2)) n src → i + m = src.length → rs (cRowI D c s n i m (c + 1)) (cRowI D c s n i m (c + 2)) n ((l ++ src.drop i).take 4) ∧ ∀ n' l', n' ≠ n → rs (D (c + 1)) (D (c + 2)) n' l' → rs (cRowI D c s n i m (c + 1)) (cRowI D c s n i m (c + 2)) n' l' := by
  intro m
  induction m with
  | zero =>
    intro i D l h hs hi
    rw [List.drop_eq_nil_iff.mpr (by omega), List.append_nil, List.take_of_length_le h.2.1]
    exact ⟨h, fun _ _ _ z => z⟩
  | succ m ih =>
    intro i D l h hs hi
    have hi' : i < src.length := by omega
    rw [cRowI, hs.2.2 i hi', getD_drop hi']
    have hs' : rs (cAdd D c n (src.getD i 0) (s + 1)) (cAdd D c n (src.getD i 0) (s + 2)) n src := by
      rw [cAdd_ne z1 z2, cAdd_ne z3 z4]
      exact hs
    obtain ⟨g1, g2⟩ := ih (i + 1) _ _ (cAdd_rs (v := src.getD i 0) h) hs' (by omega)
    refine ⟨?_, fun n' l' hn z => g2 n' l' hn (cAdd_rs' h z hn)⟩
    rw [tk4, List.append_assoc] at g1
    exact g1
theorem cInh_rs {c s : Nat} (z1 : s + 1 ≠ c + 1) (z2 : s + 1 ≠ c + 2) (z3 : s + 2 ≠ c + 1) (z4 : s + 2 ≠ c + 2) {S : Nat → List Int32} : ∀ (m k : Nat) (D : xD) (F : Nat → List Int32), (∀ n, n < 12 → rs (D (c + 1)) (D (c + 2)) n (F n)) → (∀ n, n < 12 → rs (D (s + 1)) (D (s + 2)) n (S n)) → k + m = 12 → ∀ n, n < 12 → rs (cInh D c s k m (c + 1)) (cInh D c s k m (c + 2)) n (if k ≤ n then inh n (F n) (S n) else F n) := by
  intro m
  induction m with
  | zero =>
    intro k D F hF hS hk n hn
    rw [if_neg (by omega)]
    exact hF n hn
  | succ m ih =>
    intro k D F hF hS hk n hn
    rw [cInh]
    have hk12 : k < 12 := by omega
    by_cases q : k = 0 ∨ D (c + 1) k = 0
    · have q' : k = 0 ∨ F k = [] := q.imp id (rs_nil (hF k hk12)).mp
      obtain ⟨g1, g2⟩ := cRowI_rs z1 z2 z3 z4 (ix (D (s + 1) k)) 0 D (F k) (hF k hk12) (hS k hk12) (by rw [rs_len (hS k hk12)]; omega)
      rw [if_pos q]
      have := ih (k + 1) _ (fun n => if n = k then inh n (F n) (S n) else F n) (fun n hn => by
        by_cases e : n = k
        · subst e
          rw [if_pos rfl, inh, if_pos q']
          rw [List.drop_zero] at g1
          exact g1
        · rw [if_neg e]
          exact g2 n _ e (hF n hn)) (fun n hn => by rw [cRowI_ne z1 z2, cRowI_ne z3 z4]; exact hS n hn) (by omega) n hn
      by_cases e : n = k
      · subst e
        rw [if_neg (by omega), if_pos rfl] at this
        rw [if_pos (by omega)]
        exact this
      · rw [if_neg e] at this
        by_cases e2 : k ≤ n
        · rw [if_pos (by omega)] at this
          rw [if_pos e2]
          exact this
        · rw [if_neg (by omega)] at this
          rw [if_neg e2]
          exact this
    · have q' : ¬ (k = 0 ∨ F k = []) := fun z => q (z.imp id (rs_nil (hF k hk12)).mpr)
      rw [if_neg q]
      have := ih (k + 1) D F hF hS (by omega) n hn
      by_cases e : n = k
      · subst e
        rw [if_neg (by omega)] at this
        rw [if_pos (by omega), inh, if_neg q']
        exact this
      · by_cases e2 : k ≤ n
        · rw [if_pos (by omega)] at this
          rw [if_pos e2]
          exact this
        · rw [if_neg (by omega)] at this
          rw [if_neg e2]
          exact this
noncomputable def cTk (D : xD) (c : Nat) (sc : Nat → Nat) (k : Nat) : Nat → xD
  | 0 => D
  | m + 1 => cTk (cInh D c (sc k) 0 (lk 12)) c sc (k + 1) m
theorem cTk_ne {c p : Nat} {sc : Nat → Nat} (h1 : p ≠ c + 1) (h2 : p ≠ c + 2) : ∀ (m k : Nat) (D : xD), cTk D c sc k m p = D p
  | 0, _, _ => rfl
  | m + 1, k, D => by rw [cTk, cTk_ne h1 h2 m, cInh_ne h1 h2]
theorem cTk_rs {c N : Nat} {sc : Nat → Nat} {S : Nat → Nat → List Int32} (hz : ∀ j, j < N → sc j + 1 ≠ c + 1 ∧ sc j + 1 ≠ c + 2 ∧ sc j + 2 ≠ c + 1 ∧ sc j + 2 ≠ c + 2) : ∀ (m k : Nat) (D : xD) (F : Nat → List Int32), (∀ n, n < 12 → rs (D (c + 1)) (D (c + 2)) n (F n)) → (∀ j, j < N → ∀ n, n < 12 → rs (D (sc j + 1)) (D (sc j + 2)) n (S j n)) → k + m = N → ∀ n, n < 12 → rs (cTk D c sc k m (c + 1)) (cTk D c sc k m (c + 2)) n (fo S n (F n) k m) := by
  intro m
  induction m with
  | zero => intro k D F hF _ _ n hn; exact hF n hn
  | succ m ih =>
    intro k D F hF hS hk n hn
    obtain ⟨z1, z2, z3, z4⟩ := hz k (by omega)
    rw [cTk, fo]
    refine ih (k + 1) _ (fun n => inh n (F n) (S k n)) (fun n hn => ?_) (fun j hj n hn => ?_) (by omega) n hn
    · have := cInh_rs z1 z2 z3 z4 (lk 12) 0 D F hF (fun n hn => hS k (by omega) n hn) (by rw [lk_eq]) n hn
      rw [if_pos (Nat.zero_le _)] at this
      exact this
    · obtain ⟨y1, y2, y3, y4⟩ := hz j hj
      rw [cInh_ne y1 y2, cInh_ne y3 y4]
      exact hS j hj n hn
/-! the reference's -/
theorem sRowI_rs {a b : Nat} (ha : a < 492) (hb : b < 492) (hab : b ≠ a) {src : List Int32} : ∀ (m i : Nat) (E : xD) (l : List Int32), rs (E 15) (E 16) a l → rs (E 15) (E 16) b src → i + m = src.length → rs (sRowI E (nI a) (nI b) (nI i) m 15) (sRowI E (nI a) (nI b) (nI i) m 16) a ((l ++ src.drop i).take 4) ∧ ∀ t l', t ≠ a → rs (E 15) (E 16) t l' → rs (sRowI E (nI a) (nI b) (nI i) m 15) (sRowI E (nI a) (nI b) (nI i) m 16) t l' := by
  intro m
  induction m with
  | zero =>
    intro i E l h hs hi
    rw [List.drop_eq_nil_iff.mpr (by omega), List.append_nil, List.take_of_length_le h.2.1]
    exact ⟨h, fun _ _ _ z => z⟩
  | succ m ih =>
    intro i E l h hs hi
    have h2 := h.2.1
    have hs2 := hs.2.1
    have hi' : i < src.length := by omega
    have ea : ix (nI a) = a := ix_nI (by omega)
    rw [sRowI, ea]
    by_cases q : 4 ≤ E 15 a
    · rw [if_pos q]
      have l4 := (rs_f4 h).mp q
      rw [List.take_append_of_le_length (by omega), List.take_of_length_le h2]
      exact ⟨h, fun _ _ _ z => z⟩
    · have hl : l.length < 4 := by
        have := mt (rs_f4 h).mpr q
        omega
      rw [if_neg q, h.1, ix4 ha (by omega), ix4 hb (by omega), hs.2.2 i hi', show nI l.length + 1 = nI (l.length + 1) from nI_1 _, show nI i + 1 = nI (i + 1) from nI_1 _]
      have e15 : xdu (xdu E 16 (4 * a + l.length) (src.getD i 0)) 15 a (nI (l.length + 1)) 15 = upd (E 15) a (nI (l.length + 1)) := by rw [xdu_self, xdu_ne _ _ _ (by decide)]
      have e16 : xdu (xdu E 16 (4 * a + l.length) (src.getD i 0)) 15 a (nI (l.length + 1)) 16 = upd (E 16) (4 * a + l.length) (src.getD i 0) := by rw [xdu_ne _ _ _ (by decide), xdu_self]
      obtain ⟨g1, g2⟩ := ih (i + 1) (xdu (xdu E 16 (4 * a + l.length) (src.getD i 0)) 15 a (nI (l.length + 1))) (l ++ [src.getD i 0]) (by rw [e15, e16]; exact rs_app h hl _) (by rw [e15, e16]; exact rs_oth hs hab hl) (by omega)
      refine ⟨?_, fun t l' ht z => g2 t l' ht (by rw [e15, e16]; exact rs_oth z ht hl)⟩
      rw [List.append_assoc] at g1
      rw [getD_drop hi']
      exact g1
theorem sRowK_rs {o n N : Nat} (ho : o < 41) (hn : n < 12) {gs : Nat → Nat} {S : Nat → Nat → List Int32} : ∀ (m k : Nat) (E : xD) (l : List Int32), (∀ j, j < N → E 14 (41 * o + j) = nI (gs j) ∧ gs j < 41 ∧ gs j ≠ o) → N ≤ 40 → rs (E 15) (E 16) (12 * o + n) l → (∀ j, j < N → rs (E 15) (E 16) (12 * gs j + n) (S j n)) → k + m = N → rs (sRowK E (nI o) (nI n) (nI k) m 15) (sRowK E (nI o) (nI n) (nI k) m 16) (12 * o + n) (fo S n l k m) ∧ ∀ t l', t ≠ 12 * o + n → rs (E 15) (E 16) t l' → rs (sRowK E (nI o) (nI n) (nI k) m 15) (sRowK E (nI o) (nI n) (nI k) m 16) t l' := by
  intro m
  induction m with
  | zero => intro k E l _ _ h _ _; exact ⟨h, fun _ _ _ z => z⟩
  | succ m ih =>
    intro k E l hg hN h hS hk
    obtain ⟨e14, g41, gne⟩ := hg k (by omega)
    have k0 : nI n = 0 ↔ n = 0 := ⟨fun q => by
      have : ix (nI n) = n := ix_nI (by omega)
      rw [← this, q]; rfl, fun q => by rw [q]; rfl⟩
    rw [sRowK, fo, ix41 ho (by omega), e14, ix12 ho hn, ix12 g41 hn, ix_nI (by omega), ix_nI (by omega), show nI k + 1 = nI (k + 1) from nI_1 _]
    by_cases q : nI n = 0 ∨ E 15 (12 * o + n) = 0
    · have q' : n = 0 ∨ l = [] := q.imp k0.mp (rs_nil h).mp
      obtain ⟨g1, g2⟩ := sRowI_rs (a := 12 * o + n) (b := 12 * gs k + n) (by omega) (by omega) (by omega) (ix (E 15 (12 * gs k + n))) 0 E l h (hS k (by omega)) (by rw [rs_len (hS k (by omega))]; omega)
      have hR := sRowI_S (a := 12 * o + n) (b := 12 * gs k + n) (by omega) (by omega) (ix (E 15 (12 * gs k + n))) 0 E (by rw [h.1]; exact vi_of (by have := h.2.1; omega) (by decide))
      rw [if_pos q, inh, if_pos q']
      rw [List.drop_zero] at g1
      obtain ⟨f1, f2⟩ := ih (k + 1) (sRowI E (nI (12 * o + n)) (nI (12 * gs k + n)) 0 (ix (E 15 (12 * gs k + n)))) _ (fun j hj => by rw [show sRowI E (nI (12 * o + n)) (nI (12 * gs k + n)) 0 (ix (E 15 (12 * gs k + n))) 14 = E 14 from hR.1 14 (by decide) (by decide)]; exact hg j hj) hN g1 (fun j hj => g2 _ _ (by have := hg j hj; omega) (hS j hj)) (by omega)
      exact ⟨f1, fun t l' ht z => f2 t l' ht (g2 t l' ht z)⟩
    · have q' : ¬ (n = 0 ∨ l = []) := fun z => q (z.imp k0.mpr (rs_nil h).mpr)
      rw [if_neg q, inh, if_neg q']
      exact ih (k + 1) E l hg hN h hS (by omega)
theorem sRowN_rs {o N : Nat} (ho : o < 41) {gs : Nat → Nat} {S : Nat → Nat → List Int32} (hN : N ≤ 40) : ∀ (m k : Nat) (E : xD), E 13 o = nI N → (∀ j, j < N → E 14 (41 * o + j) = nI (gs j) ∧ gs j < 41 ∧ gs j ≠ o) → (∀ t, t < 492 → vp_in (E 15 t) 5) → Lnp E o → (∀ j n, j < N → n < 12 → rs (E 15) (E 16) (12 * gs j + n) (S j n)) → k + m = 12 → (∀ n, k ≤ n → n < 12 → rs (sRowN E (nI o) (nI k) m 15) (sRowN E (nI o) (nI k) m 16) (12 * o + n) (fo S n [] 0 N)) ∧ ∀ t l', (t < 12 * o + k ∨ 12 * o + 12 ≤ t) → rs (E 15) (E 16) t l' → rs (sRowN E (nI o) (nI k) m 15) (sRowN E (nI o) (nI k) m 16) t l' := by
  intro m
  induction m with
  | zero => intro k E _ _ _ _ _ hk; exact ⟨fun n a b => by omega, fun _ _ _ z => z⟩
  | succ m ih =>
    intro k E h13 hg h15 hL hS hk
    have eo : ix (nI o) = o := ix_nI (by omega)
    have hk12 : k < 12 := by omega
    rw [sRowN, eo, ix12 ho hk12, ix_nI (by omega), h13, ix_nI (by omega), show nI k + 1 = nI (k + 1) from nI_1 _]
    have z15 : ∀ t, t ≠ 12 * o + k → xdu E 15 (12 * o + k) 0 15 t = E 15 t := fun t ht => by rw [xdu_self, upd_ne _ _ ht]
    have z16 : xdu E 15 (12 * o + k) 0 16 = E 16 := xdu_ne _ _ _ (by decide)
    have keep : ∀ t l', t ≠ 12 * o + k → rs (E 15) (E 16) t l' → rs (xdu E 15 (12 * o + k) 0 15) (xdu E 15 (12 * o + k) 0 16) t l' := fun t l' ht z => ⟨by rw [z15 t ht]; exact z.1, z.2.1, by rw [z16]; exact z.2.2⟩
    have hL1 : Lnp (xdu E 15 (12 * o + k) 0) o := hL.kept (xdu_ne _ _ _ (by decide)) (xdu_ne _ _ _ (by decide))
    have h15' : ∀ i, i < 492 → vp_in (xdu E 15 (12 * o + k) 0 15 i) 5 := fun i hi => by
      rw [xdu_self]
      unfold upd
      split
      · exact vi_of (n := 0) (by decide) (by decide)
      · exact h15 i hi
    have e13 : xdu E 15 (12 * o + k) 0 13 = E 13 := xdu_ne _ _ _ (by decide)
    have e14 : xdu E 15 (12 * o + k) 0 14 = E 14 := xdu_ne _ _ _ (by decide)
    obtain ⟨g1, g2⟩ := sRowK_rs (N := N) (gs := gs) (S := S) ho hk12 N 0 (xdu E 15 (12 * o + k) 0) [] (fun j hj => by rw [e14]; exact hg j hj) hN ⟨by rw [xdu_self, upd_self]; rfl, by simp, fun i hi => by simp at hi⟩ (fun j hj => keep _ _ (by have := hg j hj; omega) (hS j k hj hk12)) (by omega)
    have hR := sRowK_S (o := o) (m := k) ho hk12 N 0 (xdu E 15 (12 * o + k) 0) h15' hL1 (by rw [e13, h13, ix_nI (by omega)]; omega)
    have hRj : ∀ j, j ≠ 15 → j ≠ 16 → sRowK (xdu E 15 (12 * o + k) 0) (nI o) (nI k) 0 N j = E j := fun j a b => (hR.1 j a b).trans (xdu_ne _ _ _ a)
    have hR15 := hR.all h15'
    obtain ⟨f1, f2⟩ := ih (k + 1) (sRowK (xdu E 15 (12 * o + k) 0) (nI o) (nI k) 0 N) (by rw [hRj 13 (by decide) (by decide)]; exact h13) (fun j hj => by rw [hRj 14 (by decide) (by decide)]; exact hg j hj) hR15 (hL.kept (hRj 13 (by decide) (by decide)) (hRj 14 (by decide) (by decide))) (fun j n hj hn => g2 _ _ (by have := hg j hj; omega) (keep _ _ (by have := hg j hj; omega) (hS j n hj hn))) (by omega)
    refine ⟨fun n a b => ?_, fun t l' ht z => f2 t l' (by omega) (g2 t l' (by omega) (keep t l' (by omega) z))⟩
    by_cases e : n = k
    · subst e
      exact f2 _ _ (Or.inl (by omega)) g1
    · exact f1 n (by omega) b
