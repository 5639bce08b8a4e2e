/-! ===== THE FOREST: chains over numbers ===== -/
def sg (nx : Nat → Nat) : Nat → List Nat → Nat → Prop
  | h, [], e => h = e
  | h, x :: xs, e => h = x ∧ x ≠ 0 ∧ sg nx (nx x) xs e
theorem sg_app {nx : Nat → Nat} : ∀ {l1 l2 : List Nat} {h e : Nat}, sg nx h (l1 ++ l2) e ↔ ∃ m, sg nx h l1 m ∧ sg nx m l2 e
  | [], l2, h, e => ⟨fun q => ⟨h, rfl, q⟩, fun ⟨m, q1, q2⟩ => by cases q1; exact q2⟩
  | x :: l1, l2, h, e => by
    show (h = x ∧ x ≠ 0 ∧ sg nx (nx x) (l1 ++ l2) e) ↔ _
    rw [sg_app]
    exact ⟨fun ⟨a, b, m, c, d⟩ => ⟨m, ⟨a, b, c⟩, d⟩, fun ⟨m, ⟨a, b, c⟩, d⟩ => ⟨a, b, m, c, d⟩⟩
theorem sg_cong {nx nx' : Nat → Nat} : ∀ {l : List Nat} {h e : Nat}, (∀ x ∈ l, nx' x = nx x) → sg nx h l e → sg nx' h l e
  | [], _, _, _, q => q
  | x :: l, h, e, hc, ⟨a, b, c⟩ => ⟨a, b, by rw [hc x List.mem_cons_self]; exact sg_cong (fun y hy => hc y (List.mem_cons_of_mem _ hy)) c⟩
theorem sg_uniq {nx : Nat → Nat} : ∀ {l l' : List Nat} {h : Nat}, sg nx h l 0 → sg nx h l' 0 → l = l'
  | [], [], _, _, _ => rfl
  | [], y :: l', h, q, ⟨a, b, _⟩ => absurd (a.symm.trans q) b
  | x :: l, [], h, ⟨a, b, _⟩, q => absurd (a.symm.trans q) b
  | x :: l, y :: l', h, ⟨a, _, c⟩, ⟨a', _, c'⟩ => by
    have e : x = y := a.symm.trans a'
    subst e
    rw [sg_uniq c c']
theorem sg_nodup {nx : Nat → Nat} : ∀ {l : List Nat} {h : Nat}, sg nx h l 0 → l.Nodup
  | [], _, _ => List.nodup_nil
  | x :: l, h, ⟨a, b, c⟩ => by
    refine List.nodup_cons.mpr ⟨fun hm => ?_, sg_nodup c⟩
    obtain ⟨l1, l2, e⟩ := List.append_of_mem hm
    have c0 := c
    rw [e] at c
    obtain ⟨m, -, q2⟩ := sg_app.mp c
    have e2 := sg_uniq (l' := x :: l) q2 (by rw [q2.1]; exact ⟨rfl, b, c0⟩)
    have := congrArg List.length e2
    rw [e] at this
    simp at this
    omega
theorem nd_len {l : List Nat} (hn : l.Nodup) (h : ∀ x ∈ l, x ≠ 0 ∧ x < 41) : l.length ≤ 40 := by
  refine php 40 l.length (fun i => l.getD i 0 - 1) (fun a ha => ?_) (fun a b ha hb he => ?_)
  · have hm : l.getD a 0 ∈ l := by
      rw [List.getD_eq_getElem?_getD, List.getElem?_eq_getElem ha]
      exact List.getElem_mem ha
    have := h _ hm
    omega
  · have h1 : l.getD a 0 ∈ l := by
      rw [List.getD_eq_getElem?_getD, List.getElem?_eq_getElem ha]
      exact List.getElem_mem ha
    have h2 : l.getD b 0 ∈ l := by
      rw [List.getD_eq_getElem?_getD, List.getElem?_eq_getElem hb]
      exact List.getElem_mem hb
    have q1 := h _ h1
    have q2 := h _ h2
    have he' : l.getD a 0 = l.getD b 0 := by
      have he : l.getD a 0 - 1 = l.getD b 0 - 1 := he
      omega
    apply (List.getElem?_inj ha hn).mp
    rw [List.getD_eq_getElem?_getD, List.getD_eq_getElem?_getD, List.getElem?_eq_getElem ha, List.getElem?_eq_getElem hb] at he'
    rw [List.getElem?_eq_getElem ha, List.getElem?_eq_getElem hb]
    simp at he'
    rw [he']
theorem sg_ne {nx : Nat → Nat} : ∀ {l : List Nat} {h e : Nat}, sg nx h l e → ∀ x ∈ l, x ≠ 0
  | [], _, _, _, x, hx => by cases hx
  | y :: l, h, e, ⟨_, b, c⟩, x, hx => by
    rcases List.mem_cons.mp hx with rfl | hx
    · exact b
    · exact sg_ne c x hx
theorem sg_lt {nx : Nat → Nat} {N : Nat} (hN : ∀ x, x < N → nx x < N) : ∀ {l : List Nat} {h e : Nat}, h < N → sg nx h l e → ∀ x ∈ l, x < N
  | [], _, _, _, _, x, hx => by cases hx
  | y :: l, h, e, hl, ⟨a, _, c⟩, x, hx => by
    rcases List.mem_cons.mp hx with rfl | hx
    · omega
    · exact sg_lt hN (hN y (by omega)) c x hx
def fup (f : Nat → Nat) (k x : Nat) : Nat → Nat := fun j => if j = k then x else f j
theorem fup_self (f : Nat → Nat) (k x : Nat) : fup f k x k = x := by simp [fup]
theorem fup_ne (f : Nat → Nat) {k j : Nat} (x : Nat) (h : j ≠ k) : fup f k x j = f j := by simp [fup, h]
/-- the forest: every child's list, what lies nowhere has no sibling, every way up ends -/
def FOp (pa ch sb : Nat → Nat) (kids : Nat → List Nat) : Prop :=
  (∀ p, 1 ≤ p → p < 41 → sg sb (ch p) (kids p) 0 ∧ ∀ x, x ∈ kids p ↔ (1 ≤ x ∧ x < 41 ∧ pa x = p)) ∧ (∀ x, 1 ≤ x → x < 41 → pa x = 0 → sb x = 0) ∧ ∀ x, 1 ≤ x → x < 41 → ∃ l, sg pa x l 0
/-- the way up behind a cut -/
theorem up_cut {pa : Nat → Nat} {o : Nat} (h : ∀ x, 1 ≤ x → x < 41 → ∃ l, sg pa x l 0) : ∀ x, 1 ≤ x → x < 41 → ∃ l, sg (fup pa o 0) x l 0 := by
  intro x h1 h2
  obtain ⟨l, hl⟩ := h x h1 h2
  by_cases q : o ∈ l
  · obtain ⟨l1, l2, e⟩ := List.append_of_mem q
    have hn := sg_nodup hl
    rw [e] at hl hn
    obtain ⟨m, q1, q2⟩ := sg_app.mp hl
    refine ⟨l1 ++ [o], sg_app.mpr ⟨m, sg_cong (fun y hy => fup_ne _ _ (fun z => ?_)) q1, q2.1, q2.2.1, by rw [fup_self]; rfl⟩⟩
    subst z
    exact (List.pairwise_append.mp hn).2.2 y hy y List.mem_cons_self rfl
  · exact ⟨l, sg_cong (fun y hy => fup_ne _ _ (fun z => q (z ▸ hy))) hl⟩
/-- the way up behind a join -/
theorem up_join {pa : Nat → Nat} {a b : Nat} (h : ∀ x, 1 ≤ x → x < 41 → ∃ l, sg pa x l 0) (ha : pa a = 0) {lb : List Nat} (hb : sg pa b lb 0) (hab : a ∉ lb) (hb0 : b ≠ 0) : ∀ x, 1 ≤ x → x < 41 → ∃ l, sg (fup pa a b) x l 0 := by
  intro x h1 h2
  obtain ⟨l, hl⟩ := h x h1 h2
  by_cases q : a ∈ l
  · obtain ⟨l1, l2, e⟩ := List.append_of_mem q
    have hn := sg_nodup hl
    rw [e] at hl hn
    obtain ⟨m, q1, q2⟩ := sg_app.mp hl
    refine ⟨l1 ++ a :: lb, sg_app.mpr ⟨m, sg_cong (fun y hy => fup_ne _ _ (fun z => ?_)) q1, q2.1, q2.2.1, by rw [fup_self]; exact sg_cong (fun y hy => fup_ne _ _ (fun z => hab (z ▸ hy))) hb⟩⟩
    subst z
    exact (List.pairwise_append.mp hn).2.2 y hy y List.mem_cons_self rfl
  · exact ⟨l, sg_cong (fun y hy => fup_ne _ _ (fun z => q (z ▸ hy))) hl⟩
/-- taken out of its parent's list, as the first one or behind k -/
theorem FO_leave {pa ch sb : Nat → Nat} {kids : Nat → List Nat} (h : FOp pa ch sb kids) {o : Nat} (h1 : 1 ≤ o) (h2 : o < 41) (hp : pa o ≠ 0) (hpl : pa o < 41) :
    (ch (pa o) = o ∧ ∃ kids', FOp (fup pa o 0) (fup ch (pa o) (sb o)) (fup sb o 0) kids') ∨ (ch (pa o) ≠ o ∧ ∃ (l1 : List Nat) (k : Nat) (kids' : Nat → List Nat), sg sb (ch (pa o)) (l1 ++ [k]) o ∧ o ∉ l1 ++ [k] ∧ (l1 ++ [k]).Nodup ∧ (∀ x ∈ l1 ++ [k], x < 41) ∧ FOp (fup pa o 0) ch (fup (fup sb k (sb o)) o 0) kids') := by
  obtain ⟨hk, hm⟩ := h.1 (pa o) (by omega) hpl
  obtain ⟨l1, l2, e⟩ := List.append_of_mem ((hm o).mpr ⟨h1, h2, rfl⟩)
  have hn := sg_nodup hk
  rw [e] at hk hn
  obtain ⟨m, q1, q2⟩ := sg_app.mp hk
  have hmo : m = o := q2.1
  subst hmo
  have hn1 := List.pairwise_append.mp hn
  have ho1 : m ∉ l1 := fun z => hn1.2.2 m z m List.mem_cons_self rfl
  have ho2 : m ∉ l2 := (List.nodup_cons.mp hn1.2.1).1
  have hother : ∀ p, 1 ≤ p → p < 41 → p ≠ pa m → ∀ y, y ∈ kids p → y ∉ l1 ∧ y ≠ m ∧ y ∉ l2 := fun p hp1 hp2 hpp y hy => by
    have hy2 := ((h.1 p hp1 hp2).2 y).mp hy
    have : y ∉ kids (pa m) := fun z => hpp (by rw [← hy2.2.2]; exact ((hm y).mp z).2.2)
    rw [e] at this
    simp at this
    exact ⟨this.1, this.2.1, this.2.2⟩
  have hkl : ∀ x ∈ l1, x < 41 := fun x hx => ((hm x).mp (by rw [e]; exact List.mem_append_left _ hx)).2.1
  -- who lies where, behind it
  have hmem : ∀ p, 1 ≤ p → p < 41 → ∀ x, x ∈ (if p = pa m then l1 ++ l2 else kids p) ↔ (1 ≤ x ∧ x < 41 ∧ fup pa m 0 x = p) := fun p hp1 hp2 x => by
    by_cases hpp : p = pa m
    · rw [if_pos hpp]
      constructor
      · intro hx
        have hx2 : x ∈ kids (pa m) := by
          rw [e]
          rcases List.mem_append.mp hx with z | z
          · exact List.mem_append_left _ z
          · exact List.mem_append_right _ (List.mem_cons_of_mem _ z)
        have hxm : x ≠ m := fun z => by
          subst z
          rcases List.mem_append.mp hx with z | z
          · exact ho1 z
          · exact ho2 z
        obtain ⟨g1, g2, g3⟩ := (hm x).mp hx2
        exact ⟨g1, g2, by rw [fup_ne _ _ hxm, g3, hpp]⟩
      · rintro ⟨g1, g2, g3⟩
        by_cases hxm : x = m
        · subst hxm; rw [fup_self] at g3; omega
        · rw [fup_ne _ _ hxm] at g3
          have hx2 := (hm x).mpr ⟨g1, g2, by rw [g3, hpp]⟩
          rw [e] at hx2
          rcases List.mem_append.mp hx2 with z | z
          · exact List.mem_append_left _ z
          · rcases List.mem_cons.mp z with z | z
            · exact absurd z hxm
            · exact List.mem_append_right _ z
    · rw [if_neg hpp, (h.1 p hp1 hp2).2 x]
      by_cases hxm : x = m
      · subst hxm
        rw [fup_self]
        constructor
        · rintro ⟨-, -, g3⟩; exact absurd g3.symm hpp
        · rintro ⟨-, -, g3⟩; omega
      · rw [fup_ne _ _ hxm]
  have hup := up_cut (o := m) h.2.2
  rcases List.eq_nil_or_concat l1 with z | ⟨l1', k, z⟩
  · left
    subst z
    have hc : ch (pa m) = m := q1
    refine ⟨hc, fun p => if p = pa m then l2 else kids p, ⟨fun p hp1 hp2 => ⟨?_, hmem p hp1 hp2⟩, fun x g1 g2 g3 => ?_, hup⟩⟩
    · dsimp only
      by_cases hpp : p = pa m
      · rw [if_pos hpp, hpp, fup_self]
        exact sg_cong (fun y hy => fup_ne _ _ (fun z => ho2 (z ▸ hy))) q2.2.2
      · rw [if_neg hpp, fup_ne _ _ hpp]
        exact sg_cong (fun y hy => fup_ne _ _ (hother p hp1 hp2 hpp y hy).2.1) (h.1 p hp1 hp2).1
    · by_cases hxm : x = m
      · subst hxm; rw [fup_self]
      · rw [fup_ne _ _ hxm] at g3
        rw [fup_ne _ _ hxm]
        exact h.2.1 x g1 g2 g3
  · right
    subst z
    rw [List.concat_eq_append] at *
    have hnl := hn1.1
    have hnl2 := List.pairwise_append.mp hnl
    have hkm : k ≠ m := fun z => ho1 (by rw [← z]; simp)
    have hk1 : k ∉ l1' := fun z => hnl2.2.2 k z k (by simp) rfl
    have hk2 : k ∉ l2 := fun z => hn1.2.2 k (by simp) k (List.mem_cons_of_mem _ z) rfl
    obtain ⟨m2, r1, r2⟩ := sg_app.mp q1
    have hcm : ch (pa m) ≠ m := fun z => by
      cases l1' with
      | nil => exact hkm (by rw [← z]; exact (show m2 = k from r2.1).symm.trans (show ch (pa m) = m2 from r1).symm)
      | cons y l => exact ho1 (by rw [← z, (show ch (pa m) = y from r1.1)]; simp)
    refine ⟨hcm, l1', k, fun p => if p = pa m then (l1' ++ [k]) ++ l2 else kids p, q1, ho1, hnl, hkl, ⟨fun p hp1 hp2 => ⟨?_, hmem p hp1 hp2⟩, fun x g1 g2 g3 => ?_, hup⟩⟩
    · dsimp only
      by_cases hpp : p = pa m
      · rw [if_pos hpp, hpp]
        refine sg_app.mpr ⟨sb m, sg_app.mpr ⟨m2, sg_cong (fun y hy => ?_) r1, r2.1, r2.2.1, ?_⟩, sg_cong (fun y hy => ?_) q2.2.2⟩
        · have z1 : y ≠ m := fun z => ho1 (by rw [← z]; simp [hy])
          have z2 : y ≠ k := fun z => hk1 (z ▸ hy)
          rw [fup_ne _ _ z1, fup_ne _ _ z2]
        · rw [fup_ne _ _ hkm, fup_self]; rfl
        · have z1 : y ≠ m := fun z => ho2 (z ▸ hy)
          have z2 : y ≠ k := fun z => hk2 (z ▸ hy)
          rw [fup_ne _ _ z1, fup_ne _ _ z2]
      · rw [if_neg hpp]
        refine sg_cong (fun y hy => ?_) (h.1 p hp1 hp2).1
        have := hother p hp1 hp2 hpp y hy
        rw [fup_ne _ _ this.2.1, fup_ne _ _ (fun z => this.1 (by rw [z]; simp))]
    · by_cases hxm : x = m
      · subst hxm; rw [fup_self]
      · rw [fup_ne _ _ hxm] at g3
        rw [fup_ne _ _ hxm]
        by_cases hxk : x = k
        · subst hxk
          have := ((hm x).mp (by rw [e]; simp)).2.2
          omega
        · rw [fup_ne _ _ hxk]
          exact h.2.1 x g1 g2 g3
/-- laid into b, ahead of its children -/
theorem FO_join {pa ch sb : Nat → Nat} {kids : Nat → List Nat} (h : FOp pa ch sb kids) {a b : Nat} (h1 : 1 ≤ a) (h2 : a < 41) (g1 : 1 ≤ b) (g2 : b < 41) (hp : pa a = 0) {lb : List Nat} (hb : sg pa b lb 0) (hab : a ∉ lb) : ∃ kids', FOp (fup pa a b) (fup ch b a) (fup sb a (ch b)) kids' := by
  have hano : ∀ p, 1 ≤ p → p < 41 → a ∉ kids p := fun p p1 p2 z => by
    have := ((h.1 p p1 p2).2 a).mp z
    omega
  refine ⟨fun p => if p = b then a :: kids b else kids p, ⟨fun p p1 p2 => ⟨?_, fun x => ?_⟩, fun x x1 x2 x3 => ?_, up_join h.2.2 hp hb hab (by omega)⟩⟩
  · dsimp only
    by_cases q : p = b
    · subst q
      rw [if_pos rfl, fup_self]
      refine ⟨rfl, by omega, ?_⟩
      rw [fup_self]
      exact sg_cong (fun y hy => fup_ne _ _ (fun z => hano p p1 p2 (z ▸ hy))) (h.1 p p1 p2).1
    · rw [if_neg q, fup_ne _ _ q]
      exact sg_cong (fun y hy => fup_ne _ _ (fun z => hano p p1 p2 (z ▸ hy))) (h.1 p p1 p2).1
  · dsimp only
    by_cases q : p = b
    · subst q
      rw [if_pos rfl, List.mem_cons, (h.1 p p1 p2).2 x]
      by_cases z : x = a
      · subst z; rw [fup_self]; simp [h1, h2]
      · rw [fup_ne _ _ z]; simp [z]
    · rw [if_neg q, (h.1 p p1 p2).2 x]
      by_cases z : x = a
      · subst z; rw [fup_self, hp]
        constructor
        · rintro ⟨-, -, w⟩; omega
        · rintro ⟨-, -, w⟩; exact absurd w.symm q
      · rw [fup_ne _ _ z]
  · by_cases z : x = a
    · subst z; rw [fup_self] at x3; omega
    · rw [fup_ne _ _ z] at x3
      rw [fup_ne _ _ z]
      exact h.2.1 x x1 x2 x3
