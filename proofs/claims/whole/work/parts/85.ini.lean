/-! ===== THE START: the two stand alike ===== -/
def E00 (b : Int32) : xD := xdu (fun _ _ => 0) 0 0 b
theorem E00_j {b : Int32} {j : Nat} (h : j ≠ 0) : E00 b j = fun _ => 0 := by
  unfold E00
  rw [xdu_ne _ _ _ h]
theorem E00_0 {b : Int32} {k : Nat} (h : k ≠ 0) : E00 b 0 k = 0 := by
  unfold E00
  rw [xdu_self, upd_ne _ _ h]
theorem E00_00 {b : Int32} : E00 b 0 0 = b := by
  unfold E00
  rw [xdu_self, upd_self]
theorem ix_00 : ix 0 = 0 := by decide
theorem vp_00 {n : Nat} (h : 0 < n) (h2 : n < 2 ^ 31) : vp_in 0 n := vi_of (n := 0) h h2
theorem FO_0 {E : xD} (h : ∀ j, j ≠ 0 → E j = fun _ => 0) : FO E := by
  refine ⟨fun _ => [], ?_⟩
  have n19 : nat E 19 = fun _ => 0 := by
    funext x
    show ix (E 19 x) = 0
    rw [h 19 (by decide), ix_00]
  have n20 : nat E 20 = fun _ => 0 := by
    funext x
    show ix (E 20 x) = 0
    rw [h 20 (by decide), ix_00]
  have n21 : nat E 21 = fun _ => 0 := by
    funext x
    show ix (E 21 x) = 0
    rw [h 21 (by decide), ix_00]
  rw [n19, n20, n21]
  refine ⟨fun p p1 p2 => ⟨rfl, fun x => ⟨fun q => absurd q List.not_mem_nil, fun q => absurd q.2.2 (by show ¬ 0 = p; omega)⟩⟩, fun x _ _ _ => rfl, fun x x1 x2 => ⟨[x], ?_⟩⟩
  exact ⟨rfl, by omega, rfl⟩
theorem Iv_0 {b : Int32} : Iv (E00 b) := by
  refine ⟨⟨⟨?_, ?_, ?_, ?_, ?_, ?_, ?_, ?_⟩, ?_, ?_, ?_, ?_, ?_, ?_, ?_, ?_, ?_, ?_⟩, ⟨?_, ?_, ?_⟩, FO_0 (fun j h => E00_j h), ?_⟩
  all_goals first
    | (rw [E00_0 (by decide)]; exact vp_00 (by decide) (by decide))
    | skip
  · intro t _; rw [E00_j (by decide)]; exact vp_00 (by decide) (by decide)
  · intro t _; rw [E00_j (by decide)]; exact vp_00 (by decide) (by decide)
  · intro t _; rw [E00_j (by decide)]; exact vp_00 (by decide) (by decide)
  · intro t _; rw [E00_j (by decide)]; exact vp_00 (by decide) (by decide)
  · intro t _; rw [E00_j (by decide)]; exact vp_00 (by decide) (by decide)
  · intro t _; rw [E00_j (by decide)]; exact vp_00 (by decide) (by decide)
  · intro t _; rw [E00_j (by decide), E00_j (by decide), E00_j (by decide)]; exact ⟨vp_00 (by decide) (by decide), vp_00 (by decide) (by decide), vp_00 (by decide) (by decide)⟩
  · intro t _ q; rw [E00_j (by decide)] at q; exact absurd rfl q
  · intro t _; rw [E00_j (by decide)]; exact Or.inl rfl
  · intro t _; rw [E00_j (by decide)]; exact vp_00 (by decide) (by decide)
  · intro t _; rw [E00_j (by decide)]; exact vp_00 (by decide) (by decide)
  · intro v hv
    refine ⟨⟨?_, fun k hk => ?_, fun a c ha => ?_⟩, fun k hk => ?_, fun _ => ?_⟩
    · rw [E00_j (by decide)]; exact vp_00 (by decide) (by decide)
    · rw [E00_j (by decide)] at hk; exact absurd hk (by show ¬ k < ix 0; rw [ix_00]; omega)
    · rw [E00_j (by decide)] at ha; exact absurd ha (by show ¬ a < ix 0; rw [ix_00]; omega)
    · rw [E00_j (by decide)] at hk; exact absurd hk (by show ¬ k < ix 0; rw [ix_00]; omega)
    · rw [E00_j (by decide)]
  · intro c hc i i1 i2 q
    rw [E00_j (by decide)] at q
    exact absurd rfl q
theorem Fsh_0 {b : Int32} (hb : b = 0 ∨ b = 1) : Fsh (E00 b) := by
  refine ⟨fun r _ _ => by rw [E00_j (by decide)], fun a i _ _ _ => by rw [E00_j (by decide)], fun v _ _ => ⟨by rw [E00_j (by decide)], by rw [E00_j (by decide)], by rw [E00_j (by decide)], by rw [E00_j (by decide)], fun n _ => by rw [E00_j (by decide)]⟩, fun v _ => ⟨Or.inl (by rw [E00_j (by decide)]), Or.inl (by rw [E00_j (by decide)]), Or.inl (by rw [E00_j (by decide)])⟩, Or.inl (E00_0 (by decide)), ?_⟩
  rw [E00_00]
  exact hb
theorem Sim_ini {G : xG} {D : xD} {R r : xR} {b : Int32} (h : St 47 r (xdu (xdu (fun _ _ => 0) 13 3 b) 17 0 b) G D R) (hr : ∀ w ∈ fxR, r w.1 w.2.1 = some w.2.2) (r07 : r 0 7 = some 11) (r11 : r 11 0 = some 12) (rn : ∀ k, r 2 k = none) (hb : b = 0 ∨ b = 1) : Sim D R G (E00 b) ∧ D = mg D (E00 b) := by
  obtain ⟨hG, hq, hR⟩ := h
  have dz : ∀ q, q < 47 → q ≠ 13 → q ≠ 17 → D q = fun _ => 0 := fun q a c d => by rw [(hq q a).2, xdu_ne _ _ _ d, xdu_ne _ _ _ c]
  have d13 : D 13 = upd (fun _ => 0) 3 b := by rw [(hq 13 (by decide)).2, xdu_ne _ _ _ (by decide), xdu_self]
  have d17 : D 17 = upd (fun _ => 0) 0 b := by rw [(hq 17 (by decide)).2, xdu_self, xdu_ne _ _ _ (by decide)]
  have R0 : R 0 = r 0 := hR 0 (by decide) (Or.inl (by decide))
  have R2 : R 2 = r 2 := hR 2 (by decide) (Or.inr (by decide))
  have R11 : R 11 = r 11 := hR 11 (by decide) (Or.inl (by decide))
  have hX : xFix G R := by
    refine ⟨by omega, fun q z => (hq q z).1, fun w hw => ?_⟩
    have w47 := fxR_47 w hw
    rw [hR w.1 (by omega) (Or.inl ((show ∀ w ∈ fxR, (fxK w.1).1 < 16 by decide) w hw))]
    exact hr w hw
  refine ⟨⟨hX, Iv_0, Fsh_0 hb, ?_, ?_, ?_, ?_, ?_, ?_, ?_, ?_, ?_⟩, ?_⟩
  · unfold cA
    rw [dz 0 (by decide) (by decide) (by decide), E00_0 (by decide), E00_0 (by decide), E00_0 (by decide), E00_0 (by decide), E00_0 (by decide), E00_0 (by decide)]
    exact ⟨rfl, rfl, rfl, rfl, rfl, rfl⟩
  · unfold cFl
    rw [d13, upd_self, E00_00, E00_0 (by decide)]
    exact ⟨rfl, rfl, fun i hi => absurd hi (by rw [ix_00]; omega)⟩
  · unfold cOu
    rw [dz 9 (by decide) (by decide) (by decide), dz 10 (by decide) (by decide) (by decide), E00_0 (by decide), E00_j (by decide)]
    exact ⟨rfl, rfl⟩
  · unfold cTr
    rw [dz 6 (by decide) (by decide) (by decide), dz 7 (by decide) (by decide) (by decide), dz 8 (by decide) (by decide) (by decide), E00_j (by decide), E00_j (by decide), E00_j (by decide)]
    exact ⟨rfl, rfl, rfl⟩
  · refine ⟨11, by rw [R0]; exact r07, ⟨⟨by omega, (hq 11 (by decide)).1⟩, by rw [R11]; exact r11, ⟨by omega, (hq 12 (by decide)).1⟩, ?_, ?_, fun k hk => ?_⟩, fun t _ q => ?_⟩
    · rw [dz 11 (by decide) (by decide) (by decide), E00_0 (by decide)]
    · rw [E00_0 (by decide)]; exact vp_00 (by decide) (by decide)
    · rw [E00_0 (by decide)] at hk; exact absurd hk (by rw [ix_00]; omega)
    · rw [R2, rn] at q; cases q
  · refine ⟨fun t ht => ?_, fun t _ _ => by rw [R2]; exact rn t⟩
    rw [E00_0 (by decide)] at ht; exact absurd ht (by rw [ix_00]; omega)
  · refine ⟨fun t ht => ?_, fun t t' c ht => ?_⟩
    · rw [E00_0 (by decide)] at ht; exact absurd ht (by rw [ix_00]; omega)
    · rw [E00_0 (by decide)] at ht; exact absurd ht (by rw [ix_00]; omega)
  · refine ⟨fun t ht => ?_, fun t t' c ht => ?_⟩
    · rw [E00_0 (by decide)] at ht; exact absurd ht (by rw [ix_00]; omega)
    · rw [E00_0 (by decide)] at ht; exact absurd ht (by rw [ix_00]; omega)
  · refine ⟨fun t t1 ht => ?_, fun t t' c t1 ht => ?_⟩
    · rw [E00_0 (by decide), ix_00] at ht; omega
    · rw [E00_0 (by decide), ix_00] at ht; omega
  · funext q
    unfold mg
    by_cases z : 17 ≤ q ∧ q < 47
    · rw [if_pos z]
      by_cases z2 : q = 17
      · subst z2
        rw [d17]
        funext k
        show upd (fun _ => 0) 0 b k = E00 b 0 k
        unfold E00
        rw [xdu_self]
      · rw [dz q z.2 (by omega) z2, E00_j (by omega)]
    · rw [if_neg z]
