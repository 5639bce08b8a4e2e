theorem tw1 (i : Nat) {w : Cond} (h : tables_1_1[i]? = some w) : w ∈ lw_tbl := List.mem_append_right _ (List.mem_append_left _ (List.mem_of_getElem? h))
theorem tw2 (i : Nat) {w : Cond} (h : tables_1_2[i]? = some w) : w ∈ lw_tbl := List.mem_append_right _ (List.mem_append_right _ (List.mem_append_left _ (List.mem_of_getElem? h)))
theorem tw3 (i : Nat) {w : Cond} (h : tables_1_3[i]? = some w) : w ∈ lw_tbl := List.mem_append_right _ (List.mem_append_right _ (List.mem_append_right _ (List.mem_append_left _ (List.mem_of_getElem? h))))
theorem tw4 (i : Nat) {w : Cond} (h : tables_1_4[i]? = some w) : w ∈ lw_tbl := List.mem_append_right _ (List.mem_append_right _ (List.mem_append_right _ (List.mem_append_right _ (List.mem_append_left _ (List.mem_of_getElem? h)))))
theorem tw5 (i : Nat) {w : Cond} (h : tables_1_5[i]? = some w) : w ∈ lw_tbl := List.mem_append_right _ (List.mem_append_right _ (List.mem_append_right _ (List.mem_append_right _ (List.mem_append_right _ (List.mem_of_getElem? h)))))

theorem st_cls {s : State} {args : Array Value} (hts : ∀ w ∈ xT, w.before args s = true) : ∃ D : va_G, ∀ (c : Nat) (q : vw_C), vwCl[c]? = some q → u_Kn s q.1 q.2.1 q.2.2 (D.1 c) (D.2 c) := by
  have h : ∀ c : Nat, ∃ z : ClassId × (Nat → Nat), ∀ q : vw_C, vwCl[c]? = some q → u_Kn s q.1 q.2.1 q.2.2 z.1 z.2 := by
    intro c
    rcases (show c = 0 ∨ c = 1 ∨ c = 2 ∨ c = 3 ∨ c = 4 ∨ c = 5 ∨ c = 6 ∨ c = 7 ∨ c = 8 ∨ c = 9 ∨ c = 10 ∨ 11 ≤ c by omega) with rfl | rfl | rfl | rfl | rfl | rfl | rfl | rfl | rfl | rfl | rfl | h
    · obtain ⟨a, i, k⟩ := u_known (C := RX0) (T := TX0) (N := 5) (n := 5) hts inT0 (hts _ xw1_82)
      exact ⟨(a, i), fun q hq => by
        have e : (RX0, TX0, 5) = q := Option.some.inj hq
        subst e
        exact k⟩
    · obtain ⟨a, i, k⟩ := u_known (C := RX1) (T := TX1) (N := 2) (n := 2) hts inT1 (hts _ xw1_219)
      exact ⟨(a, i), fun q hq => by
        have e : (RX1, TX1, 2) = q := Option.some.inj hq
        subst e
        exact k⟩
    · obtain ⟨a, i, k⟩ := u_known (C := RX2) (T := TX2) (N := 2) (n := 2) hts inT2 (hts _ xw1_53)
      exact ⟨(a, i), fun q hq => by
        have e : (RX2, TX2, 2) = q := Option.some.inj hq
        subst e
        exact k⟩
    · obtain ⟨a, i, k⟩ := u_known (C := RX3) (T := TX3) (N := 4) (n := 4) hts inT3 (hts _ xw1_163)
      exact ⟨(a, i), fun q hq => by
        have e : (RX3, TX3, 4) = q := Option.some.inj hq
        subst e
        exact k⟩
    · obtain ⟨a, i, k⟩ := u_known (C := RX4) (T := TX4) (N := 2) (n := 2) hts inT4 (hts _ xw2_19)
      exact ⟨(a, i), fun q hq => by
        have e : (RX4, TX4, 2) = q := Option.some.inj hq
        subst e
        exact k⟩
    · obtain ⟨a, i, k⟩ := u_known (C := RX5) (T := TX5) (N := 2) (n := 2) hts inT5 (hts _ xw1_67)
      exact ⟨(a, i), fun q hq => by
        have e : (RX5, TX5, 2) = q := Option.some.inj hq
        subst e
        exact k⟩
    · obtain ⟨a, i, k⟩ := u_known (C := RX6) (T := TX6) (N := 7) (n := 7) hts inT6 (hts _ xw2_13)
      exact ⟨(a, i), fun q hq => by
        have e : (RX6, TX6, 7) = q := Option.some.inj hq
        subst e
        exact k⟩
    · obtain ⟨a, i, k⟩ := u_known (C := RX7) (T := TX7) (N := 3) (n := 3) hts inT7 (hts _ xw1_36)
      exact ⟨(a, i), fun q hq => by
        have e : (RX7, TX7, 3) = q := Option.some.inj hq
        subst e
        exact k⟩
    · obtain ⟨a, i, k⟩ := u_known (C := RX8) (T := TX8) (N := 2) (n := 2) hts inT8 (hts _ xw2_120)
      exact ⟨(a, i), fun q hq => by
        have e : (RX8, TX8, 2) = q := Option.some.inj hq
        subst e
        exact k⟩
    · obtain ⟨a, i, k⟩ := u_known (C := RX9) (T := TX9) (N := 14) (n := 14) hts inT9 (hts _ xw1_20)
      exact ⟨(a, i), fun q hq => by
        have e : (RX9, TX9, 14) = q := Option.some.inj hq
        subst e
        exact k⟩
    · obtain ⟨a, i, k⟩ := u_known (C := RX10) (T := TX10) (N := 43) (n := 43) hts inT10 (hts _ xw4_50)
      exact ⟨(a, i), fun q hq => by
        have e : (RX10, TX10, 43) = q := Option.some.inj hq
        subst e
        exact k⟩
    · exact ⟨((0 : Nat), fun _ => 0), fun q hq => by
        rw [List.getElem?_eq_none (by show 11 ≤ c; exact h)] at hq
        cases hq⟩
  obtain ⟨g, hg⟩ := Classical.axiomOfChoice h
  exact ⟨(fun c => (g c).1, fun c => (g c).2), fun c q hq => hg c q hq⟩
theorem st_arp {s : State} {args : Array Value} {ty : FieldType} (hp : ∀ c, ty ≠ .object c) (h : (Cond.arrayClass ty).before args s = true) : ∃ cA, ArrOfT s cA ty ∧ va_RA s cA ty := by
  obtain ⟨c, k, comp, h1, h2, h3⟩ := Cond.arrayClass_spec h
  refine ⟨c, fun n z => ⟨fun k h => (by cases h), k, h2, comp, h3⟩, ?_⟩
  cases ty with
  | object C => exact absurd rfl (hp C)
  | _ => exact h1
theorem st_arq {s : State} {args : Array Value} {C : String} (h : (Cond.arrayOver (.object C)).before args s = true) : ∃ cA, ArrOfT s cA (.object C) ∧ va_RA s cA (.object C) := by
  obtain ⟨comp, c, k, f4, -, f2, f3, f1⟩ := Cond.arrayOver_spec h
  exact ⟨c, fun N z => ⟨(fun k h => by cases h), k, f2, comp, f3⟩, k, comp, f2, f3, f4, f1⟩
theorem st_arr {s : State} {args : Array Value} (htl : ∀ w ∈ lw_tbl, w.before args s = true) : ∃ tA : Nat → ClassId, ∀ t, t < 7 → ArrOfT s (tA t) (xAt t) ∧ va_RA s (tA t) (xAt t) := by
  have hts : ∀ w ∈ xT, w.before args s = true := fun w hw => htl w (List.mem_filter.mp hw).1
  have h : ∀ t : Nat, ∃ cA : ClassId, t < 7 → ArrOfT s cA (xAt t) ∧ va_RA s cA (xAt t) := by
    intro t
    rcases (show t = 0 ∨ t = 1 ∨ t = 2 ∨ t = 3 ∨ t = 4 ∨ t = 5 ∨ t = 6 ∨ 7 ≤ t by omega) with rfl | rfl | rfl | rfl | rfl | rfl | rfl | h
    · obtain ⟨c, hc⟩ := st_arp (by nofun) (hts _ xac0)
      exact ⟨c, fun _ => hc⟩
    · obtain ⟨c, hc⟩ := st_arp (by nofun) (hts _ xac1)
      exact ⟨c, fun _ => hc⟩
    · obtain ⟨c, hc⟩ := st_arp (by nofun) (hts _ xac2)
      exact ⟨c, fun _ => hc⟩
    · obtain ⟨c, hc⟩ := st_arq (C := RX6) (htl _ (tw1 28 (by decide +kernel)))
      exact ⟨c, fun _ => hc⟩
    · obtain ⟨c, hc⟩ := st_arq (C := RX5) (htl _ (tw1 30 (by decide +kernel)))
      exact ⟨c, fun _ => hc⟩
    · obtain ⟨c, hc⟩ := st_arq (C := RX3) (htl _ (tw1 32 (by decide +kernel)))
      exact ⟨c, fun _ => hc⟩
    · obtain ⟨c, hc⟩ := st_arq (C := RX8) (htl _ (tw1 34 (by decide +kernel)))
      exact ⟨c, fun _ => hc⟩
    · exact ⟨(0 : Nat), fun q => absurd q (by omega)⟩
  obtain ⟨g, hg⟩ := Classical.axiomOfChoice h
  exact ⟨g, fun t ht => hg t ht⟩
/-! the text constants -/
def stm (i : Nat) : Term := Term.string (xStr.getD i ("", 0, "")).1 (xStr.getD i ("", 0, "")).2.1
def nFl : List Cond := flatC (Jvm.Cond.and given_1 narrow_1)
theorem nf1 : ∀ i, i < 9 → Cond.exactly (stm i) "java/lang/String" ∈ nFl ∧ Cond.eq (.field (stm i) "java/lang/String" "coder" "B") (.int 0) ∈ nFl ∧ Cond.arrayOf (.field (stm i) "java/lang/String" "value" "[B") .byte ∈ nFl ∧ Cond.eq (.length (.field (stm i) "java/lang/String" "value" "[B")) (.int (Int32.ofNat (xLen.getD i 0))) ∈ nFl := by decide +kernel
theorem nf2 : ∀ i, i < 9 → ∀ j, j < xLen.getD i 0 → Cond.eq (.elem (.field (stm i) "java/lang/String" "value" "[B") (.int (Int32.ofNat j))) (.int ((xByt.getD i []).getD j 0)) ∈ nFl := by decide +kernel
theorem nf3 : ∀ j, j < 9 → ∀ i, i < j → Cond.not (Cond.eq (stm i) (stm j)) ∈ nFl := by decide +kernel
theorem nf4 : Cond.eq (.static "java/lang/String" "COMPACT_STRINGS" "Z") (.int 1) ∈ nFl ∧ Cond.isRef (.static "jdk/internal/util/Preconditions" "SIOOBE_FORMATTER" "Ljava/util/function/BiFunction;") ∈ nFl := by decide +kernel
theorem st_str {s : State} {args : Array Value} {A : Nat → Prop} (hg : (Jvm.Cond.and given_1 narrow_1).before args s = true) (hA : ∀ a : Nat, a < s.heap.size → ¬ A a) : ∃ adK adV : Nat → Nat, vk_S 9 xLen xByt adK adV A s s.heap ∧ ∀ i : Nat, i < 9 → (stm i).eval args s none [] s = some (.ref (adK i)) := by
  have hf : ∀ w ∈ nFl, w.before args s = true := flat_of_before _ hg
  refine vk_Sof (tm := stm) (by decide) (fun i hi => hf _ (nf1 i hi).1) (fun i hi => hf _ (nf1 i hi).2.1) (fun i hi => hf _ (nf1 i hi).2.2.1) (fun i hi => hf _ (nf1 i hi).2.2.2) (fun i hi j hj => hf _ (nf2 i hi j hj)) (fun i j hi hj hij => ?_) hA
  rcases Nat.lt_or_gt_of_ne hij with q | q
  · exact Or.inl (hf _ (nf3 j hj i q))
  · exact Or.inr (hf _ (nf3 i hi j q))
theorem sr9 : ∀ i, i < 9 → Cond.stringRef (xStr.getD i ("", 0, "")).1 (xStr.getD i ("", 0, "")).2.1 (xStr.getD i ("", 0, "")).2.2 ∈ lw_tbl := by
  intro i hi
  rcases (show i = 0 ∨ i = 1 ∨ i = 2 ∨ i = 3 ∨ i = 4 ∨ i = 5 ∨ i = 6 ∨ i = 7 ∨ i = 8 by omega) with rfl | rfl | rfl | rfl | rfl | rfl | rfl | rfl | rfl
  · exact (tw3 69 (by decide +kernel))
  · exact (tw3 70 (by decide +kernel))
  · exact (tw3 127 (by decide +kernel))
  · exact (tw3 135 (by decide +kernel))
  · exact (tw3 140 (by decide +kernel))
  · exact (tw3 201 (by decide +kernel))
  · exact (tw3 202 (by decide +kernel))
  · exact (tw3 203 (by decide +kernel))
  · exact (tw3 204 (by decide +kernel))
theorem ns6 : ∀ w ∈ xNest, Cond.methodLinkNest w.1 w.2.1 w.2.2.1 w.2.2.2 ∈ lw_tbl := List.forall_mem_cons.mpr ⟨(tw1 37 (by decide +kernel)), List.forall_mem_cons.mpr ⟨(tw1 54 (by decide +kernel)), List.forall_mem_cons.mpr ⟨(tw1 68 (by decide +kernel)), List.forall_mem_cons.mpr ⟨(tw1 164 (by decide +kernel)), List.forall_mem_cons.mpr ⟨(tw1 220 (by decide +kernel)), List.forall_mem_cons.mpr ⟨(tw2 20 (by decide +kernel)), fun _ h => absurd h List.not_mem_nil⟩⟩⟩⟩⟩⟩
theorem ov4 : ∀ C ∈ xOv, Cond.arrayOver (.object C) ∈ lw_tbl := List.forall_mem_cons.mpr ⟨(tw1 28 (by decide +kernel)), List.forall_mem_cons.mpr ⟨(tw1 30 (by decide +kernel)), List.forall_mem_cons.mpr ⟨(tw1 32 (by decide +kernel)), List.forall_mem_cons.mpr ⟨(tw1 34 (by decide +kernel)), fun _ h => absurd h List.not_mem_nil⟩⟩⟩⟩
theorem st_w1 : Cond.laysStatic "java/lang/String" "COMPACT_STRINGS" "Z" ∈ lw_tbl ∧ Cond.initialized "java/lang/String" ∈ lw_tbl := ⟨(tw3 84 (by decide +kernel)), (tw1 13 (by decide +kernel))⟩
theorem st_w2 : Cond.laysStatic "jdk/internal/util/Preconditions" "SIOOBE_FORMATTER" "Ljava/util/function/BiFunction;" ∈ lw_tbl ∧ Cond.initialized "jdk/internal/util/Preconditions" ∈ lw_tbl := ⟨(tw3 100 (by decide +kernel)), (tw1 15 (by decide +kernel))⟩
theorem i32_back (x : Int32) : Int32.ofNat x.toUInt32.toNat = x := by
  apply Int32.toBitVec_inj.mp
  simp
