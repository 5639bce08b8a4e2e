/-! THE CLAIM OUT OF ONE WALK OF THE LAW'S BODY. Your part is whole_start (and what it stands on); all else here is the same for every law, but numbers. -/
def R_law : String := "VeneerRowsLaw"
def lw_P (b : Addr) (xs : List Int32) (args : Array Value) (s : State) : Prop := args = #[.ref b] ∧ s.IntsAt b xs ∧ xs.length ≤ 2561 ∧ (Jvm.Cond.and given_1 narrow_1).before args s = true
def lw_Q (_ : Array Value) (s : State) (o : Outcome) (t : State) : Prop := o = .returned (some (.int 1)) ∧ Framed s o t [] 600000 7302250
def lw_Z (below : List Frame) (a : Array Value) (s : State) : State → Prop := fun t => ∃ o, t.status = .running ∧ Ended t below o ∧ lw_Q a s o t
/-- the law's own end, with 1 on the stack, nothing written that was there before, its room as the claim has it -/
theorem lw_ret {p : Program} {l : Launch} {e : Env} {s : State} {m : MethodId} {below : List Frame} {meth : Method} {c : Code} {b : Nat} (hx : p.tables.exec = Jvm.exec) (hb : c.code = code) (hr : meth.sig.returnType = ret) (hlocks : meth.locks = false) {pc : Nat} {H : Heap} {ls : Array Slot} (hdg : decode code pc = .ok (.ireturn, 1)) : W p l e room_1 s m #[Value.ref b] below meth c H [] 600000 7302250 (lw_Z below #[Value.ref b] s) (F0 m pc ls [.int 1]) := by
  intro T hT X
  obtain ⟨fs, hret, hrun, hended, hW, hframe⟩ := X.leave (v := some (.int 1)) (hlocks := hlocks) (fun h => by rw [hr] at h; cases h)
  have hmeth' : T.vm.method? m = some meth := X.method'
  refine ⟨T.setFrames fs, ?_, .returned (some (.int 1)), hrun, hended, rfl, ⟨_, rfl⟩, hW, hframe⟩
  jvm_step X.here [X.here.top, hx, hb, hdg, hmeth', hr, ret, narrow_b1]
  (try refine ⟨rfl, ?_⟩); (try refine ⟨rfl, ?_⟩)
  first | (intro acts; rw [hret _ acts rfl rfl rfl]) | rw [hret _ _ rfl rfl rfl]
  exact Steps.refl _
/-- what holds at the law's entry: the machine, the code, the tables' words (any of lw_tbl by 'hts w (by decide +kernel)'), the script of L ints xs at the cell b, what the Statement gives of the start (any of its parts by flat_of_before) -/
def lw_At (p : Program) (s : State) (m : MethodId) (meth : Method) (c : Code) (b L : Nat) (xs : Nat → Int32) : Prop :=
  p.tables.exec = Jvm.exec ∧ c.code = code ∧ meth.sig.returnType = ret ∧ c.maxLocals = 4 ∧ s.vm.findClass R_law = some m.cls ∧ (∀ w ∈ lw_tbl, w.before #[Value.ref b] s = true) ∧ va_X b L xs s s.heap ∧ b < s.heap.size ∧ meth.locks = false ∧ (Jvm.Cond.and given_1 narrow_1).before #[Value.ref b] s = true
-- ===== YOUR PART BEGINS =====
/-- YOUR PART: from the entry, for every script of at most 2561 ints, the law comes to its end with true -/
theorem whole_start {p : Program} {e : Env} {s : State} {m : MethodId} {below : List Frame} {meth : Method} {c : Code} (l : Launch) {b L : Nat} {xs : Nat → Int32} (hL : L ≤ 2561) (C0 : lw_At p s m meth c b L xs) : W p l e room_1 s m #[Value.ref b] below meth c s.heap [] 0 0 (lw_Z below #[Value.ref b] s) (entryFrame m ([Value.ref b] : List Value).toArray 4) := by
  obtain ⟨hx, hb, hr, hml, hown, hts, hX, hbl, hlocks, hgv⟩ := id C0
  have htx : ∀ w ∈ xT, w.before #[Value.ref b] s = true := fun w hw => hts w (List.mem_filter.mp hw).1
  have hA0 : ∀ a : Nat, a < s.heap.size → ¬ (fun q : Nat => s.heap.size ≤ q) a := fun a h => Nat.not_le.mpr h
  obtain ⟨gD, hgD⟩ := st_cls htx
  obtain ⟨tA, htA⟩ := st_arr hts
  obtain ⟨adK, adV, hvk, hev⟩ := st_str (A := fun q : Nat => s.heap.size ≤ q) hgv hA0
  have hf : ∀ w ∈ nFl, w.before #[Value.ref b] s = true := flat_of_before _ hgv
  have hZ1 := va_Zof (A := fun q : Nat => s.heap.size ≤ q) (hts _ st_w1.1) (hts _ st_w1.2) (va_eqt (hf _ nf4.1)) hA0
  obtain ⟨fz, fa, hZ2⟩ : ∃ fz fa : Nat, va_Z "jdk/internal/util/Preconditions" "SIOOBE_FORMATTER" "Ljava/util/function/BiFunction;" (if fz = 0 then .null else .ref fa) (fun q : Nat => s.heap.size ≤ q) s s.heap := by
    rcases va_Zqof (A := fun q : Nat => s.heap.size ≤ q) (hts _ st_w2.1) (hts _ st_w2.2) (hf _ nf4.2) hA0 with h | ⟨t, h⟩
    · exact ⟨0, 0, h⟩
    · exact ⟨1, t, h⟩
  obtain ⟨Γ, g1, g2, g3, g4, g5, g6, g7, g8, g9⟩ : ∃ Γ : xGm, Γ.1 = gD ∧ Γ.2.1 = tA ∧ (∀ k, k < 9 → Γ.2.2.1 k = adK k) ∧ (∀ k, k < 9 → Γ.2.2.1 (9 + k) = adV k) ∧ Γ.2.2.1 18 = fa ∧ Γ.2.2.1 19 = b ∧ Γ.2.2.2 0 = fz ∧ Γ.2.2.2 1 = L ∧ (fun j => Int32.ofNat (Γ.2.2.2 (2 + j))) = xs := by
    refine ⟨(gD, tA, fun k => if k < 9 then adK k else if k < 18 then adV (k - 9) else if k = 18 then fa else b, fun k => if k = 0 then fz else if k = 1 then L else (xs (k - 2)).toUInt32.toNat), rfl, rfl, fun k hk => if_pos hk, fun k hk => ?_, rfl, rfl, rfl, rfl, ?_⟩
    · show (if 9 + k < 9 then adK (9 + k) else if 9 + k < 18 then adV (9 + k - 9) else if 9 + k = 18 then fa else b) = adV k
      rw [if_neg (by omega), if_pos (by omega), show 9 + k - 9 = k by omega]
    · funext j
      show Int32.ofNat (if 2 + j = 0 then fz else if 2 + j = 1 then L else (xs (2 + j - 2)).toUInt32.toNat) = xs j
      rw [if_neg (by omega), if_neg (by omega), show 2 + j - 2 = j by omega]
      exact i32_back _
  have hscN : scN Γ ≤ 2561 := by
    unfold scN
    rw [g8]
    exact hL
  have hK : xK Γ s := by
    unfold xK
    rw [g1, g2]
    refine ⟨hgD, fun k q hq => ?_⟩
    by_cases h7 : k < 7
    · rw [List.getElem?_map, List.getElem?_range h7] at hq
      have e : (tA k, xAt k) = q := Option.some.inj hq
      subst e
      exact htA k h7
    · rw [List.getElem?_eq_none (by simp; omega)] at hq
      cases hq
  have hS9 : vk_S 9 xLen xByt Γ.2.2.1 (fun i => Γ.2.2.1 (9 + i)) (fun q : Nat => s.heap.size ≤ q) s s.heap := by
    refine ⟨fun i hi => ?_, fun i j hi hj e => ?_⟩
    · show va_O "java/lang/String" (Γ.2.2.1 i) _ s s.heap ∧ va_OF "java/lang/String" "coder" "B" (.int 0) (Γ.2.2.1 i) _ s s.heap ∧ va_OF "java/lang/String" "value" "[B" (.ref (Γ.2.2.1 (9 + i))) (Γ.2.2.1 i) _ s s.heap ∧ va_T .byte (Γ.2.2.1 (9 + i)) _ _ _ s s.heap
      rw [g3 i hi, g4 i hi]
      exact hvk.1 i hi
    · rw [g3 i hi, g3 j hj] at e
      exact hvk.2 i j hi hj e
  have hSc : xSc Γ (fun q : Nat => s.heap.size ≤ q) s s.heap := by
    unfold xSc
    rw [g6, g8, g9]
    exact ⟨hX, hbl, hA0 b hbl⟩
  have hE : xE Γ (fun q : Nat => s.heap.size ≤ q) s s.heap := by
    refine ⟨fun w hw => va_Nw.of rfl (hts _ (ns6 w hw)), fun C hC => va_AO.of (hts _ (ov4 C hC)), fun k w hk => ?_, hS9, hZ1, ?_, hSc⟩
    · have h9 : k < 9 := (List.getElem?_eq_some_iff.mp hk).1
      have e : xStr.getD k ("", 0, "") = w := by rw [List.getD_eq_getElem?_getD, hk]; rfl
      have z1 := hts _ (sr9 k h9)
      have z2 := hev k h9
      unfold stm at z2
      rw [e] at z1 z2
      rw [g3 k h9]
      exact vk_R.of z1 z2
    · rw [g5, g7]
      exact hZ2
  have had : ∀ k, (fun q => Γ.2.2.1 (q - 1000000)) (1000000 + k) = Γ.2.2.1 k := fun k => by
    show Γ.2.2.1 (1000000 + k - 1000000) = _
    rw [show 1000000 + k - 1000000 = k by omega]
  have hl := lv_entry ([.ref b]) (n := 4) (Nat.le_of_ble_eq_true rfl)
  rw [lg_entry_eq]
  generalize (lg_sl ([.ref b]) ++ List.replicate (4 - (lg_sl ([.ref b])).length) Slot.unset).toArray = ls at hl ⊢
  have hl0 : ls[0]? = some (.val (.ref b)) := hl.2.2 (0, .ref b) (List.mem_cons_self)
  have K := lw_body (Γ := Γ) (l := l) (f := 840) (nm := meth.name) (by decide) hscN p e s m #[Value.ref b] below meth c (fun q : Nat => s.heap.size ≤ q) (fun _ _ o _ => o = .returned (some (.int 1))) s.heap [] ls 0 0 600000 7302250 (fun q => Γ.2.2.1 (q - 1000000))
    ⟨hx, hb, hml, hown, htx, hlocks, hr, rfl, hK, hE, fun q h => h⟩
    ⟨⟨fun k q h => by simp [xW] at h, ⟨fun i j p q h => by simp [xW] at h, fun k q h => by simp [xW] at h⟩, va_S.rf⟩, had, (fun q k r h => nomatch h), ⟨hl.1, hl.2.1, rfl, fun i v hi => ?_⟩, fun v hv => ?_, fun v hv => by simp at hv, by decide, by decide, by decide⟩
    (fun ad' v G' D' R' t _ _ _ _ _ hq _ _ _ => by rw [show v = some (.int 1) from hq]; rfl)
  · intro T hT X
    have hrm : s.hasRoom e.platform (xRm 840 600000 7302250) = true := by
      have h := X.room
      simp only [State.hasRoom, room_1, xRm, Bool.and_eq_true, decide_eq_true_eq] at h ⊢
      obtain ⟨⟨⟨⟨a1, a2⟩, a7⟩, a8⟩, a9⟩ := h
      refine ⟨⟨⟨⟨?_, ?_⟩, a7⟩, a8⟩, a9⟩
      · exact a1
      · obtain ⟨b1, b2, b3, b4, b5⟩ := of_decide_eq_true a2
        exact decide_eq_true ⟨Nat.le_trans (Nat.add_le_add_left (by decide) _) b1, Nat.le_trans (Nat.add_le_add_left (by decide) _) b2, b3, b4, b5⟩
    have X' : Stand p l e (xRm 840 600000 7302250) s m #[Value.ref b] below meth c T [] 0 0 := { X with room := hrm }
    obtain ⟨t, hst, o, o1, o2, o3, L', hfe, hL'⟩ := K T hT X'
    refine ⟨t, hst, o, o1, o2, o3, hfe.1, hfe.2.1, ?_⟩
    exact hfe.2.2.weaken (fun y hy hlt => absurd hlt (Nat.not_lt.mpr (hL' y hy))) (Nat.le_refl _) (Nat.le_refl _)
  · rcases i with _ | _ | _ | _ | i
    · have e : Value.ref 1000019 = v := Option.some.inj (Option.some.inj hi)
      subst e
      rw [hl0]
      show _ = some (Slot.val (.ref (Γ.2.2.1 19)))
      rw [g6]
    · cases Option.some.inj hi
    · cases Option.some.inj hi
    · cases Option.some.inj hi
    · cases hi
  · rcases List.mem_cons.mp hv with h | h
    · cases h
      exact Or.inr (by decide)
    · exact absurd h (by simp)
-- ===== YOUR PART ENDS =====
set_option maxHeartbeats 4000000 in
theorem lw_walk (l : Launch) (b : Addr) (xs : List Int32) : MetFree l x (headSpec (Jvm.Cond.code x code maxLocals ret :: tables_1) room_1) (lw_P b xs) (fun _ _ _ _ _ => True) lw_Q := by
  refine MetFree.of_bodyS (code := code) (maxLocals := maxLocals) (ret := ret) (by decide) ?_ ?_
  · intro args s m h hn
    obtain ⟨meth, c, h1, h2, h3, h4, h5, h6, -, -⟩ := Cond.code_spec hn (atoms_spec (ws := Jvm.Cond.code x code maxLocals ret :: tables_1) h _ List.mem_cons_self)
    exact ⟨meth, c, h1, h2, h3, h4, h5, h6⟩
  · intro p e s m args below meth c s₁ B hml0 hP _
    obtain ⟨rfl, hx, hbd, hgv⟩ := hP
    obtain ⟨scr, harrAt, hlist, hof, hsmall⟩ := hx
    obtain ⟨hcb, hkn, -, -⟩ := State.arrayAt?_spec harrAt
    have hown : s.vm.findClass R_law = some m.cls := findClass_of_methodNamed B.named
    have hts0 : ∀ c ∈ (Jvm.Cond.code x code maxLocals ret :: tables_1), c.before #[Value.ref b] s = true := atoms_spec (ws := Jvm.Cond.code x code maxLocals ret :: tables_1) B.pre
    have hts : ∀ w ∈ lw_tbl, w.before #[Value.ref b] s = true := k2_hts_sels lw_privs (fun w hw => hts0 w (List.mem_cons_of_mem _ hw)) lw_privs_ok
    have hml : c.maxLocals = 4 := B.maxLocals_eq (hts0 _ List.mem_cons_self)
    have X₀ : Stand p l e room_1 s m #[Value.ref b] below meth c s₁ [] 0 0 := Stand.of_body B
    have hh0 : s₁.heap = s.heap := by rw [B.state]; rfl
    have hsz : scr.slots.size = xs.length := by rw [← Array.length_toList, hlist, List.length_map]
    have hval : ∀ j : Nat, j < xs.length → scr.slots[j]? = some (.int (xs.getD j 0)) := fun j hj => by
      rw [← Array.getElem?_toList, hlist]
      simp [hj]
    have hbl : b < s.heap.size := (Array.getElem?_eq_some_iff.mp hcb).1
    have hX : va_X b xs.length (fun j => xs.getD j 0) s s.heap := ⟨scr, hcb, hof, hkn, hsz, hval⟩
    have K : W p l e room_1 s m #[Value.ref b] below meth c s₁.heap [] 0 0 (lw_Z below #[Value.ref b] s) (entryFrame m ([Value.ref b] : List Value).toArray 4) := by
      rw [hh0]
      exact whole_start l hbd ⟨B.exec, B.bytes, B.returns, hml, hown, hts, hX, hbl, B.notSynchronized, hgv⟩
    obtain ⟨t, a1, o, b1, b2, b3⟩ := K s₁ rfl X₀
    exact ⟨t, o, a1, b1, b2, b3⟩
theorem lw_pre_spec {args : Array Value} {s : State} (h : (Jvm.Cond.and given_1 narrow_1).before args s = true) (hr : rest_1_c.before args s = true) : ∃ (b : Addr) (xs : List Int32), lw_P b xs args s := by
  have hs := flat_of_before _ h
  have hq := flat_of_before _ hr
  have hc : (Cond.count 1).before args s = true := hs _ (by decide +kernel)
  have harr : (Cond.arrayOf (.arg 0) .int).before args s = true := hs _ (by decide +kernel)
  have hle : (Cond.le (.length (.arg 0)) (.int 2561)).before args s = true := hs _ (by decide +kernel)
  have hlen : (Cond.isInt (.length (.arg 0))).before args s = true := hq _ (by decide +kernel)
  have hall : (Cond.all (.arg 0) (.isInt (.elem (.arg 0) (.index 0)))).before args s = true := hq _ (by decide +kernel)
  obtain ⟨b, xs, hb, hx⟩ := State.ints_of_pre rfl harr hlen hall
  have hsm : xs.length < 2 ^ 31 := hx.choose_spec.2.2.2
  have hev : (Term.length (.arg 0)).eval args s none [] s = some (.int xs.length.toInt32) := hx.length_eval hb
  have hv := Cond.le_ints hev (show (Term.int 2561).eval args s none [] s = some (.int 2561) from rfl)
  have hd : xs.length.toInt32 ≤ 2561 := by
    simpa [Cond.before, Cond.holds, hv] using hle
  have hN : xs.length ≤ 2561 := (Int32.ofNat_le_ofNat hsm (by decide)).mp (show Int32.ofNat xs.length ≤ Int32.ofNat 2561 from hd)
  exact ⟨b, xs, Cond.one_arg hc (show args[0]? = some (.ref b) from hb), hx, hN, h⟩
theorem lw_comes (l : Launch) : Comes l x (Jvm.Cond.code x code maxLocals ret :: tables_1) room_1 (fun tb e args s => Calls_1 tb e args s ∧ rest_1 tb e args s ∧ Pre_1 tb e args s)
    (fun _ _ args s o t => lw_Q args s o t) := by
  intro p e ha hc hk s m args below hf hfit hheap happ hpre
  obtain ⟨b, xs, hP⟩ := lw_pre_spec hpre.2.2 hpre.2.1
  obtain ⟨k, o, h1, h2, h3, hQ⟩ := lw_walk l b xs p e ha hc hk s m args below hf ((Spec.applies_iff_loose hf).mp happ).1 hP trivial
  exact ⟨k, o, h1, h2, h3, hQ⟩
theorem lw_frame {s t : State} {o : Outcome} {args : Array Value} (h : Framed s o t [] 600000 7302250) :
    Framed s o t (fieldLocs frame_1_writes args s ++ arrayLocs frame_1_arrays args s ++ staticLocs frame_1_statics s) 600000 7302250 := h
theorem lw_limb (L : Cond) (hL : ∀ (args : Array Value) (s t : State), L.after args s (.returned (some (.int 1))) t = true) :
    ArmFor flags0 classFile x code maxLocals ret World_1 tables_1 room_1 Calls_1 rest_1 Pre_1
      (fun tb e a s o t => postC L tb e a s o t ∧ Framed s o t (fieldLocs frame_1_writes a s ++ arrayLocs frame_1_arrays a s ++ staticLocs frame_1_statics s) 600000 7302250) := by
  intro l _ _ _ p e ha hc hk s m args below hf hfit hheap happ hpre
  obtain ⟨k, o, h1, h2, h3, rfl, hF⟩ := lw_comes l p e ha hc hk s m args below hf hfit hheap happ hpre
  exact ⟨k, _, h1, h2, h3, hL args s _, lw_frame hF⟩
theorem i_vc : Claimed_1_1 ∧ Claimed_1_2 := ⟨lw_limb limb_1_1 (fun args s t => by simp [limb_1_1, Cond.after, Cond.holds, Cond.value]), lw_limb limb_1_2 (fun args s t => Cond.after_iff.mpr (by
  first | (rw [show limb_1_2 = Cond.eq .result (.int 1) from rfl, Cond.eq_ints (x := 1) (y := 1) rfl rfl]; simp; done) | (simp [limb_1_2, Cond.value, Term.eval]; done)))⟩
