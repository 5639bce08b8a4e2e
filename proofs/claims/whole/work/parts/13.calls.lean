/-! ===== CALLS ===== -/
/-- what is asked of a method's names: its code is among the words, its class is initialised and plain, its parameters are n -/
def xOk (μ : xMt) (n : Nat) : Prop := Cond.code μ.1 μ.2.1 μ.2.2.1 μ.2.2.2 ∈ xT ∧ Cond.initialized μ.1.cls ∈ xT ∧ plainFor μ.1 = true ∧ (μ.1.cls ≠ "java/lang/invoke/MethodHandle" ∧ μ.1.cls ≠ "java/lang/invoke/VarHandle" ∧ (parseMethodDescriptor μ.1.desc).map (fun d => d.parameters.length) = some n) ∧ μ.2.2.1 ≤ 80
theorem xsl {vs : List Value} (h : ∀ v ∈ vs, v.category = 1) : (lg_sl vs).length = vs.length := by
  induction vs with
  | nil => rfl
  | cons v t ih =>
    have h1 := h v List.mem_cons_self
    have h2 := ih fun w hw => h w (List.mem_cons_of_mem _ hw)
    simp only [lg_sl, List.flatMap_cons, List.length_append, List.length_cons] at h2 ⊢
    rw [if_neg (by omega), h2]
    simp; omega
theorem xargs {vs : List Value} (h : ∀ v ∈ vs, v.category = 1) : ∀ (b i : Nat) (v : Value), vs[i]? = some v → (b + i, v) ∈ lv_args b vs := by
  induction vs with
  | nil => intro b i v hi; simp at hi
  | cons w t ih =>
    intro b i v hi
    have h1 := h w List.mem_cons_self
    cases i with
    | zero =>
      simp at hi
      subst hi
      exact List.mem_cons_self
    | succ i =>
      simp at hi
      have h2 := ih (fun w hw => h w (List.mem_cons_of_mem _ hw)) (b + 1) i v hi
      simp only [lv_args]
      rw [if_neg (by omega)]
      refine List.mem_cons_of_mem _ ?_
      rw [show b + (i + 1) = b + 1 + i by omega]
      exact h2
section XM
variable {Γ : xGm} {l : Launch} {f f' : Nat} {μ μ' : xMt} {pc : Nat} {L : List (Option Value)} {st rest : List Value} {G : xG} {D : xD} {R : xR} {kc kw kc' kw' n idx : Nat} {Q Q' : Option Value → xG → xD → xR → Prop}
/-- a method's contract out of the walk of its body -/
theorem cn_of {vs : List Value} (hok : xOk μ n) (hlen : vs.length ≤ μ.2.2.1) (k : Ex Γ l f μ 0 (vs.map some ++ List.replicate (μ.2.2.1 - vs.length) none) [] G D R kc kw Q) : Cn Γ l f μ vs G D R kc kw Q := by
  intro hG hw hvs ad sz had
  refine va_MetF (cc := μ.2.1) (maxL := μ.2.2.1) (ret := μ.2.2.2) hok.2.2.1 rfl ?_
  intro p e s m args below meth c s₁ B hml hv
  obtain ⟨rfl, hsz, hP, hK, hD0, hE⟩ := hv
  have hts := atoms_spec (ws := xWs μ) B.pre
  have hown : s.vm.findClass μ.1.cls = some m.cls := findClass_of_methodNamed B.named
  have hin : meth.name = μ.1.name := (name_of_methodNamed B.named B.method).1
  subst hsz
  have hcat : ∀ v ∈ vs.map (xtv ad), v.category = 1 := fun v hv => by
    obtain ⟨w, hw, rfl⟩ := List.mem_map.mp hv
    exact xok_cat (hvs w hw) ad
  have hl := lv_entry (vs.map (xtv ad)) (n := μ.2.2.1) (by rw [xsl hcat, List.length_map]; exact hlen)
  rw [lg_entry_eq]
  generalize (lg_sl (vs.map (xtv ad)) ++ List.replicate (μ.2.2.1 - (lg_sl (vs.map (xtv ad))).length) Slot.unset).toArray = ls at hl ⊢
  refine k p e s m (vs.map (xtv ad)).toArray below meth c (va_A (xW Γ.2.1 ad G D R) s.heap.size) _ s.heap [] ls 0 0 kc kw ad ⟨B.exec, B.bytes, hml, hown, fun w hw => hts w (List.mem_cons_of_mem _ hw), B.notSynchronized, B.returns, hin, hK, hE, fun q h => Or.inr h⟩ ⟨⟨hP, hD0.self, va_S.rf⟩, had, hw, ⟨hl.1, hl.2.1, by simp; omega, fun i v hi => ?_⟩, fun v hv => ?_, fun v hv => by simp at hv, hG, by omega, by omega⟩ ?_
  · by_cases hi2 : i < vs.length
    · rw [List.getElem?_append_left (by simpa using hi2), List.getElem?_map] at hi
      have hv : vs[i]? = some v := by
        cases hx : vs[i]? with
        | none => rw [hx] at hi; cases hi
        | some w => rw [hx] at hi; simp at hi; rw [hi]
      have := xargs hcat 0 i (xtv ad v) (by rw [List.getElem?_map, hv]; rfl)
      rw [Nat.zero_add] at this
      exact hl.2.2 _ this
    · rw [List.getElem?_append_right (by simp; omega), List.getElem?_replicate] at hi
      split at hi <;> cases hi
  · rcases List.mem_append.mp hv with hv | hv
    · obtain ⟨w, hw, hwv⟩ := List.mem_map.mp hv
      cases hwv
      exact hvs _ hw
    · cases (List.mem_replicate.mp hv).2
  · intro ad' v G' D' R' t h1 h2 h3 h4 h5 h6 h7 h8 h9
    exact ⟨ad', v, G', D', R', ⟨h1, h2, h3, h4, h5⟩, h6, rfl, h7, h8, h9⟩
theorem xblind {vs : List Value} {ad : Nat → Nat} {sz : Nat} : FrameBlind (xPre Γ vs ad G D R sz) := fun a U g mk q => by
  obtain ⟨q0, q1, qP, qK, qD, qE⟩ := q
  exact ⟨q0, q1, qP, va_K.moved (u := U) (U := U.calling g mk a) (Vm.Alike.refl U.vm) qK, qD, qE.blind⟩
theorem xpre {s : State} {A : Nat → Prop} {ad : Nat → Nat} {H : Heap} {locs : List Loc} {ls : Array Slot} {cells slots C S : Nat} {p : Program} {m : MethodId} {args : Array Value} {meth : Method} {c : Code} {vs : List Value} (hF : xF Γ μ p s m args meth c A) (hS : xS Γ μ s A ad L st G D R H locs ls cells slots C S kc kw) :
    (∀ q, va_A (xW Γ.2.1 ad G D R) H.size q → A q) ∧ ∀ U : State, U.heap = H → s.WarmedH U.vm → xPre Γ vs ad G D R H.size (vs.map (xtv ad)).toArray U := by
  have hf : ∀ q, va_A (xW Γ.2.1 ad G D R) H.size q → A q := fun q hq => by
    rcases hq with ⟨k, e, hk⟩ | hq
    · exact hS.1.2.1.2 k _ hk
    · exact hF.2.2.2.2.2.2.2.2.2.2 q (Nat.le_trans hS.1.2.2.1 hq)
  refine ⟨hf, fun U hU hW => ⟨rfl, by rw [hU], by rw [hU]; exact hS.1.1, va_K.moved hW.alike hF.2.2.2.2.2.2.2.2.1, hS.1.2.1.weaken (fun _ _ _ _ => trivial), ?_⟩⟩
  rw [hU]
  exact ((hF.2.2.2.2.2.2.2.2.2.1.kept hS.1.2.2.2.1).narrow hf).moved hW
theorem xback {p : Program} {e : Env} {s : State} {m : MethodId} {args : Array Value} {below : List Frame} {meth : Method} {c : Code} {A : Nat → Prop} {Qc : Array Value → State → Outcome → State → Prop} {H : Heap} {locs : List Loc} {ls : Array Slot} {cells slots C S : Nat} {ad : Nat → Nat} {a : Array Value} {st0 : List Value}
    (hF : xF Γ μ p s m args meth c A) (hS : xS Γ μ s A ad L st G D R H locs ls cells slots C S kc kw) (hQ : xQ Γ s A args Qc ad G kc Q) (hst : ∀ v ∈ rest, xok G v) (hkc : kc' ≤ kc) (hkw : kw' ≤ kw)
    (hr : va_Run p l e (xRm f C S) s m args below meth c H locs cells slots kc' kw' (F0 m pc ls st0) (rest.map (xtv ad)) (xPost Γ ad G D R H.size kc' Q' a) (va_A (xW Γ.2.1 ad G D R) H.size))
    (kk : ∀ (v : Option Value) (G' : xG) (D' : xD) (R' : xR), Q' v G' D' R' → Ex Γ l f μ (pc + 3) L (v.toList ++ rest) G' D' R' (kc - kc') (kw - kw') Q) :
    W p l e (xRm f C S) s m args below meth c H locs cells slots (MQ below Qc args s C S A) (F0 m pc ls st0) := by
  have hfr := (xpre (vs := []) hF hS).1
  intro T hT X
  obtain ⟨v, s0, t, T', L1, h0, X', hL, e1, e2, ⟨ad', w, G', D', R', ⟨g1, g2, g3, g4, g5⟩, hq, hv, hP', hD', hz, hk⟩, stp⟩ := hr T hT X
  cases hv
  rw [h0] at hz hk
  have hb := hS.2.2.2.2.2.2
  obtain ⟨t2, a1, b1⟩ := kk w G' D' R' hq p e s m args below meth c A Qc T'.heap (locs ++ L1) ls (cells + kc') (slots + kw') C S ad' hF
    ⟨⟨by rw [e1]; exact hP', hD'.weaken (fun _ q _ h => hfr q.1 h), Nat.le_trans hS.1.2.2.1 (by rw [e1]; exact hz), fun q h1 h2 => by rw [e1, hk q (Nat.lt_of_lt_of_le h1 hS.1.2.2.1) (fun z => h2 (hfr q z))]; exact hS.1.2.2.2.1 q h1 h2, fun q hq => by
      rcases List.mem_append.mp hq with h | h
      · exact hS.1.2.2.2.2 q h
      · exact hfr _ (hL q h)⟩, fun k => by rw [g1 _ (Or.inr (Nat.le_add_right _ _))]; exact hS.2.1 k, g5, hS.2.2.2.1.ag g1 hS.2.2.2.2.1, fun v hv => xok_mono g2 (hS.2.2.2.2.1 v hv), fun v hv => by
      rcases List.mem_append.mp hv with h | h
      · cases w with
        | none => cases h
        | some y =>
          rw [Option.toList_some, List.mem_singleton] at h
          exact g4 v (by rw [h])
      · exact xok_mono g2 (hst v h), by omega, by omega, by omega⟩ (hQ.grow g1 g2 (by omega)) T' rfl X'
  refine ⟨t2, stp t2 ?_, b1⟩
  have e3 : (w.toList ++ rest).map (xtv ad') = (w.map (xtv ad')).toList ++ rest.map (xtv ad) := by
    rw [List.map_append, xtvs_ag g1 hst]
    cases w <;> rfl
  rw [e3] at a1
  exact a1
theorem xcats {ad : Nat → Nat} : ∀ {rest : List Value}, (∀ v ∈ rest, xok G v) → ((rest.map (xtv ad)).map fun v => v.category).sum = rest.length
  | [], _ => rfl
  | v :: r, h => by
    rw [List.map_cons, List.map_cons, List.sum_cons, xcats (xo_t h), xok_cat (xo_h h) ad, List.length_cons]
    omega
theorem xrest {As : List Value} {b : Value} (h : ∀ v ∈ As.reverse ++ b :: rest, xok G v) : (∀ v ∈ rest, xok G v) ∧ ∀ v ∈ b :: As, xok G v := ⟨fun v hv => h v (List.mem_append_right _ (List.mem_cons_of_mem _ hv)), fun v hv => by
  rcases List.mem_cons.mp hv with rfl | hv
  · exact h _ (List.mem_append_right _ List.mem_cons_self)
  · exact h _ (List.mem_append_left _ (List.mem_reverse.mpr hv))⟩
theorem xstk {ad : Nat → Nat} {As : List Value} {b : Nat} (h : st = As.reverse ++ .ref b :: rest) : st.map (xtv ad) = (As.map (xtv ad)).reverse ++ .ref (ad b) :: rest.map (xtv ad) := by
  subst h
  rw [List.map_append, List.map_reverse]
  rfl
/-- invokevirtual of a method of the receiver's own class (number c) -/
theorem ex_callV (As : List Value) (rest : List Value) {b c : Nat} {r : vw_C} (hd : decode μ.2.1 pc = .ok (.invokevirtual idx, 3)) (hok : xOk μ' n) (hi : Cond.instanceMethod μ'.1 ∈ xT) (hs : Cond.selects μ'.1.cls μ'.1 μ'.1 ∈ xT) (hl : Cond.methodLink μ.1.cls idx μ'.1 ∈ xT) (hst : st = As.reverse ++ .ref b :: rest) (hn : As.length = n) (hrest : rest.length ≤ 8) (hc : vwCl[c]? = some r) (hr : r.1 = μ'.1.cls) (hc16 : c < 16) (hq : xis G b c) (hf : f' + 1 ≤ f) (hkc : kc' ≤ kc) (hkw : kw' ≤ kw) (hC : Cn Γ l f' μ' (.ref b :: As) G D R kc' kw' Q')
    (kk : ∀ (v : Option Value) (G' : xG) (D' : xD) (R' : xR), Q' v G' D' R' → Ex Γ l f μ (pc + 3) L (v.toList ++ rest) G' D' R' (kc - kc') (kw - kw') Q) : Ex Γ l f μ pc L st G D R kc kw Q := by
  intro p e s m args below meth c0 A Qc H locs ls cells slots C0 S ad hF hS hQ
  obtain ⟨hx, hb, hml, hown, hts, hlk, hrt, hnm, hK, hE, hA⟩ := id hF
  have hbd := hS.2.2.2.2.2.2
  have hoks := xrest (rest := rest) (by rw [← hst]; exact hS.ok)
  have hM := hC (by omega) hS.2.2.1 hoks.2 ad H.size hS.2.1
  obtain ⟨-, hpr⟩ := xpre (vs := .ref b :: As) hF hS
  have hcw : CallW (xRm f C0 S) s args μ.1.cls μ'.1.cls idx μ'.1 μ'.2.1 μ'.2.2.1 μ'.2.2.2 (xWs μ') (xRm f' kc' kw') kc' kw' n := ⟨callB_of n hts (xgood hok.1) rfl rfl rfl (hts _ hok.2.1) (hts _ hl) hok.2.2.2.1 ⟨hf, by have := hok.2.2.2.2; show 8 + (_ + 11) + 100 * f' ≤ 100 * f; omega⟩, hts _ hi, hts _ hs⟩
  have hrec := va_recv hK hS.1.1 hc (xis_cell hq hc16)
  rw [hr] at hrec
  exact xback hF hS hQ hoks.1 hkc hkw (va_runV (As := As.map (xtv ad)) (b := ad b) (rest := rest.map (xtv ad)) ⟨hx, hb, hml, hown, hts⟩ hM hcw ⟨xblind, hrec, hpr⟩ rfl (by rw [List.length_map]; exact hn) hS.2.2.2.1.1 (xstk hst) (lv_room (by rw [xcats hoks.1]; exact hrest)) hd ⟨by show _ ≤ C0; omega, by show _ ≤ S; omega⟩) kk
/-- invokestatic -/
theorem ex_callS (As : List Value) (rest : List Value) (hd : decode μ.2.1 pc = .ok (.invokestatic idx, 3)) (hok : xOk μ' n) (hi : Cond.static μ'.1 ∈ xT) (hl : Cond.methodLink μ.1.cls idx μ'.1 ∈ xT) (hst : st = As.reverse ++ rest) (hn : As.length = n) (hrest : rest.length ≤ 8) (hf : f' + 1 ≤ f) (hkc : kc' ≤ kc) (hkw : kw' ≤ kw) (hC : Cn Γ l f' μ' As G D R kc' kw' Q')
    (kk : ∀ (v : Option Value) (G' : xG) (D' : xD) (R' : xR), Q' v G' D' R' → Ex Γ l f μ (pc + 3) L (v.toList ++ rest) G' D' R' (kc - kc') (kw - kw') Q) : Ex Γ l f μ pc L st G D R kc kw Q := by
  intro p e s m args below meth c0 A Qc H locs ls cells slots C0 S ad hF hS hQ
  obtain ⟨hx, hb, hml, hown, hts, hlk, hrt, hnm, hK, hE, hA⟩ := id hF
  have hbd := hS.2.2.2.2.2.2
  have hok1 : ∀ v ∈ rest, xok G v := fun v hv => hS.ok v (by rw [hst]; exact List.mem_append_right _ hv)
  have hok2 : ∀ v ∈ As, xok G v := fun v hv => hS.ok v (by rw [hst]; exact List.mem_append_left _ (List.mem_reverse.mpr hv))
  have hM := hC (by omega) hS.2.2.1 hok2 ad H.size hS.2.1
  obtain ⟨-, hpr⟩ := xpre (vs := As) hF hS
  have hcw : CallB (xRm f C0 S) s args μ.1.cls idx μ'.1 μ'.2.1 μ'.2.2.1 μ'.2.2.2 (xWs μ') (xRm f' kc' kw') kc' kw' n ∧ (Cond.static μ'.1).before args s = true := ⟨callB_of n hts (xgood hok.1) rfl rfl rfl (hts _ hok.2.1) (hts _ hl) hok.2.2.2.1 ⟨hf, by have := hok.2.2.2.2; show 8 + (_ + 11) + 100 * f' ≤ 100 * f; omega⟩, hts _ hi⟩
  exact xback hF hS hQ hok1 hkc hkw (va_runS (As := As.map (xtv ad)) (rest := rest.map (xtv ad)) ⟨hx, hb, hml, hown, hts⟩ hM hcw ⟨xblind, hpr⟩ rfl (by rw [List.length_map]; exact hn) hS.2.2.2.1.1 (by show st.map (xtv ad) = _; rw [hst, List.map_append, List.map_reverse]) (lv_room (by rw [xcats hok1]; exact hrest)) hd ⟨by show _ ≤ C0; omega, by show _ ≤ S; omega⟩) kk
/-- invokespecial of a constructor -/
theorem ex_callI (As : List Value) (rest : List Value) {b : Nat} (hd : decode μ.2.1 pc = .ok (.invokespecial idx, 3)) (hok : xOk μ' n) (hret : μ'.2.2.2 = none) (hnm1 : μ'.1.name = "<init>") (hi : Cond.instanceMethod μ'.1 ∈ xT) (hl : Cond.methodLink μ.1.cls idx μ'.1 ∈ xT) (hst : st = As.reverse ++ .ref b :: rest) (hn : As.length = n) (hrest : rest.length ≤ 8) (hf : f' + 1 ≤ f) (hkc : kc' ≤ kc) (hkw : kw' ≤ kw) (hC : Cn Γ l f' μ' (.ref b :: As) G D R kc' kw' Q')
    (kk : ∀ (v : Option Value) (G' : xG) (D' : xD) (R' : xR), Q' v G' D' R' → Ex Γ l f μ (pc + 3) L (v.toList ++ rest) G' D' R' (kc - kc') (kw - kw') Q) : Ex Γ l f μ pc L st G D R kc kw Q := by
  intro p e s m args below meth c0 A Qc H locs ls cells slots C0 S ad hF hS hQ
  obtain ⟨hx, hb, hml, hown, hts, hlk, hrt, hnm, hK, hE, hA⟩ := id hF
  have hbd := hS.2.2.2.2.2.2
  have hoks := xrest (rest := rest) (by rw [← hst]; exact hS.ok)
  have hM := hC (by omega) hS.2.2.1 hoks.2 ad H.size hS.2.1
  obtain ⟨-, hpr⟩ := xpre (vs := .ref b :: As) hF hS
  have hw : xWs μ' = Cond.code μ'.1 μ'.2.1 μ'.2.2.1 none :: xT := by unfold xWs; rw [hret]
  have hcw : CallB (xRm f C0 S) s args μ.1.cls idx μ'.1 μ'.2.1 μ'.2.2.1 none (xWs μ') (xRm f' kc' kw') kc' kw' n ∧ μ'.1.name = "<init>" ∧ (Cond.instanceMethod μ'.1).before args s = true := ⟨callB_of n hts (xgood hok.1) hw rfl rfl (hts _ hok.2.1) (hts _ hl) hok.2.2.2.1 ⟨hf, by have := hok.2.2.2.2; show 8 + (_ + 11) + 100 * f' ≤ 100 * f; omega⟩, hnm1, hts _ hi⟩
  exact xback hF hS hQ hoks.1 hkc hkw (va_runI (As := As.map (xtv ad)) (b := ad b) (rest := rest.map (xtv ad)) ⟨hx, hb, hml, hown, hts⟩ hM hcw ⟨xblind, hpr⟩ rfl (by rw [List.length_map]; exact hn) hS.2.2.2.1.1 (xstk hst) (lv_room (by rw [xcats hoks.1]; exact hrest)) hd ⟨by show _ ≤ C0; omega, by show _ ≤ S; omega⟩) kk
/-- invokespecial of a nest mate's private constructor -/
theorem ex_callIN (As : List Value) (rest : List Value) {b : Nat} {host : String} (hd : decode μ.2.1 pc = .ok (.invokespecial idx, 3)) (hok : xOk μ' n) (hret : μ'.2.2.2 = none) (hnm1 : μ'.1.name = "<init>") (hi : Cond.instanceMethod μ'.1 ∈ xT) (hl : (μ.1.cls, idx, μ'.1, host) ∈ xNest) (hst : st = As.reverse ++ .ref b :: rest) (hn : As.length = n) (hrest : rest.length ≤ 8) (hf : f' + 1 ≤ f) (hkc : kc' ≤ kc) (hkw : kw' ≤ kw) (hC : Cn Γ l f' μ' (.ref b :: As) G D R kc' kw' Q')
    (kk : ∀ (v : Option Value) (G' : xG) (D' : xD) (R' : xR), Q' v G' D' R' → Ex Γ l f μ (pc + 3) L (v.toList ++ rest) G' D' R' (kc - kc') (kw - kw') Q) : Ex Γ l f μ pc L st G D R kc kw Q := by
  intro p e s m args below meth c0 A Qc H locs ls cells slots C0 S ad hF hS hQ
  obtain ⟨hx, hb, hml, hown, hts, hlk, hrt, hnm, hK, hE, hA⟩ := id hF
  have hbd := hS.2.2.2.2.2.2
  have hoks := xrest (rest := rest) (by rw [← hst]; exact hS.ok)
  have hM := hC (by omega) hS.2.2.1 hoks.2 ad H.size hS.2.1
  obtain ⟨-, hpr⟩ := xpre (vs := .ref b :: As) hF hS
  have hw : xWs μ' = Cond.code μ'.1 μ'.2.1 μ'.2.2.1 none :: xT := by unfold xWs; rw [hret]
  have hcw : va_CN (xRm f C0 S) s args μ.1.cls idx μ'.1 host μ'.2.1 μ'.2.2.1 none (xWs μ') (xRm f' kc' kw') kc' kw' n ∧ μ'.1.name = "<init>" ∧ (Cond.instanceMethod μ'.1).before args s = true := ⟨va_cnB n hts (xgood hok.1) hw rfl rfl (hE.1 _ hl) (hts _ hok.2.1) hok.2.2.2.1 ⟨hf, by have := hok.2.2.2.2; show 8 + (_ + 11) + 100 * f' ≤ 100 * f; omega⟩, hnm1, hts _ hi⟩
  exact xback hF hS hQ hoks.1 hkc hkw (va_runIN (As := As.map (xtv ad)) (b := ad b) (rest := rest.map (xtv ad)) ⟨hx, hb, hml, hown, hts⟩ hM hcw ⟨xblind, hpr⟩ rfl (by rw [List.length_map]; exact hn) hS.2.2.2.1.1 (xstk hst) (lv_room (by rw [xcats hoks.1]; exact hrest)) hd ⟨by show _ ≤ C0; omega, by show _ ≤ S; omega⟩) kk
/-- Object's constructor -/
theorem ex_objInit {q : Nat} (hd : decode μ.2.1 pc = .ok (.invokespecial idx, 3)) (hl : Cond.methodLink μ.1.cls idx Lib.objectInit ∈ xT) (hi : Cond.instanceMethod Lib.objectInit ∈ xT) (hc : Cond.code Lib.objectInit ⟨#[0xb1]⟩ 1 none ∈ xT) (hst : st.length ≤ 8) (hf : 1 ≤ f) (kk : Ex Γ l f μ (pc + 3) L st G D R kc kw Q) : Ex Γ l f μ pc L (.ref q :: st) G D R kc kw Q := by
  intro p e s m args below meth c0 A Qc H locs ls cells slots C0 S ad hF hS hQ
  obtain ⟨hx, hb, hml, hown, hts, hlk, hrt, hnm, hK, hE, hA⟩ := id hF
  have hk := kk p e s m args below meth c0 A Qc H locs ls cells slots C0 S ad hF (hS.ps (xo_t hS.ok)) hQ
  have hrm := lv_room (m := m) (pc := pc) (ls := ls) (rest := (Value.ref q :: st).map (xtv ad)) (st := st.map (xtv ad)) (by rw [xcats (xo_t hS.ok)]; exact hst)
  exact W.objInit hx hb hown (hts _ hl) (hts _ hi) (hts _ hc) rfl (by rw [hml]; exact hS.2.2.2.1.1) (a := ad q) (rest := st.map (xtv ad)) rfl hd hf (by show _ + 12 ≤ 100 * f; omega) hk
end XM
