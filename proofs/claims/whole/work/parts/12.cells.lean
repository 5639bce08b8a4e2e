/-! ===== ROWS OF THE PURE WALK: fields, arrays, new cells ===== -/
def xis (G : xG) (q c : Nat) : Prop := q < G.1 ∧ G.2 q = (c, 0)
def xia (G : xG) (q t n : Nat) : Prop := q < G.1 ∧ G.2 q = (16 + t, n)
theorem upd_self (d : Nat → Int32) (k : Nat) (x : Int32) : upd d k x k = x := by simp [upd]
theorem upd_ne (d : Nat → Int32) {k j : Nat} (x : Int32) (h : j ≠ k) : upd d k x j = d j := by simp [upd, h]
theorem xdu_self (D : xD) (q k : Nat) (x : Int32) : xdu D q k x q = upd (D q) k x := by simp [xdu]
theorem xdu_ne (D : xD) {q q' : Nat} (k : Nat) (x : Int32) (h : q' ≠ q) : xdu D q k x q' = D q' := by simp [xdu, h]
theorem xru_self (R : xR) (q k : Nat) (o : Option Nat) : xru R q k o q = va_up (R q) k o := by simp [xru]
theorem xru_ne (R : xR) {q q' : Nat} (k : Nat) (o : Option Nat) (h : q' ≠ q) : xru R q k o q' = R q' := by simp [xru, h]
section XC
variable {Γ : xGm} {l : Launch} {f : Nat} {μ : xMt} {pc : Nat} {L : List (Option Value)} {st : List Value} {G : xG} {D : xD} {R : xR} {kc kw : Nat} {Q : Option Value → xG → xD → xR → Prop}
theorem xis_cell {tA : Nat → ClassId} {ad : Nat → Nat} {q c : Nat} (h : xis G q c) (hc : c < 16) : (xW tA ad G D R)[q]? = some (ad q, .inr (c, (List.range (xnf c)).map (xfv ad c (D q) (R q)))) := by
  rw [xW_at tA ad D R h.1, h.2, xcell_o (k := (c, 0)) hc]
theorem xia_i {tA : Nat → ClassId} {ad : Nat → Nat} {q t n : Nat} (h : xia G q t n) (ht : t < 3) : (xW tA ad G D R)[q]? = some (ad q, .inl (tA t, n, .inl (D q))) := by
  rw [xW_at tA ad D R h.1, h.2, xcell_i t n ht]
theorem xia_q {tA : Nat → ClassId} {ad : Nat → Nat} {q t n : Nat} (h : xia G q t n) (ht : 3 ≤ t) : (xW tA ad G D R)[q]? = some (ad q, .inl (tA t, n, .inr (.inr (.inr (.inr (fun j => (R q j).map ad)))))) := by
  rw [xW_at tA ad D R h.1, h.2, xcell_q t n ht]
theorem xtys (Γ : xGm) {t : Nat} (h : t < 7) : ((List.range 7).map (fun t => (Γ.2.1 t, xAt t)))[t]? = some (Γ.2.1 t, xAt t) := by simp [h]
/-- getfield of a number -/
theorem ex_geti {q idx c k : Nat} {C : String} {T : u_T} {N : Nat} (hd : decode μ.2.1 pc = .ok (.getfield idx, 3)) (hc : vwCl[c]? = some (C, T, N)) (hin : ∀ w ∈ u_ws C T N, w ∈ xT) (hk : k < N) (hN : N = xnf c) (hc16 : c < 16) (hl : Cond.fieldLink μ.1.cls idx (T k).1 (T k).2.1 (T k).2.2.1 ∈ xT) (hr : xisRf (xTy c k) = false) (hq : xis G q c)
    (kk : Ex Γ l f μ (pc + 3) L (.int (D q k) :: st) G D R kc kw Q) : Ex Γ l f μ pc L (.ref q :: st) G D R kc kw Q := by
  intro p e s m args below meth c0 A Qc H locs ls cells slots C0 S ad hF hS hQ
  obtain ⟨hx, hb, hml, hown, hts, hlk, hrt, hnm, hK, hE, hA⟩ := id hF
  refine va_get hx hb hts hin hown hK hS.1.1 q (xis_cell hq hc16) hc k hk (hts _ hl) (fun _ h => h) (v := .int (D q k)) ?_ hd (kk p e s m args below meth c0 A Qc H locs ls cells slots C0 S ad hF (hS.ps (xo_i (xo_t hS.ok))) hQ)
  rw [xfs_at ad c (D q) (R q) (by omega)]
  simp [xfv, hr]
/-- getfield of a reference -/
theorem ex_getr {q idx c k : Nat} {C : String} {T : u_T} {N : Nat} (hd : decode μ.2.1 pc = .ok (.getfield idx, 3)) (hc : vwCl[c]? = some (C, T, N)) (hin : ∀ w ∈ u_ws C T N, w ∈ xT) (hk : k < N) (hN : N = xnf c) (hc16 : c < 16) (hl : Cond.fieldLink μ.1.cls idx (T k).1 (T k).2.1 (T k).2.2.1 ∈ xT) (hr : xisRf (xTy c k) = true) {o : Option Nat} (ho : R q k = o) (hq : xis G q c)
    (kk : Ex Γ l f μ (pc + 3) L (xrv o :: st) G D R kc kw Q) : Ex Γ l f μ pc L (.ref q :: st) G D R kc kw Q := by
  intro p e s m args below meth c0 A Qc H locs ls cells slots C0 S ad hF hS hQ
  obtain ⟨hx, hb, hml, hown, hts, hlk, hrt, hnm, hK, hE, hA⟩ := id hF
  subst ho
  refine va_get hx hb hts hin hown hK hS.1.1 q (xis_cell hq hc16) hc k hk (hts _ hl) (fun _ h => h) (v := xtv ad (xrv (R q k))) ?_ hd (kk p e s m args below meth c0 A Qc H locs ls cells slots C0 S ad hF (hS.ps (xo_c (xok_rv hS.2.2.1 q k) (xo_t hS.ok))) hQ)
  rw [xfs_at ad c (D q) (R q) (by omega)]
  simp [xfv, hr, xtv_rv]
theorem xset_o {tA : Nat → ClassId} {ad : Nat → Nat} {q c k : Nat} {v : Value} {D' : xD} {R' : xR} (hq : xis G q c) (hc : c < 16) (hoD : ∀ i, i ≠ q → D' i = D i ∧ R' i = R i) (hoF : ∀ j, j ≠ k → D' q j = D q j ∧ R' q j = R q j) (hv : v = xfv ad c (D' q) (R' q) k) : (xW tA ad G D R).set q (ad q, .inr (c, ((List.range (xnf c)).map (xfv ad c (D q) (R q))).set k v)) = xW tA ad G D' R' := by
  refine xW_set hq.1 hoD ?_
  rw [hq.2, xcell_o (k := (c, 0)) hc, xfs_set hoF hv]
theorem xdu_o (D : xD) (R : xR) (q k : Nat) (x : Int32) : (∀ i, i ≠ q → xdu D q k x i = D i ∧ R i = R i) ∧ ∀ j, j ≠ k → xdu D q k x q j = D q j ∧ R q j = R q j := ⟨fun i h => ⟨xdu_ne D k x h, rfl⟩, fun j h => ⟨by rw [xdu_self, upd_ne _ _ h], rfl⟩⟩
theorem xru_o (D : xD) (R : xR) (q k : Nat) (o : Option Nat) : (∀ i, i ≠ q → D i = D i ∧ xru R q k o i = R i) ∧ ∀ j, j ≠ k → D q j = D q j ∧ xru R q k o q j = R q j := ⟨fun i h => ⟨rfl, xru_ne R k o h⟩, fun j h => ⟨rfl, by rw [xru_self, va_up_ne _ _ h]⟩⟩
theorem xru_wf {q k : Nat} {o : Option Nat} (hw : xwf G R) (ho : ∀ r, o = some r → r < G.1) : xwf G (xru R q k o) := fun q' k' r h => by
  by_cases hq : q' = q
  · subst hq
    rw [xru_self] at h
    by_cases hk : k' = k
    · subst hk
      rw [va_up_self] at h
      exact ho r h
    · rw [va_up_ne _ _ hk] at h
      exact hw _ _ _ h
  · rw [xru_ne R k o hq] at h
    exact hw _ _ _ h
theorem xS.put {s : State} {A : Nat → Prop} {ad : Nat → Nat} {H H1 : Heap} {locs locs1 : List Loc} {ls : Array Slot} {cells slots C S : Nat} {st' : List Value} {D' : xD} {R' : xR} (h : xS Γ μ s A ad L st G D R H locs ls cells slots C S kc kw) (h1 : va_P Γ.1 vwCl (xW Γ.2.1 ad G D' R') H1) (h2 : va_D A (xW Γ.2.1 ad G D' R')) (h3 : va_S A s.heap H1 locs1) (hw : xwf G R') (h' : ∀ v ∈ st', xok G v) : xS Γ μ s A ad L st' G D' R' H1 locs1 ls cells slots C S kc kw := ⟨⟨h1, h2, h3⟩, h.2.1, hw, h.2.2.2.1, h.2.2.2.2.1, h', h.2.2.2.2.2.2⟩
/-- putfield of a number -/
theorem ex_puti {q idx c k : Nat} {x : Int32} {C : String} {T : u_T} {N : Nat} {ty : Nat → FieldType} (hd : decode μ.2.1 pc = .ok (.putfield idx, 3)) (hc : vwCl[c]? = some (C, T, N)) (hin : ∀ w ∈ u_ws C T N, w ∈ xT) (hty : ∀ k, k < N → parseFieldDescriptor (T k).2.2.1 = some (ty k)) (hnm : ∀ a, a < N → ∀ b, b < N → a ≠ b → (T a).2.1 ≠ (T b).2.1) (hk : k < N) (hN : N = xnf c) (hc16 : c < 16) (hl : Cond.fieldLink μ.1.cls idx (T k).1 (T k).2.1 (T k).2.2.1 ∈ xT) (hfin : (T k).2.2.2 = false ∨ ((T k).2.2.2 = true ∧ μ.1.name = "<init>" ∧ (T k).1 = μ.1.cls)) (hr : xisRf (xTy c k) = false) (hn : narrow (ty k) (.int x) = .int x) (hf : fits (ty k) (.int x) = true) (hq : xis G q c)
    (kk : Ex Γ l f μ (pc + 3) L st G (xdu D q k x) R kc kw Q) : Ex Γ l f μ pc L (.int x :: .ref q :: st) G D R kc kw Q := by
  intro p e s m args below meth c0 A Qc H locs ls cells slots C0 S ad hF hS hQ
  obtain ⟨hx, hb, hml, hown, hts, hlk, hrt, hnm2, hK, hE, hA⟩ := id hF
  have hset := xset_o (tA := Γ.2.1) (ad := ad) (R' := R) (v := .int x) hq hc16 (xdu_o D R q k x).1 (xdu_o D R q k x).2 (by simp [xfv, hr, xdu_self, upd_self])
  have hlen : k < ((List.range (xnf c)).map (xfv ad c (D q) (R q))).length := by simp; omega
  rcases hfin with h0 | ⟨h0, h1, h2⟩
  · refine va_put (v := .int x) hx hb hts hin ty hty hnm hown hK hS.1.1 hS.1.2.1 hS.1.2.2 q (xis_cell hq hc16) hc k hk (hts _ hl) (fun _ h => h) h0 (hty k hk) hn hf hlen hd (fun H1 locs1 hP1 hD1 hS1 => ?_)
    rw [hset] at hP1 hD1
    exact kk p e s m args below meth c0 A Qc H1 locs1 ls cells slots C0 S ad hF (hS.put hP1 hD1 hS1 hS.2.2.1 (xo_t (xo_t hS.ok))) hQ
  · refine va_putF (v := .int x) hx hb hts hin ty hty hnm hown hK hS.1.1 hS.1.2.1 hS.1.2.2 q (xis_cell hq hc16) hc k hk (hts _ hl) (fun _ h => h) h0 (hnm2.trans h1) h2 (hty k hk) hn hf hlen hd (fun H1 locs1 hP1 hD1 hS1 => ?_)
    rw [hset] at hP1 hD1
    exact kk p e s m args below meth c0 A Qc H1 locs1 ls cells slots C0 S ad hF (hS.put hP1 hD1 hS1 hS.2.2.1 (xo_t (xo_t hS.ok))) hQ
/-- putfield of a reference -/
theorem ex_putr {q idx c k : Nat} {v : Value} (o : Option Nat) {C : String} {T : u_T} {N : Nat} {ty : Nat → FieldType} (hd : decode μ.2.1 pc = .ok (.putfield idx, 3)) (hc : vwCl[c]? = some (C, T, N)) (hin : ∀ w ∈ u_ws C T N, w ∈ xT) (hty : ∀ k, k < N → parseFieldDescriptor (T k).2.2.1 = some (ty k)) (hnm : ∀ a, a < N → ∀ b, b < N → a ≠ b → (T a).2.1 ≠ (T b).2.1) (hk : k < N) (hN : N = xnf c) (hc16 : c < 16) (hl : Cond.fieldLink μ.1.cls idx (T k).1 (T k).2.1 (T k).2.2.1 ∈ xT) (hfin : (T k).2.2.2 = false ∨ ((T k).2.2.2 = true ∧ μ.1.name = "<init>" ∧ (T k).1 = μ.1.cls)) (hr : xisRf (xTy c k) = true) (hn : ∀ w : Option Nat, narrow (ty k) (va_rf w) = va_rf w ∧ fits (ty k) (va_rf w) = true) (hv : v = xrv o) (ho : ∀ r, o = some r → r < G.1) (hq : xis G q c)
    (kk : Ex Γ l f μ (pc + 3) L st G D (xru R q k o) kc kw Q) : Ex Γ l f μ pc L (v :: .ref q :: st) G D R kc kw Q := by
  intro p e s m args below meth c0 A Qc H locs ls cells slots C0 S ad hF hS hQ
  obtain ⟨hx, hb, hml, hown, hts, hlk, hrt, hnm2, hK, hE, hA⟩ := id hF
  subst hv
  have hset := xset_o (tA := Γ.2.1) (ad := ad) (D' := D) (v := va_rf (o.map ad)) hq hc16 (xru_o D R q k o).1 (xru_o D R q k o).2 (by simp [xfv, hr, xru_self, va_up_self])
  have hlen : k < ((List.range (xnf c)).map (xfv ad c (D q) (R q))).length := by simp; omega
  refine W.eq (g2 := F0 m pc ls (va_rf (o.map ad) :: .ref (ad q) :: st.map (xtv ad))) (by rw [← xtv_rv]; rfl) ?_
  rcases hfin with h0 | ⟨h0, h1, h2⟩
  · refine va_put hx hb hts hin ty hty hnm hown hK hS.1.1 hS.1.2.1 hS.1.2.2 q (xis_cell hq hc16) hc k hk (hts _ hl) (fun _ h => h) h0 (hty k hk) (hn _).1 (hn _).2 hlen hd (fun H1 locs1 hP1 hD1 hS1 => ?_)
    rw [hset] at hP1 hD1
    exact kk p e s m args below meth c0 A Qc H1 locs1 ls cells slots C0 S ad hF (hS.put hP1 hD1 hS1 (xru_wf hS.2.2.1 ho) (xo_t (xo_t hS.ok))) hQ
  · refine va_putF hx hb hts hin ty hty hnm hown hK hS.1.1 hS.1.2.1 hS.1.2.2 q (xis_cell hq hc16) hc k hk (hts _ hl) (fun _ h => h) h0 (hnm2.trans h1) h2 (hty k hk) (hn _).1 (hn _).2 hlen hd (fun H1 locs1 hP1 hD1 hS1 => ?_)
    rw [hset] at hP1 hD1
    exact kk p e s m args below meth c0 A Qc H1 locs1 ls cells slots C0 S ad hF (hS.put hP1 hD1 hS1 (xru_wf hS.2.2.1 ho) (xo_t (xo_t hS.ok))) hQ
/-! arrays -/
theorem ex_iald {q n : Nat} {i : Int32} (hd : decode μ.2.1 pc = .ok (.iaload, 1)) (hq : xia G q 0 n) (hi : vp_in i n) (kk : Ex Γ l f μ (pc + 1) L (.int (D q i.toNatClampNeg) :: st) G D R kc kw Q) : Ex Γ l f μ pc L (.int i :: .ref q :: st) G D R kc kw Q := by
  intro p e s m args below meth c0 A Qc H locs ls cells slots C0 S ad hF hS hQ
  obtain ⟨hx, hb, hml, hown, hts, hlk, hrt, hnm, hK, hE, hA⟩ := id hF
  exact va_iald hx hb hK hS.1.1 q 0 (xia_i hq (by decide)) (xtys Γ (by decide)) hi hd (kk p e s m args below meth c0 A Qc H locs ls cells slots C0 S ad hF (hS.ps (xo_i (xo_t (xo_t hS.ok)))) hQ)
theorem ex_bald {q n : Nat} {i : Int32} (hd : decode μ.2.1 pc = .ok (.baload, 1)) (hq : xia G q 1 n) (hi : vp_in i n) (kk : Ex Γ l f μ (pc + 1) L (.int (D q i.toNatClampNeg) :: st) G D R kc kw Q) : Ex Γ l f μ pc L (.int i :: .ref q :: st) G D R kc kw Q := by
  intro p e s m args below meth c0 A Qc H locs ls cells slots C0 S ad hF hS hQ
  obtain ⟨hx, hb, hml, hown, hts, hlk, hrt, hnm, hK, hE, hA⟩ := id hF
  exact va_bald hx hb hK hS.1.1 q 1 (xia_i hq (by decide)) (xtys Γ (by decide)) hi hd (kk p e s m args below meth c0 A Qc H locs ls cells slots C0 S ad hF (hS.ps (xo_i (xo_t (xo_t hS.ok)))) hQ)
theorem ex_zald {q n : Nat} {i : Int32} (hd : decode μ.2.1 pc = .ok (.baload, 1)) (hq : xia G q 2 n) (hi : vp_in i n) (kk : Ex Γ l f μ (pc + 1) L (.int (D q i.toNatClampNeg) :: st) G D R kc kw Q) : Ex Γ l f μ pc L (.int i :: .ref q :: st) G D R kc kw Q := by
  intro p e s m args below meth c0 A Qc H locs ls cells slots C0 S ad hF hS hQ
  obtain ⟨hx, hb, hml, hown, hts, hlk, hrt, hnm, hK, hE, hA⟩ := id hF
  exact va_zald hx hb hK hS.1.1 q 2 (xia_i hq (by decide)) (xtys Γ (by decide)) hi hd (kk p e s m args below meth c0 A Qc H locs ls cells slots C0 S ad hF (hS.ps (xo_i (xo_t (xo_t hS.ok)))) hQ)
theorem ex_aald {q t n : Nat} {i : Int32} {o : Option Nat} (hd : decode μ.2.1 pc = .ok (.aaload, 1)) (hq : xia G q t n) (h3 : 3 ≤ t) (h7 : t < 7) (hi : vp_in i n) (ho : R q i.toNatClampNeg = o) (kk : Ex Γ l f μ (pc + 1) L (xrv o :: st) G D R kc kw Q) : Ex Γ l f μ pc L (.int i :: .ref q :: st) G D R kc kw Q := by
  intro p e s m args below meth c0 A Qc H locs ls cells slots C0 S ad hF hS hQ
  obtain ⟨hx, hb, hml, hown, hts, hlk, hrt, hnm, hK, hE, hA⟩ := id hF
  subst ho
  have hk := kk p e s m args below meth c0 A Qc H locs ls cells slots C0 S ad hF (hS.ps (xo_c (xok_rv hS.2.2.1 q _) (xo_t (xo_t hS.ok)))) hQ
  have hk : W p l e (xRm f C0 S) s m args below meth c0 H locs cells slots (MQ below Qc args s C0 S A) (F0 m (pc + 1) ls (va_rf ((R q i.toNatClampNeg).map ad) :: st.map (xtv ad))) := by
    rw [← xtv_rv]
    exact hk
  obtain ⟨C, hC⟩ : ∃ C, xAt t = .object C := by
    match t, h3, h7 with
    | 3, _, _ => exact ⟨_, rfl⟩
    | 4, _, _ => exact ⟨_, rfl⟩
    | 5, _, _ => exact ⟨_, rfl⟩
    | 6, _, _ => exact ⟨_, rfl⟩
  exact va_aldq hx hb hK hS.1.1 q t (xia_q hq h3) (by rw [xtys Γ h7, hC]) hi hd hk
theorem ex_alen {q t n : Nat} (hd : decode μ.2.1 pc = .ok (.arraylength, 1)) (hq : xia G q t n) (h7 : t < 7) (kk : Ex Γ l f μ (pc + 1) L (.int (Int32.ofNat n) :: st) G D R kc kw Q) : Ex Γ l f μ pc L (.ref q :: st) G D R kc kw Q := by
  intro p e s m args below meth c0 A Qc H locs ls cells slots C0 S ad hF hS hQ
  obtain ⟨hx, hb, hml, hown, hts, hlk, hrt, hnm, hK, hE, hA⟩ := id hF
  have hk := kk p e s m args below meth c0 A Qc H locs ls cells slots C0 S ad hF (hS.ps (xo_i (xo_t hS.ok))) hQ
  by_cases h3 : t < 3
  · exact va_alen hx hb hK hS.1.1 q t (xia_i hq h3) (xtys Γ h7) rfl hd hk
  · exact va_alen hx hb hK hS.1.1 q t (xia_q hq (by omega)) (xtys Γ h7) rfl hd hk
theorem xset_i {tA : Nat → ClassId} {ad : Nat → Nat} {q t n k : Nat} {x : Int32} (hq : xia G q t n) (ht : t < 3) : (xW tA ad G D R).set q (ad q, .inl (tA t, n, .inl (upd (D q) k x))) = xW tA ad G (xdu D q k x) R := by
  refine xW_set hq.1 (xdu_o D R q k x).1 ?_
  rw [hq.2, xcell_i t n ht, xdu_self]
theorem xset_q {tA : Nat → ClassId} {ad : Nat → Nat} {q t n k : Nat} {o : Option Nat} (hq : xia G q t n) (ht : 3 ≤ t) : (xW tA ad G D R).set q (ad q, .inl (tA t, n, .inr (.inr (.inr (.inr (va_up (fun j => (R q j).map ad) k (o.map ad))))))) = xW tA ad G D (xru R q k o) := by
  refine xW_set hq.1 (xru_o D R q k o).1 ?_
  rw [hq.2, xcell_q t n ht, xru_self]
  congr
  funext j
  by_cases h : j = k
  · subst h; simp [va_up_self]
  · simp [va_up_ne _ _ h]
theorem ex_iast {q n : Nat} {i x : Int32} (hd : decode μ.2.1 pc = .ok (.iastore, 1)) (hq : xia G q 0 n) (hi : vp_in i n) (kk : Ex Γ l f μ (pc + 1) L st G (xdu D q i.toNatClampNeg x) R kc kw Q) : Ex Γ l f μ pc L (.int x :: .int i :: .ref q :: st) G D R kc kw Q := by
  intro p e s m args below meth c0 A Qc H locs ls cells slots C0 S ad hF hS hQ
  obtain ⟨hx, hb, hml, hown, hts, hlk, hrt, hnm, hK, hE, hA⟩ := id hF
  refine va_iast hx hb hK hS.1.1 hS.1.2.1 hS.1.2.2 q 0 (xia_i hq (by decide)) (xtys Γ (by decide)) hi hd (fun H1 locs1 hP1 hD1 hS1 => ?_)
  rw [xset_i hq (by decide)] at hP1 hD1
  exact kk p e s m args below meth c0 A Qc H1 locs1 ls cells slots C0 S ad hF (hS.put hP1 hD1 hS1 hS.2.2.1 (xo_t (xo_t (xo_t hS.ok)))) hQ
theorem ex_bast {q n : Nat} {i x : Int32} (hd : decode μ.2.1 pc = .ok (.bastore, 1)) (hq : xia G q 1 n) (hi : vp_in i n) (kk : Ex Γ l f μ (pc + 1) L st G (xdu D q i.toNatClampNeg (vp_nar .byte x)) R kc kw Q) : Ex Γ l f μ pc L (.int x :: .int i :: .ref q :: st) G D R kc kw Q := by
  intro p e s m args below meth c0 A Qc H locs ls cells slots C0 S ad hF hS hQ
  obtain ⟨hx, hb, hml, hown, hts, hlk, hrt, hnm, hK, hE, hA⟩ := id hF
  refine va_bast hx hb hK hS.1.1 hS.1.2.1 hS.1.2.2 q 1 (xia_i hq (by decide)) (xtys Γ (by decide)) hi hd (fun H1 locs1 hP1 hD1 hS1 => ?_)
  rw [xset_i hq (by decide)] at hP1 hD1
  exact kk p e s m args below meth c0 A Qc H1 locs1 ls cells slots C0 S ad hF (hS.put hP1 hD1 hS1 hS.2.2.1 (xo_t (xo_t (xo_t hS.ok)))) hQ
theorem ex_zast {q n : Nat} {i x : Int32} (hd : decode μ.2.1 pc = .ok (.bastore, 1)) (hq : xia G q 2 n) (hi : vp_in i n) (kk : Ex Γ l f μ (pc + 1) L st G (xdu D q i.toNatClampNeg (vp_nar .boolean x)) R kc kw Q) : Ex Γ l f μ pc L (.int x :: .int i :: .ref q :: st) G D R kc kw Q := by
  intro p e s m args below meth c0 A Qc H locs ls cells slots C0 S ad hF hS hQ
  obtain ⟨hx, hb, hml, hown, hts, hlk, hrt, hnm, hK, hE, hA⟩ := id hF
  refine va_zast hx hb hK hS.1.1 hS.1.2.1 hS.1.2.2 q 2 (xia_i hq (by decide)) (xtys Γ (by decide)) hi hd (fun H1 locs1 hP1 hD1 hS1 => ?_)
  rw [xset_i hq (by decide)] at hP1 hD1
  exact kk p e s m args below meth c0 A Qc H1 locs1 ls cells slots C0 S ad hF (hS.put hP1 hD1 hS1 hS.2.2.1 (xo_t (xo_t (xo_t hS.ok)))) hQ
/-- aastore of an object of the array's own class (which is number c of the classes, place t of the array classes) -/
theorem ex_aast {q t n q' c : Nat} {i : Int32} {r : vw_C} (hd : decode μ.2.1 pc = .ok (.aastore, 1)) (hq : xia G q t n) (h3 : 3 ≤ t) (h7 : t < 7) (hi : vp_in i n) (hc : vwCl[c]? = some r) (hc16 : c < 16) (ht : xAt t = .object r.1) (hq' : xis G q' c) (kk : Ex Γ l f μ (pc + 1) L st G D (xru R q i.toNatClampNeg (some q')) kc kw Q) : Ex Γ l f μ pc L (.ref q' :: .int i :: .ref q :: st) G D R kc kw Q := by
  intro p e s m args below meth c0 A Qc H locs ls cells slots C0 S ad hF hS hQ
  obtain ⟨hx, hb, hml, hown, hts, hlk, hrt, hnm, hK, hE, hA⟩ := id hF
  refine va_astq hx hb hK hS.1.1 hS.1.2.1 hS.1.2.2 q t q' c (xia_q hq h3) (by rw [xtys Γ h7, ht]) (xis_cell hq' hc16) hc hi hd (fun H1 locs1 hP1 hD1 hS1 => ?_)
  have e9 := xset_q (tA := Γ.2.1) (ad := ad) (D := D) (R := R) (k := i.toNatClampNeg) (o := some q') hq h3
  rw [Option.map_some] at e9
  rw [e9] at hP1 hD1
  exact kk p e s m args below meth c0 A Qc H1 locs1 ls cells slots C0 S ad hF (hS.put hP1 hD1 hS1 (xru_wf hS.2.2.1 (fun r h => by cases h; exact hq'.1)) (xo_t (xo_t (xo_t hS.ok)))) hQ
/-! new cells -/
theorem xQ.grow {s : State} {A : Nat → Prop} {args : Array Value} {Qc : Array Value → State → Outcome → State → Prop} {ad ad1 : Nat → Nat} {G1 : xG} {kc1 : Nat} (hQ : xQ Γ s A args Qc ad G kc Q) (ha : xag G ad ad1) (h1 : G.1 ≤ G1.1) (h2 : G1.1 + kc1 ≤ G.1 + kc) : xQ Γ s A args Qc ad1 G1 kc1 Q := fun ad' v G' D' R' t h3 h4 h5 h6 h7 h8 h9 h10 h11 =>
  hQ ad' v G' D' R' t (fun q hq => (h3 q (hq.imp (fun z => Nat.lt_of_lt_of_le z h1) id)).trans (ha q hq)) (Nat.le_trans h1 h4) (by omega) h6 h7 h8 h9 h10 h11
theorem xL.ag {ls : Array Slot} {n : Nat} {ad ad' : Nat → Nat} (h : xL ls n ad L) (hag : xag G ad ad') (hok : ∀ v, some v ∈ L → xok G v) : xL ls n ad' L := ⟨h.1, h.2.1, h.2.2.1, fun i v hi => by rw [xtv_ag hag (hok v (List.mem_of_getElem? hi))]; exact h.2.2.2 i v hi⟩
theorem xS.push {s : State} {A : Nat → Prop} {ad : Nat → Nat} {H H1 : Heap} {locs locs1 : List Loc} {ls : Array Slot} {cells slots C S : Nat} {st' : List Value} {a : Nat} {k : Nat × Nat} {N kc1 kw1 : Nat} {e : va_E} (h : xS Γ μ s A ad L st G D R H locs ls cells slots C S kc kw) (he : e = xcell Γ.2.1 ad k (fun _ => 0) (fun _ => none)) (h1 : va_P Γ.1 vwCl (xW Γ.2.1 ad G D R ++ [(a, e)]) H1) (h2 : va_D A (xW Γ.2.1 ad G D R ++ [(a, e)])) (h3 : va_S A s.heap H1 locs1) (hkc : kc1 + 1 ≤ kc) (hkw : kw1 + N ≤ kw) (h' : ∀ v ∈ st', xok G v) :
    xS Γ μ s A (va_up ad G.1 a) L (.ref G.1 :: st') (G.1 + 1, va_up G.2 G.1 k) (va_up D G.1 (fun _ => 0)) (va_up R G.1 (fun _ => none)) H1 locs1 ls (cells + 1) (slots + N) C S kc1 kw1 ∧ xag G ad (va_up ad G.1 a) := by
  have hb : G.1 < 1000000 := by have := h.2.2.2.2.2.2.1; omega
  obtain ⟨e1, e2, e3⟩ := xpush (tA := Γ.2.1) (ad := ad) (G := G) (D := D) (R := R) h.2.2.1 hb a k (fun _ => 0) (fun _ => none) (fun _ _ h => by cases h) he
  rw [e1] at h1 h2
  refine ⟨⟨⟨h1, h2, h3⟩, fun k => ?_, e3, h.2.2.2.1.ag e2 h.2.2.2.2.1, fun v hv => xok_mono (Nat.le_succ _) (h.2.2.2.2.1 v hv), xo_c (Or.inl (Nat.lt_succ_self _)) (fun v hv => xok_mono (Nat.le_succ _) (h' v hv)), ?_, ?_, ?_⟩, e2⟩
  · rw [e2 _ (Or.inr (Nat.le_add_right _ _))]
    exact h.2.1 k
  · have := h.2.2.2.2.2.2.1
    show G.1 + 1 + kc1 ≤ 1000000
    omega
  · have := h.2.2.2.2.2.2.2.1; omega
  · have := h.2.2.2.2.2.2.2.2; omega
theorem xpush_w {ad : Nat → Nat} {a : Nat} {w : List Value} (hag : xag G ad (va_up ad G.1 a)) (h : ∀ v ∈ w, xok G v) : Value.ref a :: w.map (xtv ad) = (Value.ref G.1 :: w).map (xtv (va_up ad G.1 a)) := by
  rw [List.map_cons, xtvs_ag hag h]
  simp [xtv, va_up_self]
theorem ex_new {idx c kc1 kw1 : Nat} {C : String} {T : u_T} {N : Nat} {ty : Nat → FieldType} (hd : decode μ.2.1 pc = .ok (.new idx, 3)) (hc : vwCl[c]? = some (C, T, N)) (hin : ∀ w ∈ u_ws C T N, w ∈ xT) (hty : ∀ k, k < N → parseFieldDescriptor (T k).2.2.1 = some (ty k)) (hN : N = xnf c) (hc16 : c < 16) (hdef : ∀ j, j < N → defaultValue (ty j) = if xisRf (xTy c j) = true then .null else .int 0) (hl : Cond.classLink μ.1.cls idx C ∈ xT) (hi : Cond.instantiable C N ∈ xT) (hini : Cond.initialized C ∈ xT) (hkc : kc1 + 1 ≤ kc) (hkw : kw1 + N ≤ kw)
    (kk : Ex Γ l f μ (pc + 3) L (.ref G.1 :: st) (G.1 + 1, va_up G.2 G.1 (c, 0)) (va_up D G.1 (fun _ => 0)) (va_up R G.1 (fun _ => none)) kc1 kw1 Q) : Ex Γ l f μ pc L st G D R kc kw Q := by
  intro p e s m args below meth c0 A Qc H locs ls cells slots C0 S ad hF hS hQ
  obtain ⟨hx, hb, hml, hown, hts, hlk, hrt, hnm, hK, hE, hA⟩ := id hF
  have hcS := hS.2.2.2.2.2.2.2
  refine va_new (fs := (List.range (xnf c)).map (xfv ad c (fun _ => 0) (fun _ => none))) hx hb hts hin ty hty hown (hts _ hl) (hts _ hi) (hts _ hini) hK hS.1.1 hS.1.2.1 hS.1.2.2 hA hc (fun j hj => ?_) (by show _ ≤ C0; omega) (by show _ ≤ S; omega) hd (fun q H1 hP1 hD1 hS1 => ?_)
  · rw [hdef j hj]
    simp only [vp_V, List.getD_eq_getElem?_getD]
    rw [xfs_at _ _ _ _ (by omega)]
    simp only [xfv, Option.getD_some]
    split <;> rfl
  · obtain ⟨hS2, hag⟩ := hS.push (k := (c, 0)) (xcell_o (k := (c, 0)) hc16 _ _).symm hP1 hD1 hS1 hkc hkw hS.ok
    rw [xpush_w hag hS.ok]
    exact kk p e s m args below meth c0 A Qc H1 locs ls (cells + 1) (slots + N) C0 S (va_up ad G.1 q) hF hS2 (hQ.grow hag (Nat.le_succ _) (by show G.1 + 1 + kc1 ≤ _; omega))
theorem ex_newa {t n kc1 kw1 : Nat} {x : Int32} {at0 : ArrayType} (hd : decode μ.2.1 pc = .ok (.newarray at0, 2)) (hty : newarray.typeOf at0 = xAt t) (h3 : t < 3) (hl : Cond.arrayClass (xAt t) ∈ xT) (hx0 : ¬ x < 0) (hn : x.toNatClampNeg = n) (hb8 : n * 8 ≤ 536870912) (hkc : kc1 + 1 ≤ kc) (hkw : kw1 + n ≤ kw)
    (kk : Ex Γ l f μ (pc + 2) L (.ref G.1 :: st) (G.1 + 1, va_up G.2 G.1 (16 + t, n)) (va_up D G.1 (fun _ => 0)) (va_up R G.1 (fun _ => none)) kc1 kw1 Q) : Ex Γ l f μ pc L (.int x :: st) G D R kc kw Q := by
  intro p e s m args below meth c0 A Qc H locs ls cells slots C0 S ad hF hS hQ
  obtain ⟨hx, hb, hml, hown, hts, hlk, hrt, hnm, hK, hE, hA⟩ := id hF
  have hcS := hS.2.2.2.2.2.2.2
  have hdv : defaultValue (xAt t) = .int 0 := by
    match t, h3 with
    | 0, _ => rfl
    | 1, _ => rfl
    | 2, _ => rfl
  have hcb : n * componentBytes (xAt t) ≤ 536870912 := by
    match t, h3 with
    | 0, _ => simp only [xAt, componentBytes]; omega
    | 1, _ => simp only [xAt, componentBytes]; omega
    | 2, _ => simp only [xAt, componentBytes]; omega
  refine va_newa (a0 := (n, .inl (fun _ => 0))) hx hb (by rw [hty]; exact hts _ hl) hty hK hS.1.1 hS.1.2.1 hS.1.2.2 hA (fun cA => by rw [vp_cell_i, hdv]) hx0 hn hcb (by show _ ≤ C0; omega) (by show _ ≤ S; omega) hd (fun q cA H1 hK1 hP1 hD1 hS1 => ?_)
  have hcA : cA = Γ.2.1 t := by
    have g1 := (hK1.2 7 (cA, xAt t) (by simp)).2
    have g2 := (hK.2 t (Γ.2.1 t, xAt t) (xtys Γ (by omega))).2
    match t, h3, g1, g2 with
    | 0, _, g1, g2 => exact Option.some.inj (g1.symm.trans g2)
    | 1, _, g1, g2 => exact Option.some.inj (g1.symm.trans g2)
    | 2, _, g1, g2 => exact Option.some.inj (g1.symm.trans g2)
  subst hcA
  obtain ⟨hS2, hag⟩ := hS.push (k := (16 + t, n)) (xcell_i t n h3 _ _).symm hP1 hD1 hS1 hkc hkw (xo_t hS.ok)
  rw [xpush_w hag (xo_t hS.ok)]
  exact kk p e s m args below meth c0 A Qc H1 locs ls (cells + 1) (slots + n) C0 S (va_up ad G.1 q) hF hS2 (hQ.grow hag (Nat.le_succ _) (by show G.1 + 1 + kc1 ≤ _; omega))
theorem ex_anewa {idx t n kc1 kw1 : Nat} {x : Int32} {C : String} (hd : decode μ.2.1 pc = .ok (.anewarray idx, 3)) (hty : xAt t = .object C) (h3 : 3 ≤ t) (h7 : t < 7) (hC : C ∈ xOv) (hl : Cond.classLink μ.1.cls idx C ∈ xT) (hx0 : ¬ x < 0) (hn : x.toNatClampNeg = n) (hb8 : n * 4 ≤ 536870912) (hkc : kc1 + 1 ≤ kc) (hkw : kw1 + n ≤ kw)
    (kk : Ex Γ l f μ (pc + 3) L (.ref G.1 :: st) (G.1 + 1, va_up G.2 G.1 (16 + t, n)) (va_up D G.1 (fun _ => 0)) (va_up R G.1 (fun _ => none)) kc1 kw1 Q) : Ex Γ l f μ pc L (.int x :: st) G D R kc kw Q := by
  intro p e s m args below meth c0 A Qc H locs ls cells slots C0 S ad hF hS hQ
  obtain ⟨hx, hb, hml, hown, hts, hlk, hrt, hnm, hK, hE, hA⟩ := id hF
  have hcS := hS.2.2.2.2.2.2.2
  refine va_newq hx hb hown (hts _ hl) (hE.2.1 C hC) hK hS.1.1 hS.1.2.1 hS.1.2.2 hA hx0 hn hb8 (by show _ ≤ C0; omega) (by show _ ≤ S; omega) hd (fun q cA H1 hK1 hP1 hD1 hS1 => ?_)
  have hcA : cA = Γ.2.1 t := by
    have g1 := (hK1.2 7 (cA, .object C) (by simp)).2
    have g2 := (hK.2 t (Γ.2.1 t, xAt t) (xtys Γ (by omega))).2
    rw [hty] at g2
    obtain ⟨_, _, _, _, _, g1⟩ := g1
    obtain ⟨_, _, _, _, _, g2⟩ := g2
    exact Option.some.inj (g1.symm.trans g2)
  subst hcA
  obtain ⟨hS2, hag⟩ := hS.push (k := (16 + t, n)) (e := .inl (Γ.2.1 t, n, .inr (.inr (.inr (.inr (fun _ => none)))))) (by rw [xcell_q t n h3]; rfl) hP1 hD1 hS1 hkc hkw (xo_t hS.ok)
  rw [xpush_w hag (xo_t hS.ok)]
  exact kk p e s m args below meth c0 A Qc H1 locs ls (cells + 1) (slots + n) C0 S (va_up ad G.1 q) hF hS2 (hQ.grow hag (Nat.le_succ _) (by show G.1 + 1 + kc1 ≤ _; omega))
/-- a text constant -/
theorem ex_ldcS {i idx : Nat} {w : String × Nat × String} (hd : decode μ.2.1 pc = .ok (.ldc idx, 2)) (hw : xStr[i]? = some w) (h1 : w.1 = μ.1.cls) (h2 : w.2.1 = idx) (kk : Ex Γ l f μ (pc + 2) L (.ref (1000000 + i) :: st) G D R kc kw Q) : Ex Γ l f μ pc L st G D R kc kw Q := by
  intro p e s m args below meth c0 A Qc H locs ls cells slots C0 S ad hF hS hQ
  obtain ⟨hx, hb, hml, hown, hts, hlk, hrt, hnm, hK, hE, hA⟩ := id hF
  have hk := kk p e s m args below meth c0 A Qc H locs ls cells slots C0 S ad hF (hS.ps (xo_c (Or.inr (Nat.le_add_right _ _)) hS.ok)) hQ
  have hR := hE.2.2.1 i w hw
  rw [h1, h2] at hR
  refine va_ldcS hx hb hown hR hd ?_
  rw [← hS.2.1 i]
  exact hk
end XC
