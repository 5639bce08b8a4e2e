/-! ===== THE PURE HEAP: cells by number, 'ad' ties numbers to the machine's addresses ===== -/
abbrev xG : Type := Nat × (Nat → Nat × Nat)
abbrev xD : Type := Nat → Nat → Int32
abbrev xR : Type := Nat → Nat → Option Nat
abbrev xMt : Type := MethodName × ByteArray × Nat × Option FieldType
abbrev xGm : Type := va_G × (Nat → ClassId) × (Nat → Nat) × (Nat → Nat)
def xTy : Nat → Nat → FieldType
  | 0 => tyX0
  | 1 => tyX1
  | 2 => tyX2
  | 3 => tyX3
  | 4 => tyX4
  | 5 => tyX5
  | 6 => tyX6
  | 7 => tyX7
  | 8 => tyX8
  | 9 => tyX9
  | _ => tyX10
def xnf : Nat → Nat
  | 0 => 5
  | 1 => 2
  | 2 => 2
  | 3 => 4
  | 4 => 2
  | 5 => 2
  | 6 => 7
  | 7 => 3
  | 8 => 2
  | 9 => 14
  | _ => 43
def xisRf : FieldType → Bool
  | .array _ => true
  | .object _ => true
  | _ => false
def xAt : Nat → FieldType
  | 0 => .int
  | 1 => .byte
  | 2 => .boolean
  | 3 => .object RX6
  | 4 => .object RX5
  | 5 => .object RX3
  | _ => .object RX8
def xtv (ad : Nat → Nat) : Value → Value
  | .ref q => .ref (ad q)
  | v => v
def xrv : Option Nat → Value
  | none => .null
  | some q => .ref q
def xfv (ad : Nat → Nat) (c : Nat) (d : Nat → Int32) (r : Nat → Option Nat) (j : Nat) : Value := if xisRf (xTy c j) = true then va_rf ((r j).map ad) else .int (d j)
def xcell (tA : Nat → ClassId) (ad : Nat → Nat) (k : Nat × Nat) (d : Nat → Int32) (r : Nat → Option Nat) : va_E :=
  if k.1 < 16 then .inr (k.1, (List.range (xnf k.1)).map (xfv ad k.1 d r))
  else if k.1 < 19 then .inl (tA (k.1 - 16), k.2, .inl d)
  else .inl (tA (k.1 - 16), k.2, .inr (.inr (.inr (.inr (fun j => (r j).map ad)))))
def xW (tA : Nat → ClassId) (ad : Nat → Nat) (G : xG) (D : xD) (R : xR) : va_W := (List.range G.1).map (fun q => (ad q, xcell tA ad (G.2 q) (D q) (R q)))
def xdu (D : xD) (q k : Nat) (x : Int32) : xD := fun q' => if q' = q then upd (D q) k x else D q'
def xru (R : xR) (q k : Nat) (o : Option Nat) : xR := fun q' => if q' = q then va_up (R q) k o else R q'
/-- a value that may lie on the stack: an int, null, a cell's number, a text constant's number -/
def xok (G : xG) : Value → Prop
  | .int _ => True
  | .null => True
  | .ref q => q < G.1 ∨ 1000000 ≤ q
  | _ => False
def xwf (G : xG) (R : xR) : Prop := ∀ q k r : Nat, R q k = some r → r < G.1
def xag (G : xG) (ad ad' : Nat → Nat) : Prop := ∀ q : Nat, q < G.1 ∨ 1000000 ≤ q → ad' q = ad q
theorem xW_at (tA : Nat → ClassId) (ad : Nat → Nat) {G : xG} (D : xD) (R : xR) {q : Nat} (h : q < G.1) : (xW tA ad G D R)[q]? = some (ad q, xcell tA ad (G.2 q) (D q) (R q)) := by
  simp [xW, h]
theorem xW_set {tA : Nat → ClassId} {ad : Nat → Nat} {G : xG} {D D' : xD} {R R' : xR} {q : Nat} (h : q < G.1) (ho : ∀ i, i ≠ q → D' i = D i ∧ R' i = R i) {e : va_E} (he : e = xcell tA ad (G.2 q) (D' q) (R' q)) : (xW tA ad G D R).set q (ad q, e) = xW tA ad G D' R' := by
  subst he
  apply List.ext_getElem?
  intro i
  simp only [xW, List.getElem?_set, List.getElem?_map, List.length_map, List.length_range]
  by_cases hi : q = i
  · subst hi
    simp [h]
  · rw [if_neg hi]
    by_cases h2 : i < G.1
    · simp [List.getElem?_range h2, (ho i (Ne.symm hi)).1, (ho i (Ne.symm hi)).2]
    · simp [List.getElem?_eq_none, h2]
theorem xfv_ag {ad ad' : Nat → Nat} {c : Nat} {d : Nat → Int32} {r : Nat → Option Nat} (h : ∀ k q, r k = some q → ad' q = ad q) : xfv ad' c d r = xfv ad c d r := by
  funext j
  unfold xfv
  cases hr : r j with
  | none => rfl
  | some q => simp [h j q hr]
theorem xcell_ag {tA : Nat → ClassId} {ad ad' : Nat → Nat} {k : Nat × Nat} {d : Nat → Int32} {r : Nat → Option Nat} (h : ∀ k q, r k = some q → ad' q = ad q) : xcell tA ad' k d r = xcell tA ad k d r := by
  unfold xcell
  rw [xfv_ag h]
  have e : (fun j => (r j).map ad') = (fun j => (r j).map ad) := by
    funext j
    cases hr : r j with
    | none => rfl
    | some q => simp [h j q hr]
  rw [e]
theorem xW_ag {tA : Nat → ClassId} {ad ad' : Nat → Nat} {G : xG} {D : xD} {R : xR} (hw : xwf G R) (h : xag G ad ad') : xW tA ad' G D R = xW tA ad G D R := by
  unfold xW
  apply List.map_congr_left
  intro q hq
  have hq : q < G.1 := List.mem_range.mp hq
  rw [h q (Or.inl hq), xcell_ag (fun k r hr => h r (Or.inl (hw q k r hr)))]
theorem xtv_ag {G : xG} {ad ad' : Nat → Nat} (h : xag G ad ad') {v : Value} (hv : xok G v) : xtv ad' v = xtv ad v := by
  cases v with
  | ref q => simp only [xtv]; rw [h q hv]
  | _ => rfl
theorem xtvs_ag {G : xG} {ad ad' : Nat → Nat} (h : xag G ad ad') {st : List Value} (hv : ∀ v ∈ st, xok G v) : st.map (xtv ad') = st.map (xtv ad) := List.map_congr_left fun v hm => xtv_ag h (hv v hm)
theorem xok_mono {G G' : xG} (h : G.1 ≤ G'.1) {v : Value} (hv : xok G v) : xok G' v := by
  cases v with
  | ref q => exact hv.imp (fun z => Nat.lt_of_lt_of_le z h) id
  | int _ => trivial
  | null => trivial
  | _ => exact hv
theorem xok_cat {G : xG} {v : Value} (hv : xok G v) (ad : Nat → Nat) : (xtv ad v).category = 1 := by
  cases v with
  | ref q => rfl
  | int _ => rfl
  | null => rfl
  | _ => exact hv.elim
theorem xok_rv {G : xG} {R : xR} (hw : xwf G R) (q k : Nat) : xok G (xrv (R q k)) := by
  cases h : R q k with
  | none => trivial
  | some r => exact Or.inl (hw q k r h)
theorem xtv_rv (ad : Nat → Nat) (o : Option Nat) : xtv ad (xrv o) = va_rf (o.map ad) := by cases o <;> rfl
theorem xpush {tA : Nat → ClassId} {ad : Nat → Nat} {G : xG} {D : xD} {R : xR} (hw : xwf G R) (hG : G.1 < 1000000) (a : Nat) (k : Nat × Nat) (d : Nat → Int32) (r : Nat → Option Nat) (hr : ∀ j q, r j = some q → q < G.1) {e : va_E} (he : e = xcell tA ad k d r) :
    xW tA ad G D R ++ [(a, e)] = xW tA (va_up ad G.1 a) (G.1 + 1, va_up G.2 G.1 k) (va_up D G.1 d) (va_up R G.1 r) ∧ xag G ad (va_up ad G.1 a) ∧ xwf (G.1 + 1, va_up G.2 G.1 k) (va_up R G.1 r) := by
  have hag : xag G ad (va_up ad G.1 a) := fun q hq => va_up_ne _ _ (by omega)
  refine ⟨?_, hag, fun q j x hx => ?_⟩
  · unfold xW
    rw [List.range_succ, List.map_append]
    congr 1
    · apply List.map_congr_left
      intro q hq
      have hq : q < G.1 := List.mem_range.mp hq
      have hn : q ≠ G.1 := by omega
      simp only [va_up_ne _ _ hn]
      rw [xcell_ag (fun k x hx => hag x (Or.inl (hw q k x hx)))]
    · simp only [List.map_cons, List.map_nil, va_up_self]
      rw [he, xcell_ag (fun j q h => hag q (Or.inl (hr j q h)))]
  · show x < G.1 + 1
    by_cases hq : q = G.1
    · subst hq
      rw [va_up_self] at hx
      exact Nat.lt_succ_of_lt (hr j x hx)
    · rw [va_up_ne _ _ hq] at hx
      exact Nat.lt_succ_of_lt (hw q j x hx)
theorem xfs_at (ad : Nat → Nat) (c : Nat) (d : Nat → Int32) (r : Nat → Option Nat) {k : Nat} (h : k < xnf c) : ((List.range (xnf c)).map (xfv ad c d r))[k]? = some (xfv ad c d r k) := by simp [h]
theorem xfs_set {ad : Nat → Nat} {c : Nat} {d d' : Nat → Int32} {r r' : Nat → Option Nat} {k : Nat} {v : Value} (ho : ∀ j, j ≠ k → d' j = d j ∧ r' j = r j) (hv : v = xfv ad c d' r' k) : ((List.range (xnf c)).map (xfv ad c d r)).set k v = (List.range (xnf c)).map (xfv ad c d' r') := by
  subst hv
  apply List.ext_getElem?
  intro i
  simp only [List.getElem?_set, List.getElem?_map, List.length_map, List.length_range]
  by_cases hi : k = i
  · subst hi
    by_cases h2 : k < xnf c
    · simp [h2]
    · simp [h2, List.getElem?_eq_none]
  · rw [if_neg hi]
    by_cases h2 : i < xnf c
    · simp only [List.getElem?_range h2, Option.map_some, xfv, (ho i (Ne.symm hi)).1, (ho i (Ne.symm hi)).2]
    · simp [List.getElem?_eq_none, h2]
theorem xcell_o {tA : Nat → ClassId} {ad : Nat → Nat} {k : Nat × Nat} (h : k.1 < 16) (d : Nat → Int32) (r : Nat → Option Nat) : xcell tA ad k d r = .inr (k.1, (List.range (xnf k.1)).map (xfv ad k.1 d r)) := if_pos h
theorem xcell_i {tA : Nat → ClassId} {ad : Nat → Nat} (t n : Nat) (h : t < 3) (d : Nat → Int32) (r : Nat → Option Nat) : xcell tA ad (16 + t, n) d r = .inl (tA t, n, .inl d) := by
  unfold xcell
  rw [if_neg (by simp), if_pos (by simp; omega)]
  simp
theorem xcell_q {tA : Nat → ClassId} {ad : Nat → Nat} (t n : Nat) (h : 3 ≤ t) (d : Nat → Int32) (r : Nat → Option Nat) : xcell tA ad (16 + t, n) d r = .inl (tA t, n, .inr (.inr (.inr (.inr (fun j => (r j).map ad))))) := by
  unfold xcell
  rw [if_neg (by simp), if_neg (by simp; omega)]
  simp
/-! ===== THE WORDS: one list for all methods ===== -/
def xT : List Cond := lw_tbl.filter goodWord
theorem xw (i : Nat) {w : Cond} (h : tables_1[i]? = some w) (g : goodWord w = true) : w ∈ xT := List.mem_filter.mpr ⟨List.mem_append_right _ (List.mem_of_getElem? h), g⟩
theorem xws (i : Nat) {w : Cond} (h : (k2_sels lw_privs)[i]? = some w) (g : goodWord w = true) : w ∈ xT := List.mem_filter.mpr ⟨List.mem_append_left _ (List.mem_of_getElem? h), g⟩
def xWs (μ : xMt) : List Cond := Cond.code μ.1 μ.2.1 μ.2.2.1 μ.2.2.2 :: xT
theorem xgood {μ : xMt} (h : Cond.code μ.1 μ.2.1 μ.2.2.1 μ.2.2.2 ∈ xT) : GoodIn xT (xWs μ) := by
  intro w hw
  have hm : w ∈ xT := by
    rcases List.mem_cons.mp hw with rfl | hw
    · exact h
    · exact hw
  exact ⟨hm, good_of_word (List.mem_filter.mp hm).2⟩
/-! ===== what lies outside: nest mates' constructors, arrays of references, text constants, two statics ===== -/
def xNest : List (String × Nat × MethodName × String) := [("VeneerRows", 35, ⟨"VeneerRows$Tree", "<init>", "()V"⟩, "VeneerRows"), ("VeneerRows", 42, ⟨"VeneerRows$Output", "<init>", "()V"⟩, "VeneerRows"), ("VeneerRows", 47, ⟨"VeneerRows$Text", "<init>", "()V"⟩, "VeneerRows"), ("VeneerRows", 75, ⟨"VeneerRows$Routine", "<init>", "()V"⟩, "VeneerRows"), ("VeneerRows", 93, ⟨"VeneerRows$Line", "<init>", "()V"⟩, "VeneerRows"), ("VeneerRows$Thing", 9, ⟨"VeneerRows$Rows", "<init>", "()V"⟩, "VeneerRows")]
def xOv : List String := [RX6, RX5, RX3, RX8]
def xStr : List (String × Nat × String) := [("VeneerRows", 235, "nothing"), ("VeneerRows", 237, "(none)"), ("VeneerRows", 347, "class "), ("VeneerRows", 356, "the "), ("VeneerRows$Text", 19, "aeiouAEIOU"), ("VeneerRows", 362, "an "), ("VeneerRows", 364, "a "), ("VeneerRows", 366, "The "), ("VeneerRows", 368, "")]
def xLen : List Nat := [7, 6, 6, 4, 10, 3, 2, 4, 0]
def xByt : List (List Int32) := [[110, 111, 116, 104, 105, 110, 103], [40, 110, 111, 110, 101, 41], [99, 108, 97, 115, 115, 32], [116, 104, 101, 32], [97, 101, 105, 111, 117, 65, 69, 73, 79, 85], [97, 110, 32], [97, 32], [84, 104, 101, 32], []]
def xK (Γ : xGm) (U : State) : Prop := va_K Γ.1 vwCl ((List.range 7).map (fun t => (Γ.2.1 t, xAt t))) U
/-- the law's script (its cell, length and numbers are kept in Γ) -/
def xSc (Γ : xGm) (A : Nat → Prop) (U : State) (H : Heap) : Prop := va_X (Γ.2.2.1 19) (Γ.2.2.2 1) (fun j => Int32.ofNat (Γ.2.2.2 (2 + j))) U H ∧ Γ.2.2.1 19 < H.size ∧ ¬ A (Γ.2.2.1 19)
theorem xSc.kept {Γ : xGm} {A : Nat → Prop} {U : State} {H H1 : Heap} (h : xSc Γ A U H) (hq : ∀ a : Nat, a < H.size → ¬ A a → H1[a]? = H[a]?) : xSc Γ A U H1 := by
  have e := hq _ h.2.1 h.2.2
  refine ⟨h.1.kept e, ?_, h.2.2⟩
  obtain ⟨scr, h1, -⟩ := h.1
  rw [← e] at h1
  exact (Array.getElem?_eq_some_iff.mp h1).1
def xE (Γ : xGm) (A : Nat → Prop) (U : State) (H : Heap) : Prop := (∀ w ∈ xNest, va_Nw (.methodLinkNest w.1 w.2.1 w.2.2.1 w.2.2.2) U) ∧ (∀ C ∈ xOv, va_AO C U) ∧ (∀ (k : Nat) (w : String × Nat × String), xStr[k]? = some w → vk_R w.1 w.2.1 w.2.2 (Γ.2.2.1 k) U) ∧ vk_S 9 xLen xByt Γ.2.2.1 (fun i => Γ.2.2.1 (9 + i)) A U H ∧ va_Z "java/lang/String" "COMPACT_STRINGS" "Z" (.int 1) A U H ∧ va_Z "jdk/internal/util/Preconditions" "SIOOBE_FORMATTER" "Ljava/util/function/BiFunction;" (if Γ.2.2.2 0 = 0 then .null else .ref (Γ.2.2.1 18)) A U H ∧ xSc Γ A U H
theorem xE.moved {Γ : xGm} {A : Nat → Prop} {s U : State} {H : Heap} (hW : s.WarmedH U.vm) (h : xE Γ A s H) : xE Γ A U H := ⟨fun w hw => va_Nw.warmM hW (h.1 w hw), fun C hC => (h.2.1 C hC).moved hW.alike, fun k w hk => (h.2.2.1 k w hk).warm hW, h.2.2.2.1.moved hW.alike, h.2.2.2.2.1.moved hW.alike, h.2.2.2.2.2.1.moved hW.alike, va_X.moved hW.alike h.2.2.2.2.2.2.1, h.2.2.2.2.2.2.2⟩
theorem xE.kept {Γ : xGm} {A : Nat → Prop} {U : State} {H H1 : Heap} (h : xE Γ A U H) (hq : ∀ a : Nat, a < H.size → ¬ A a → H1[a]? = H[a]?) : xE Γ A U H1 := ⟨h.1, h.2.1, h.2.2.1, h.2.2.2.1.kept hq, h.2.2.2.2.1.kept hq, h.2.2.2.2.2.1.kept hq, h.2.2.2.2.2.2.kept hq⟩
theorem xE.narrow {Γ : xGm} {A B : Nat → Prop} {U : State} {H : Heap} (h : xE Γ A U H) (hAB : ∀ q, B q → A q) : xE Γ B U H := ⟨h.1, h.2.1, h.2.2.1, h.2.2.2.1.narrow hAB, h.2.2.2.2.1.narrow hAB, h.2.2.2.2.2.1.narrow hAB, h.2.2.2.2.2.2.1, h.2.2.2.2.2.2.2.1, fun q => h.2.2.2.2.2.2.2.2 (hAB _ q)⟩
theorem xE.blind {Γ : xGm} {A : Nat → Prop} {U : State} {H : Heap} {g : JFrame} {mk : MethodId} {a : Array Value} (h : xE Γ A U H) : xE Γ A (U.calling g mk a) H := h.moved (s := U) (State.WarmedH.refl U)
/-! ===== A METHOD'S FRAME, THE STATE OF A WALK, ITS END ===== -/
def xF (Γ : xGm) (μ : xMt) (p : Program) (s : State) (m : MethodId) (args : Array Value) (meth : Method) (c : Code) (A : Nat → Prop) : Prop :=
  p.tables.exec = Jvm.exec ∧ c.code = μ.2.1 ∧ c.maxLocals = μ.2.2.1 ∧ s.vm.findClass μ.1.cls = some m.cls ∧ (∀ w ∈ xT, w.before args s = true) ∧ meth.locks = false ∧ meth.sig.returnType = μ.2.2.2 ∧ meth.name = μ.1.name ∧ xK Γ s ∧ xE Γ A s s.heap ∧ ∀ q, s.heap.size ≤ q → A q
def xL (ls : Array Slot) (n : Nat) (ad : Nat → Nat) (L : List (Option Value)) : Prop := ls.size = n ∧ lv_wf ls ∧ L.length = n ∧ ∀ (i : Nat) (v : Value), L[i]? = some (some v) → ls[i]? = some (.val (xtv ad v))
def xS (Γ : xGm) (μ : xMt) (s : State) (A : Nat → Prop) (ad : Nat → Nat) (L : List (Option Value)) (st : List Value) (G : xG) (D : xD) (R : xR) (H : Heap) (locs : List Loc) (ls : Array Slot) (cells slots C S kc kw : Nat) : Prop :=
  (va_P Γ.1 vwCl (xW Γ.2.1 ad G D R) H ∧ va_D A (xW Γ.2.1 ad G D R) ∧ va_S A s.heap H locs) ∧ (∀ k, ad (1000000 + k) = Γ.2.2.1 k) ∧ xwf G R ∧ xL ls μ.2.2.1 ad L ∧ (∀ v, some v ∈ L → xok G v) ∧ (∀ v ∈ st, xok G v) ∧ G.1 + kc ≤ 1000000 ∧ cells + kc ≤ C ∧ slots + kw ≤ S
def xQ (Γ : xGm) (s : State) (A : Nat → Prop) (args : Array Value) (Qc : Array Value → State → Outcome → State → Prop) (ad : Nat → Nat) (G : xG) (kc : Nat) (Q : Option Value → xG → xD → xR → Prop) : Prop :=
  ∀ (ad' : Nat → Nat) (v : Option Value) (G' : xG) (D' : xD) (R' : xR) (t : State), xag G ad ad' → G.1 ≤ G'.1 → G'.1 ≤ G.1 + kc → (∀ w, v = some w → xok G' w) → xwf G' R' → Q v G' D' R' → va_P Γ.1 vwCl (xW Γ.2.1 ad' G' D' R') t.heap → va_D A (xW Γ.2.1 ad' G' D' R') → va_F A s t → Qc args s (.returned (v.map (xtv ad'))) t
def xRm (f kc kw : Nat) : Room := { frames := f, cells := kc, slots := kw, locals := 100 * f }
/-- FROM HERE ON: method μ at pc with locals L, stack st and heap (G, D, R) comes to its end with Q, making kc cells of kw slots at most, with f frames above it -/
def Ex (Γ : xGm) (l : Launch) (f : Nat) (μ : xMt) (pc : Nat) (L : List (Option Value)) (st : List Value) (G : xG) (D : xD) (R : xR) (kc kw : Nat) (Q : Option Value → xG → xD → xR → Prop) : Prop :=
  ∀ (p : Program) (e : Env) (s : State) (m : MethodId) (args : Array Value) (below : List Frame) (meth : Method) (c : Code) (A : Nat → Prop) (Qc : Array Value → State → Outcome → State → Prop) (H : Heap) (locs : List Loc) (ls : Array Slot) (cells slots C S : Nat) (ad : Nat → Nat),
    xF Γ μ p s m args meth c A → xS Γ μ s A ad L st G D R H locs ls cells slots C S kc kw → xQ Γ s A args Qc ad G kc Q →
    W p l e (xRm f C S) s m args below meth c H locs cells slots (MQ below Qc args s C S A) (F0 m pc ls (st.map (xtv ad)))
def xPre (Γ : xGm) (vs : List Value) (ad : Nat → Nat) (G : xG) (D : xD) (R : xR) (sz : Nat) : Array Value → State → Prop := va_Pc (vs.map (xtv ad)) (fun U => U.heap.size = sz ∧ va_P Γ.1 vwCl (xW Γ.2.1 ad G D R) U.heap ∧ xK Γ U ∧ va_D (fun _ => True) (xW Γ.2.1 ad G D R) ∧ xE Γ (va_A (xW Γ.2.1 ad G D R) sz) U U.heap)
def xPost (Γ : xGm) (ad : Nat → Nat) (G : xG) (D : xD) (R : xR) (sz kc : Nat) (Q : Option Value → xG → xD → xR → Prop) : Array Value → State → Outcome → State → Prop := fun _ st oc t =>
  ∃ (ad' : Nat → Nat) (v : Option Value) (G' : xG) (D' : xD) (R' : xR), (xag G ad ad' ∧ G.1 ≤ G'.1 ∧ G'.1 ≤ G.1 + kc ∧ (∀ w, v = some w → xok G' w) ∧ xwf G' R') ∧ Q v G' D' R' ∧ oc = .returned (v.map (xtv ad')) ∧ va_P Γ.1 vwCl (xW Γ.2.1 ad' G' D' R') t.heap ∧ va_D (va_A (xW Γ.2.1 ad G D R) sz) (xW Γ.2.1 ad' G' D' R') ∧ va_F (va_A (xW Γ.2.1 ad G D R) sz) st t
/-- method μ's contract at these arguments and this heap -/
def Cn (Γ : xGm) (l : Launch) (f : Nat) (μ : xMt) (vs : List Value) (G : xG) (D : xD) (R : xR) (kc kw : Nat) (Q : Option Value → xG → xD → xR → Prop) : Prop :=
  G.1 + kc ≤ 1000000 → xwf G R → (∀ v ∈ vs, xok G v) → ∀ (ad : Nat → Nat) (sz : Nat), (∀ k, ad (1000000 + k) = Γ.2.2.1 k) → Met l μ.1 (xWs μ) (xRm f kc kw) (xPre Γ vs ad G D R sz) (xPost Γ ad G D R sz kc Q) kc kw (va_A (xW Γ.2.1 ad G D R) sz)
