/-! ===== ROWS OF THE PURE WALK: what touches no cell ===== -/
section XR
variable {Γ : xGm} {l : Launch} {f : Nat} {μ : xMt} {pc : Nat} {L : List (Option Value)} {st : List Value} {G : xG} {D : xD} {R : xR} {kc kw : Nat} {Q : Option Value → xG → xD → xR → Prop}
theorem xS.ps {s : State} {A : Nat → Prop} {ad : Nat → Nat} {H : Heap} {locs : List Loc} {ls : Array Slot} {cells slots C S : Nat} {st' : List Value} (h : xS Γ μ s A ad L st G D R H locs ls cells slots C S kc kw) (h' : ∀ v ∈ st', xok G v) : xS Γ μ s A ad L st' G D R H locs ls cells slots C S kc kw := ⟨h.1, h.2.1, h.2.2.1, h.2.2.2.1, h.2.2.2.2.1, h', h.2.2.2.2.2.2⟩
theorem xS.ok {s : State} {A : Nat → Prop} {ad : Nat → Nat} {H : Heap} {locs : List Loc} {ls : Array Slot} {cells slots C S : Nat} (h : xS Γ μ s A ad L st G D R H locs ls cells slots C S kc kw) : ∀ v ∈ st, xok G v := h.2.2.2.2.2.1
theorem xo_t {a : Value} (h : ∀ v ∈ a :: st, xok G v) : ∀ v ∈ st, xok G v := fun v hv => h v (List.mem_cons_of_mem _ hv)
theorem xo_h {a : Value} (h : ∀ v ∈ a :: st, xok G v) : xok G a := h a List.mem_cons_self
theorem xo_c {a : Value} (ha : xok G a) (h : ∀ v ∈ st, xok G v) : ∀ v ∈ a :: st, xok G v := fun v hv => by
  rcases List.mem_cons.mp hv with rfl | hv
  · exact ha
  · exact h v hv
theorem xo_i {x : Int32} (h : ∀ v ∈ st, xok G v) : ∀ v ∈ Value.int x :: st, xok G v := xo_c trivial h
theorem xrv_ne (o : Option Nat) : ∀ x : Int32, xrv o ≠ .int x := by intro x; cases o <;> nofun
theorem ex_iconst {n : Int} {v : Int32} (hd : decode μ.2.1 pc = .ok (.iconst n, 1)) (hv : Int32.ofInt n = v) (k : Ex Γ l f μ (pc + 1) L (.int v :: st) G D R kc kw Q) : Ex Γ l f μ pc L st G D R kc kw Q := by
  intro p e s m args below meth c A Qc H locs ls cells slots C S ad hF hS hQ
  exact lv_iconst hF.1 hF.2.1 hd hv (k p e s m args below meth c A Qc H locs ls cells slots C S ad hF (hS.ps (xo_i hS.ok)) hQ)
theorem ex_bipush {n : Int} {v : Int32} (hd : decode μ.2.1 pc = .ok (.bipush n, 2)) (hv : (Int8.ofInt n).toInt32 = v) (k : Ex Γ l f μ (pc + 2) L (.int v :: st) G D R kc kw Q) : Ex Γ l f μ pc L st G D R kc kw Q := by
  intro p e s m args below meth c A Qc H locs ls cells slots C S ad hF hS hQ
  exact lv_bipush hF.1 hF.2.1 hd hv (k p e s m args below meth c A Qc H locs ls cells slots C S ad hF (hS.ps (xo_i hS.ok)) hQ)
theorem ex_sipush {n : Int} {v : Int32} (hd : decode μ.2.1 pc = .ok (.sipush n, 3)) (hv : (Int16.ofInt n).toInt32 = v) (k : Ex Γ l f μ (pc + 3) L (.int v :: st) G D R kc kw Q) : Ex Γ l f μ pc L st G D R kc kw Q := by
  intro p e s m args below meth c A Qc H locs ls cells slots C S ad hF hS hQ
  exact lv_sipush hF.1 hF.2.1 hd hv (k p e s m args below meth c A Qc H locs ls cells slots C S ad hF (hS.ps (xo_i hS.ok)) hQ)
theorem ex_null (hd : decode μ.2.1 pc = .ok (.aconst_null, 1)) (k : Ex Γ l f μ (pc + 1) L (.null :: st) G D R kc kw Q) : Ex Γ l f μ pc L st G D R kc kw Q := by
  intro p e s m args below meth c A Qc H locs ls cells slots C S ad hF hS hQ
  exact lv_null hF.1 hF.2.1 hd (k p e s m args below meth c A Qc H locs ls cells slots C S ad hF (hS.ps (xo_c trivial hS.ok)) hQ)
theorem ex_iadd {x y : Int32} (hd : decode μ.2.1 pc = .ok (.iadd, 1)) (k : Ex Γ l f μ (pc + 1) L (.int (x + y) :: st) G D R kc kw Q) : Ex Γ l f μ pc L (.int y :: .int x :: st) G D R kc kw Q := by
  intro p e s m args below meth c A Qc H locs ls cells slots C S ad hF hS hQ
  exact lv_iadd hF.1 hF.2.1 hd (k p e s m args below meth c A Qc H locs ls cells slots C S ad hF (hS.ps (xo_i (xo_t (xo_t hS.ok)))) hQ)
theorem ex_isub {x y : Int32} (hd : decode μ.2.1 pc = .ok (.isub, 1)) (k : Ex Γ l f μ (pc + 1) L (.int (x - y) :: st) G D R kc kw Q) : Ex Γ l f μ pc L (.int y :: .int x :: st) G D R kc kw Q := by
  intro p e s m args below meth c A Qc H locs ls cells slots C S ad hF hS hQ
  exact lv_isub hF.1 hF.2.1 hd (k p e s m args below meth c A Qc H locs ls cells slots C S ad hF (hS.ps (xo_i (xo_t (xo_t hS.ok)))) hQ)
theorem ex_imul {x y : Int32} (hd : decode μ.2.1 pc = .ok (.imul, 1)) (k : Ex Γ l f μ (pc + 1) L (.int (x * y) :: st) G D R kc kw Q) : Ex Γ l f μ pc L (.int y :: .int x :: st) G D R kc kw Q := by
  intro p e s m args below meth c A Qc H locs ls cells slots C S ad hF hS hQ
  exact lv_imul hF.1 hF.2.1 hd (k p e s m args below meth c A Qc H locs ls cells slots C S ad hF (hS.ps (xo_i (xo_t (xo_t hS.ok)))) hQ)
theorem ex_iand {x y : Int32} (hd : decode μ.2.1 pc = .ok (.iand, 1)) (k : Ex Γ l f μ (pc + 1) L (.int (x &&& y) :: st) G D R kc kw Q) : Ex Γ l f μ pc L (.int y :: .int x :: st) G D R kc kw Q := by
  intro p e s m args below meth c A Qc H locs ls cells slots C S ad hF hS hQ
  exact lv_iand hF.1 hF.2.1 hd (k p e s m args below meth c A Qc H locs ls cells slots C S ad hF (hS.ps (xo_i (xo_t (xo_t hS.ok)))) hQ)
theorem ex_ixor {x y : Int32} (hd : decode μ.2.1 pc = .ok (.ixor, 1)) (k : Ex Γ l f μ (pc + 1) L (.int (x ^^^ y) :: st) G D R kc kw Q) : Ex Γ l f μ pc L (.int y :: .int x :: st) G D R kc kw Q := by
  intro p e s m args below meth c A Qc H locs ls cells slots C S ad hF hS hQ
  exact lv_ixor hF.1 hF.2.1 hd (k p e s m args below meth c A Qc H locs ls cells slots C S ad hF (hS.ps (xo_i (xo_t (xo_t hS.ok)))) hQ)
theorem ex_ishr {x y : Int32} (hd : decode μ.2.1 pc = .ok (.ishr, 1)) (k : Ex Γ l f μ (pc + 1) L (.int (x >>> (y &&& 31)) :: st) G D R kc kw Q) : Ex Γ l f μ pc L (.int y :: .int x :: st) G D R kc kw Q := by
  intro p e s m args below meth c A Qc H locs ls cells slots C S ad hF hS hQ
  exact lv_ishr hF.1 hF.2.1 hd (k p e s m args below meth c A Qc H locs ls cells slots C S ad hF (hS.ps (xo_i (xo_t (xo_t hS.ok)))) hQ)
theorem ex_iushr {x y : Int32} (hd : decode μ.2.1 pc = .ok (.iushr, 1)) (k : Ex Γ l f μ (pc + 1) L (.int (x.toUInt32 >>> (y.toUInt32 &&& Int32.toUInt32 31)).toInt32 :: st) G D R kc kw Q) : Ex Γ l f μ pc L (.int y :: .int x :: st) G D R kc kw Q := by
  intro p e s m args below meth c A Qc H locs ls cells slots C S ad hF hS hQ
  exact lv_iushr hF.1 hF.2.1 hd rfl (k p e s m args below meth c A Qc H locs ls cells slots C S ad hF (hS.ps (xo_i (xo_t (xo_t hS.ok)))) hQ)
theorem ex_idiv {x y : Int32} (hd : decode μ.2.1 pc = .ok (.idiv, 1)) (hne : ¬ y = 0) (k : Ex Γ l f μ (pc + 1) L (.int (x / y) :: st) G D R kc kw Q) : Ex Γ l f μ pc L (.int y :: .int x :: st) G D R kc kw Q := by
  intro p e s m args below meth c A Qc H locs ls cells slots C S ad hF hS hQ
  exact lv_idiv hF.1 hF.2.1 hd hne (k p e s m args below meth c A Qc H locs ls cells slots C S ad hF (hS.ps (xo_i (xo_t (xo_t hS.ok)))) hQ)
theorem ex_irem {x y : Int32} (hd : decode μ.2.1 pc = .ok (.irem, 1)) (hne : ¬ y = 0) (k : Ex Γ l f μ (pc + 1) L (.int (x - x / y * y) :: st) G D R kc kw Q) : Ex Γ l f μ pc L (.int y :: .int x :: st) G D R kc kw Q := by
  intro p e s m args below meth c A Qc H locs ls cells slots C S ad hF hS hQ
  exact lv_irem hF.1 hF.2.1 hd hne (k p e s m args below meth c A Qc H locs ls cells slots C S ad hF (hS.ps (xo_i (xo_t (xo_t hS.ok)))) hQ)
theorem ex_i2b {x : Int32} (hd : decode μ.2.1 pc = .ok (.i2b, 1)) (k : Ex Γ l f μ (pc + 1) L (.int x.toInt8.toInt32 :: st) G D R kc kw Q) : Ex Γ l f μ pc L (.int x :: st) G D R kc kw Q := by
  intro p e s m args below meth c A Qc H locs ls cells slots C S ad hF hS hQ
  exact lv_i2b hF.1 hF.2.1 hd rfl (k p e s m args below meth c A Qc H locs ls cells slots C S ad hF (hS.ps (xo_i (xo_t hS.ok))) hQ)
theorem ex_i2c {x : Int32} (hd : decode μ.2.1 pc = .ok (.i2c, 1)) (k : Ex Γ l f μ (pc + 1) L (.int (x.toUInt32 % 65536).toInt32 :: st) G D R kc kw Q) : Ex Γ l f μ pc L (.int x :: st) G D R kc kw Q := by
  intro p e s m args below meth c A Qc H locs ls cells slots C S ad hF hS hQ
  exact lv_i2c hF.1 hF.2.1 hd rfl (k p e s m args below meth c A Qc H locs ls cells slots C S ad hF (hS.ps (xo_i (xo_t hS.ok))) hQ)
theorem ex_dup {v : Value} (hd : decode μ.2.1 pc = .ok (.dup, 1)) (k : Ex Γ l f μ (pc + 1) L (v :: v :: st) G D R kc kw Q) : Ex Γ l f μ pc L (v :: st) G D R kc kw Q := by
  intro p e s m args below meth c A Qc H locs ls cells slots C S ad hF hS hQ
  exact lv_dup hF.1 hF.2.1 hd (xok_cat (xo_h hS.ok) ad) (k p e s m args below meth c A Qc H locs ls cells slots C S ad hF (hS.ps (xo_c (xo_h hS.ok) hS.ok)) hQ)
theorem ex_dup2 {v w : Value} (hd : decode μ.2.1 pc = .ok (.dup2, 1)) (k : Ex Γ l f μ (pc + 1) L (v :: w :: v :: w :: st) G D R kc kw Q) : Ex Γ l f μ pc L (v :: w :: st) G D R kc kw Q := by
  intro p e s m args below meth c A Qc H locs ls cells slots C S ad hF hS hQ
  exact lv_dup2_11 hF.1 hF.2.1 hd (xok_cat (xo_h hS.ok) ad) (xok_cat (xo_h (xo_t hS.ok)) ad) (k p e s m args below meth c A Qc H locs ls cells slots C S ad hF (hS.ps (xo_c (xo_h hS.ok) (xo_c (xo_h (xo_t hS.ok)) hS.ok))) hQ)
theorem ex_pop {v : Value} (hd : decode μ.2.1 pc = .ok (.pop, 1)) (k : Ex Γ l f μ (pc + 1) L st G D R kc kw Q) : Ex Γ l f μ pc L (v :: st) G D R kc kw Q := by
  intro p e s m args below meth c A Qc H locs ls cells slots C S ad hF hS hQ
  exact lv_pop hF.1 hF.2.1 hd (xok_cat (xo_h hS.ok) ad) (k p e s m args below meth c A Qc H locs ls cells slots C S ad hF (hS.ps (xo_t hS.ok)) hQ)
theorem ex_goto {off : Int} (tgt : Nat) (hd : decode μ.2.1 pc = .ok (.goto off, 3)) (ht : (pc : Int) + off = (tgt : Int)) (k : Ex Γ l f μ tgt L st G D R kc kw Q) : Ex Γ l f μ pc L st G D R kc kw Q := by
  intro p e s m args below meth c A Qc H locs ls cells slots C S ad hF hS hQ
  exact lv_goto hF.1 hF.2.1 hd ht (k p e s m args below meth c A Qc H locs ls cells slots C S ad hF hS hQ)
theorem ex_if_eq {x : Int32} {off : Int} (tgt : Nat) (hd : decode μ.2.1 pc = .ok (.ifCond .eq off, 3)) (ht : (pc : Int) + off = (tgt : Int)) (kt : x = 0 → Ex Γ l f μ tgt L st G D R kc kw Q) (kf : ¬ x = 0 → Ex Γ l f μ (pc + 3) L st G D R kc kw Q) : Ex Γ l f μ pc L (.int x :: st) G D R kc kw Q := by
  intro p e s m args below meth c A Qc H locs ls cells slots C S ad hF hS hQ
  exact lv_if_eq hF.1 hF.2.1 hd ht (fun h => kt (by simpa using h) p e s m args below meth c A Qc H locs ls cells slots C S ad hF (hS.ps (xo_t hS.ok)) hQ) (fun h => kf (by simpa using h) p e s m args below meth c A Qc H locs ls cells slots C S ad hF (hS.ps (xo_t hS.ok)) hQ)
theorem ex_icmp_eq {x y : Int32} {off : Int} (tgt : Nat) (hd : decode μ.2.1 pc = .ok (.if_icmp .eq off, 3)) (ht : (pc : Int) + off = (tgt : Int)) (kt : x = y → Ex Γ l f μ tgt L st G D R kc kw Q) (kf : ¬ x = y → Ex Γ l f μ (pc + 3) L st G D R kc kw Q) : Ex Γ l f μ pc L (.int y :: .int x :: st) G D R kc kw Q := by
  intro p e s m args below meth c A Qc H locs ls cells slots C S ad hF hS hQ
  exact lv_icmp_eq hF.1 hF.2.1 hd ht (fun h => kt (by simpa using h) p e s m args below meth c A Qc H locs ls cells slots C S ad hF (hS.ps (xo_t (xo_t hS.ok))) hQ) (fun h => kf (by simpa using h) p e s m args below meth c A Qc H locs ls cells slots C S ad hF (hS.ps (xo_t (xo_t hS.ok))) hQ)
theorem ex_if_ne {x : Int32} {off : Int} (tgt : Nat) (hd : decode μ.2.1 pc = .ok (.ifCond .ne off, 3)) (ht : (pc : Int) + off = (tgt : Int)) (kt : ¬ x = 0 → Ex Γ l f μ tgt L st G D R kc kw Q) (kf : x = 0 → Ex Γ l f μ (pc + 3) L st G D R kc kw Q) : Ex Γ l f μ pc L (.int x :: st) G D R kc kw Q := by
  intro p e s m args below meth c A Qc H locs ls cells slots C S ad hF hS hQ
  exact lv_if_ne hF.1 hF.2.1 hd ht (fun h => kt (by simpa using h) p e s m args below meth c A Qc H locs ls cells slots C S ad hF (hS.ps (xo_t hS.ok)) hQ) (fun h => kf (by simpa using h) p e s m args below meth c A Qc H locs ls cells slots C S ad hF (hS.ps (xo_t hS.ok)) hQ)
theorem ex_icmp_ne {x y : Int32} {off : Int} (tgt : Nat) (hd : decode μ.2.1 pc = .ok (.if_icmp .ne off, 3)) (ht : (pc : Int) + off = (tgt : Int)) (kt : ¬ x = y → Ex Γ l f μ tgt L st G D R kc kw Q) (kf : x = y → Ex Γ l f μ (pc + 3) L st G D R kc kw Q) : Ex Γ l f μ pc L (.int y :: .int x :: st) G D R kc kw Q := by
  intro p e s m args below meth c A Qc H locs ls cells slots C S ad hF hS hQ
  exact lv_icmp_ne hF.1 hF.2.1 hd ht (fun h => kt (by simpa using h) p e s m args below meth c A Qc H locs ls cells slots C S ad hF (hS.ps (xo_t (xo_t hS.ok))) hQ) (fun h => kf (by simpa using h) p e s m args below meth c A Qc H locs ls cells slots C S ad hF (hS.ps (xo_t (xo_t hS.ok))) hQ)
theorem ex_if_lt {x : Int32} {off : Int} (tgt : Nat) (hd : decode μ.2.1 pc = .ok (.ifCond .lt off, 3)) (ht : (pc : Int) + off = (tgt : Int)) (kt : ¬ 0 ≤ x → Ex Γ l f μ tgt L st G D R kc kw Q) (kf : 0 ≤ x → Ex Γ l f μ (pc + 3) L st G D R kc kw Q) : Ex Γ l f μ pc L (.int x :: st) G D R kc kw Q := by
  intro p e s m args below meth c A Qc H locs ls cells slots C S ad hF hS hQ
  exact lv_if_lt hF.1 hF.2.1 hd ht (fun h => kt (by simpa using h) p e s m args below meth c A Qc H locs ls cells slots C S ad hF (hS.ps (xo_t hS.ok)) hQ) (fun h => kf (by simpa using h) p e s m args below meth c A Qc H locs ls cells slots C S ad hF (hS.ps (xo_t hS.ok)) hQ)
theorem ex_icmp_lt {x y : Int32} {off : Int} (tgt : Nat) (hd : decode μ.2.1 pc = .ok (.if_icmp .lt off, 3)) (ht : (pc : Int) + off = (tgt : Int)) (kt : ¬ y ≤ x → Ex Γ l f μ tgt L st G D R kc kw Q) (kf : y ≤ x → Ex Γ l f μ (pc + 3) L st G D R kc kw Q) : Ex Γ l f μ pc L (.int y :: .int x :: st) G D R kc kw Q := by
  intro p e s m args below meth c A Qc H locs ls cells slots C S ad hF hS hQ
  exact lv_icmp_lt hF.1 hF.2.1 hd ht (fun h => kt (by simpa using h) p e s m args below meth c A Qc H locs ls cells slots C S ad hF (hS.ps (xo_t (xo_t hS.ok))) hQ) (fun h => kf (by simpa using h) p e s m args below meth c A Qc H locs ls cells slots C S ad hF (hS.ps (xo_t (xo_t hS.ok))) hQ)
theorem ex_if_ge {x : Int32} {off : Int} (tgt : Nat) (hd : decode μ.2.1 pc = .ok (.ifCond .ge off, 3)) (ht : (pc : Int) + off = (tgt : Int)) (kt : 0 ≤ x → Ex Γ l f μ tgt L st G D R kc kw Q) (kf : ¬ 0 ≤ x → Ex Γ l f μ (pc + 3) L st G D R kc kw Q) : Ex Γ l f μ pc L (.int x :: st) G D R kc kw Q := by
  intro p e s m args below meth c A Qc H locs ls cells slots C S ad hF hS hQ
  exact lv_if_ge hF.1 hF.2.1 hd ht (fun h => kt (by simpa using h) p e s m args below meth c A Qc H locs ls cells slots C S ad hF (hS.ps (xo_t hS.ok)) hQ) (fun h => kf (by simpa using h) p e s m args below meth c A Qc H locs ls cells slots C S ad hF (hS.ps (xo_t hS.ok)) hQ)
theorem ex_icmp_ge {x y : Int32} {off : Int} (tgt : Nat) (hd : decode μ.2.1 pc = .ok (.if_icmp .ge off, 3)) (ht : (pc : Int) + off = (tgt : Int)) (kt : y ≤ x → Ex Γ l f μ tgt L st G D R kc kw Q) (kf : ¬ y ≤ x → Ex Γ l f μ (pc + 3) L st G D R kc kw Q) : Ex Γ l f μ pc L (.int y :: .int x :: st) G D R kc kw Q := by
  intro p e s m args below meth c A Qc H locs ls cells slots C S ad hF hS hQ
  exact lv_icmp_ge hF.1 hF.2.1 hd ht (fun h => kt (by simpa using h) p e s m args below meth c A Qc H locs ls cells slots C S ad hF (hS.ps (xo_t (xo_t hS.ok))) hQ) (fun h => kf (by simpa using h) p e s m args below meth c A Qc H locs ls cells slots C S ad hF (hS.ps (xo_t (xo_t hS.ok))) hQ)
theorem ex_if_gt {x : Int32} {off : Int} (tgt : Nat) (hd : decode μ.2.1 pc = .ok (.ifCond .gt off, 3)) (ht : (pc : Int) + off = (tgt : Int)) (kt : ¬ x ≤ 0 → Ex Γ l f μ tgt L st G D R kc kw Q) (kf : x ≤ 0 → Ex Γ l f μ (pc + 3) L st G D R kc kw Q) : Ex Γ l f μ pc L (.int x :: st) G D R kc kw Q := by
  intro p e s m args below meth c A Qc H locs ls cells slots C S ad hF hS hQ
  exact lv_if_gt hF.1 hF.2.1 hd ht (fun h => kt (by simpa using h) p e s m args below meth c A Qc H locs ls cells slots C S ad hF (hS.ps (xo_t hS.ok)) hQ) (fun h => kf (by simpa using h) p e s m args below meth c A Qc H locs ls cells slots C S ad hF (hS.ps (xo_t hS.ok)) hQ)
theorem ex_icmp_gt {x y : Int32} {off : Int} (tgt : Nat) (hd : decode μ.2.1 pc = .ok (.if_icmp .gt off, 3)) (ht : (pc : Int) + off = (tgt : Int)) (kt : ¬ x ≤ y → Ex Γ l f μ tgt L st G D R kc kw Q) (kf : x ≤ y → Ex Γ l f μ (pc + 3) L st G D R kc kw Q) : Ex Γ l f μ pc L (.int y :: .int x :: st) G D R kc kw Q := by
  intro p e s m args below meth c A Qc H locs ls cells slots C S ad hF hS hQ
  exact lv_icmp_gt hF.1 hF.2.1 hd ht (fun h => kt (by simpa using h) p e s m args below meth c A Qc H locs ls cells slots C S ad hF (hS.ps (xo_t (xo_t hS.ok))) hQ) (fun h => kf (by simpa using h) p e s m args below meth c A Qc H locs ls cells slots C S ad hF (hS.ps (xo_t (xo_t hS.ok))) hQ)
theorem ex_if_le {x : Int32} {off : Int} (tgt : Nat) (hd : decode μ.2.1 pc = .ok (.ifCond .le off, 3)) (ht : (pc : Int) + off = (tgt : Int)) (kt : x ≤ 0 → Ex Γ l f μ tgt L st G D R kc kw Q) (kf : ¬ x ≤ 0 → Ex Γ l f μ (pc + 3) L st G D R kc kw Q) : Ex Γ l f μ pc L (.int x :: st) G D R kc kw Q := by
  intro p e s m args below meth c A Qc H locs ls cells slots C S ad hF hS hQ
  exact lv_if_le hF.1 hF.2.1 hd ht (fun h => kt (by simpa using h) p e s m args below meth c A Qc H locs ls cells slots C S ad hF (hS.ps (xo_t hS.ok)) hQ) (fun h => kf (by simpa using h) p e s m args below meth c A Qc H locs ls cells slots C S ad hF (hS.ps (xo_t hS.ok)) hQ)
theorem ex_icmp_le {x y : Int32} {off : Int} (tgt : Nat) (hd : decode μ.2.1 pc = .ok (.if_icmp .le off, 3)) (ht : (pc : Int) + off = (tgt : Int)) (kt : x ≤ y → Ex Γ l f μ tgt L st G D R kc kw Q) (kf : ¬ x ≤ y → Ex Γ l f μ (pc + 3) L st G D R kc kw Q) : Ex Γ l f μ pc L (.int y :: .int x :: st) G D R kc kw Q := by
  intro p e s m args below meth c A Qc H locs ls cells slots C S ad hF hS hQ
  exact lv_icmp_le hF.1 hF.2.1 hd ht (fun h => kt (by simpa using h) p e s m args below meth c A Qc H locs ls cells slots C S ad hF (hS.ps (xo_t (xo_t hS.ok))) hQ) (fun h => kf (by simpa using h) p e s m args below meth c A Qc H locs ls cells slots C S ad hF (hS.ps (xo_t (xo_t hS.ok))) hQ)
theorem ex_ifnull {q : Nat} {off : Int} (hd : decode μ.2.1 pc = .ok (.ifnull off, 3)) (k : Ex Γ l f μ (pc + 3) L st G D R kc kw Q) : Ex Γ l f μ pc L (.ref q :: st) G D R kc kw Q := by
  intro p e s m args below meth c A Qc H locs ls cells slots C S ad hF hS hQ
  exact lv_ifnull hF.1 hF.2.1 hd (k p e s m args below meth c A Qc H locs ls cells slots C S ad hF (hS.ps (xo_t hS.ok)) hQ)
theorem ex_ifnullN {off : Int} (tgt : Nat) (hd : decode μ.2.1 pc = .ok (.ifnull off, 3)) (ht : (pc : Int) + off = (tgt : Int)) (k : Ex Γ l f μ tgt L st G D R kc kw Q) : Ex Γ l f μ pc L (.null :: st) G D R kc kw Q := by
  intro p e s m args below meth c A Qc H locs ls cells slots C S ad hF hS hQ
  exact lv_ifnullN hF.1 hF.2.1 hd ht (k p e s m args below meth c A Qc H locs ls cells slots C S ad hF (hS.ps (xo_t hS.ok)) hQ)
theorem ex_ifnonnull {q : Nat} {off : Int} (tgt : Nat) (hd : decode μ.2.1 pc = .ok (.ifnonnull off, 3)) (ht : (pc : Int) + off = (tgt : Int)) (k : Ex Γ l f μ tgt L st G D R kc kw Q) : Ex Γ l f μ pc L (.ref q :: st) G D R kc kw Q := by
  intro p e s m args below meth c A Qc H locs ls cells slots C S ad hF hS hQ
  exact lv_ifnonnull hF.1 hF.2.1 hd ht (k p e s m args below meth c A Qc H locs ls cells slots C S ad hF (hS.ps (xo_t hS.ok)) hQ)
theorem ex_ifnonnullN {off : Int} (hd : decode μ.2.1 pc = .ok (.ifnonnull off, 3)) (k : Ex Γ l f μ (pc + 3) L st G D R kc kw Q) : Ex Γ l f μ pc L (.null :: st) G D R kc kw Q := by
  intro p e s m args below meth c A Qc H locs ls cells slots C S ad hF hS hQ
  exact lv_ifnonnullN hF.1 hF.2.1 hd (k p e s m args below meth c A Qc H locs ls cells slots C S ad hF (hS.ps (xo_t hS.ok)) hQ)
theorem ex_tableOut {dflt lo hi : Int} {offs : Array Int} {len : Nat} {x : Int32} (tgt : Nat) (hd : decode μ.2.1 pc = .ok (.tableswitch dflt lo hi offs, len)) (h : x.toInt < lo ∨ hi < x.toInt) (ht : (pc : Int) + dflt = (tgt : Int)) (k : Ex Γ l f μ tgt L st G D R kc kw Q) : Ex Γ l f μ pc L (.int x :: st) G D R kc kw Q := by
  intro p e s m args below meth c A Qc H locs ls cells slots C S ad hF hS hQ
  exact lv_tableOut hF.1 hF.2.1 hd h ht (k p e s m args below meth c A Qc H locs ls cells slots C S ad hF (hS.ps (xo_t hS.ok)) hQ)
theorem ex_tableIn {dflt lo hi : Int} {offs : Array Int} {len : Nat} {x : Int32} {off : Int} (tgt : Nat) (hd : decode μ.2.1 pc = .ok (.tableswitch dflt lo hi offs, len)) (h1 : ¬ x.toInt < lo) (h2 : ¬ hi < x.toInt) (ho : offs[(x.toInt - lo).toNat]? = some off) (ht : (pc : Int) + off = (tgt : Int)) (k : Ex Γ l f μ tgt L st G D R kc kw Q) : Ex Γ l f μ pc L (.int x :: st) G D R kc kw Q := by
  intro p e s m args below meth c A Qc H locs ls cells slots C S ad hF hS hQ
  exact lv_tableIn hF.1 hF.2.1 hd h1 h2 ho ht (k p e s m args below meth c A Qc H locs ls cells slots C S ad hF (hS.ps (xo_t hS.ok)) hQ)
/-! locals -/
theorem xL.has {ls : Array Slot} {n : Nat} {ad : Nat → Nat} (h : xL ls n ad L) {i : Nat} {v : Value} (hi : L[i]? = some (some v)) : ls[i]? = some (.val (xtv ad v)) := h.2.2.2 i v hi
def xLa (ad : Nat → Nat) (L : List (Option Value)) : List (Nat × Value) := (List.range L.length).filterMap (fun i => match L[i]? with | some (some v) => some (i, xtv ad v) | _ => none)
theorem xLa_in {ad : Nat → Nat} {i : Nat} {v : Value} (h : L[i]? = some (some v)) : (i, xtv ad v) ∈ xLa ad L := by
  refine List.mem_filterMap.mpr ⟨i, List.mem_range.mpr (List.getElem?_eq_some_iff.mp h).1, ?_⟩
  rw [h]
theorem xLa_of {ad : Nat → Nat} {q : Nat × Value} (h : q ∈ xLa ad L) : ∃ v, L[q.1]? = some (some v) ∧ q.2 = xtv ad v := by
  obtain ⟨i, -, hi⟩ := List.mem_filterMap.mp h
  split at hi
  next v hv =>
    cases hi
    exact ⟨v, hv, rfl⟩
  next => cases hi
theorem xL.to {ls : Array Slot} {n : Nat} {ad : Nat → Nat} (h : xL ls n ad L) : lv_has ls n (xLa ad L) := ⟨h.1, h.2.1, fun q hq => by
  obtain ⟨v, h1, h2⟩ := xLa_of hq
  rw [h2]
  exact h.2.2.2 _ v h1⟩
theorem xL.store {ls ls' : Array Slot} {n : Nat} {ad : Nat → Nat} {i : Nat} {v : Value} (h : xL ls n ad L) (hok : ∀ v, some v ∈ L → xok G v) (h' : lv_has ls' n ((i, xtv ad v) :: (xLa ad L).filter (fun q => !(q.1 == i) && !(q.1 + 1 == i && q.2.category == 2)))) : xL ls' n ad (L.set i (some v)) := by
  refine ⟨h'.1, h'.2.1, by rw [List.length_set]; exact h.2.2.1, fun j w hj => ?_⟩
  rw [List.getElem?_set] at hj
  by_cases hij : i = j
  · subst hij
    rw [if_pos rfl] at hj
    split at hj
    next =>
      cases hj
      exact h'.2.2 (i, xtv ad v) List.mem_cons_self
    next => cases hj
  · rw [if_neg hij] at hj
    refine h'.2.2 (j, xtv ad w) (List.mem_cons_of_mem _ (List.mem_filter.mpr ⟨xLa_in hj, ?_⟩))
    have hc := xok_cat (hok w (List.mem_of_getElem? hj)) ad
    simp [hc, Ne.symm hij]
theorem xS.lset {s : State} {A : Nat → Prop} {ad : Nat → Nat} {H : Heap} {locs : List Loc} {ls ls' : Array Slot} {cells slots C S : Nat} {i : Nat} {v : Value} (h : xS Γ μ s A ad L (v :: st) G D R H locs ls cells slots C S kc kw) (h' : lv_has ls' μ.2.2.1 ((i, xtv ad v) :: (xLa ad L).filter (fun q => !(q.1 == i) && !(q.1 + 1 == i && q.2.category == 2)))) : xS Γ μ s A ad (L.set i (some v)) st G D R H locs ls' cells slots C S kc kw :=
  ⟨h.1, h.2.1, h.2.2.1, h.2.2.2.1.store h.2.2.2.2.1 h', fun w hw => by
    rcases List.mem_or_eq_of_mem_set hw with hw | hw
    · exact h.2.2.2.2.1 w hw
    · cases hw
      exact xo_h h.ok, xo_t h.ok, h.2.2.2.2.2.2⟩
theorem ex_iload_n {k : Fin 4} {x : Int32} (hd : decode μ.2.1 pc = .ok (.iload_n k, 1)) (hl : L[(k : Nat)]? = some (some (.int x))) (kk : Ex Γ l f μ (pc + 1) L (.int x :: st) G D R kc kw Q) : Ex Γ l f μ pc L st G D R kc kw Q := by
  intro p e s m args below meth c A Qc H locs ls cells slots C S ad hF hS hQ
  exact lv_iload_n hF.1 hF.2.1 hd rfl (hS.2.2.2.1.has hl) (kk p e s m args below meth c A Qc H locs ls cells slots C S ad hF (hS.ps (xo_i hS.ok)) hQ)
theorem ex_iload {i : Nat} {x : Int32} (hd : decode μ.2.1 pc = .ok (.iload i, 2)) (hl : L[i]? = some (some (.int x))) (kk : Ex Γ l f μ (pc + 2) L (.int x :: st) G D R kc kw Q) : Ex Γ l f μ pc L st G D R kc kw Q := by
  intro p e s m args below meth c A Qc H locs ls cells slots C S ad hF hS hQ
  exact lv_iload hF.1 hF.2.1 hd (hS.2.2.2.1.has hl) (kk p e s m args below meth c A Qc H locs ls cells slots C S ad hF (hS.ps (xo_i hS.ok)) hQ)
theorem ex_aload_n {k : Fin 4} {v : Value} (hd : decode μ.2.1 pc = .ok (.aload_n k, 1)) (hl : L[(k : Nat)]? = some (some v)) (hv : ∀ x : Int32, v ≠ .int x) (kk : Ex Γ l f μ (pc + 1) L (v :: st) G D R kc kw Q) : Ex Γ l f μ pc L st G D R kc kw Q := by
  intro p e s m args below meth c A Qc H locs ls cells slots C S ad hF hS hQ
  have hok : xok G v := hS.2.2.2.2.1 v (List.mem_of_getElem? hl)
  have h1 := hS.2.2.2.1.has hl
  have h2 := kk p e s m args below meth c A Qc H locs ls cells slots C S ad hF (hS.ps (xo_c hok hS.ok)) hQ
  cases v with
  | ref q => exact lv_aload_n hF.1 hF.2.1 hd rfl h1 h2
  | null => exact lv_aload_nN hF.1 hF.2.1 hd rfl h1 h2
  | int x => exact absurd rfl (hv x)
  | _ => exact hok.elim
theorem ex_aload {i : Nat} {v : Value} (hd : decode μ.2.1 pc = .ok (.aload i, 2)) (hl : L[i]? = some (some v)) (hv : ∀ x : Int32, v ≠ .int x) (kk : Ex Γ l f μ (pc + 2) L (v :: st) G D R kc kw Q) : Ex Γ l f μ pc L st G D R kc kw Q := by
  intro p e s m args below meth c A Qc H locs ls cells slots C S ad hF hS hQ
  have hok : xok G v := hS.2.2.2.2.1 v (List.mem_of_getElem? hl)
  have h1 := hS.2.2.2.1.has hl
  have h2 := kk p e s m args below meth c A Qc H locs ls cells slots C S ad hF (hS.ps (xo_c hok hS.ok)) hQ
  cases v with
  | ref q => exact lv_aload hF.1 hF.2.1 hd h1 h2
  | null => exact lv_aloadN hF.1 hF.2.1 hd h1 h2
  | int x => exact absurd rfl (hv x)
  | _ => exact hok.elim
theorem xS.lt {s : State} {A : Nat → Prop} {ad : Nat → Nat} {H : Heap} {locs : List Loc} {ls : Array Slot} {cells slots C S : Nat} (h : xS Γ μ s A ad L st G D R H locs ls cells slots C S kc kw) {i : Nat} (hi : i < L.length) : i < μ.2.2.1 := by rw [← h.2.2.2.1.2.2.1]; exact hi
theorem ex_istore_n {k : Fin 4} {x : Int32} (hd : decode μ.2.1 pc = .ok (.istore_n k, 1)) (hi : (k : Nat) < L.length) (kk : Ex Γ l f μ (pc + 1) (L.set (k : Nat) (some (.int x))) st G D R kc kw Q) : Ex Γ l f μ pc L (.int x :: st) G D R kc kw Q := by
  intro p e s m args below meth c A Qc H locs ls cells slots C S ad hF hS hQ
  exact lv_istore_n hF.1 hF.2.1 hd rfl hS.2.2.2.1.to (hS.lt hi) rfl (fun ls' h' => kk p e s m args below meth c A Qc H locs ls' cells slots C S ad hF (hS.lset (v := .int x) h') hQ)
theorem ex_istore {i : Nat} {x : Int32} (hd : decode μ.2.1 pc = .ok (.istore i, 2)) (hi : i < L.length) (kk : Ex Γ l f μ (pc + 2) (L.set i (some (.int x))) st G D R kc kw Q) : Ex Γ l f μ pc L (.int x :: st) G D R kc kw Q := by
  intro p e s m args below meth c A Qc H locs ls cells slots C S ad hF hS hQ
  exact lv_istore hF.1 hF.2.1 hd hS.2.2.2.1.to (hS.lt hi) rfl (fun ls' h' => kk p e s m args below meth c A Qc H locs ls' cells slots C S ad hF (hS.lset (v := .int x) h') hQ)
theorem ex_astore_n {k : Fin 4} {v : Value} (hd : decode μ.2.1 pc = .ok (.astore_n k, 1)) (hi : (k : Nat) < L.length) (hv : ∀ x : Int32, v ≠ .int x) (kk : Ex Γ l f μ (pc + 1) (L.set (k : Nat) (some v)) st G D R kc kw Q) : Ex Γ l f μ pc L (v :: st) G D R kc kw Q := by
  intro p e s m args below meth c A Qc H locs ls cells slots C S ad hF hS hQ
  have hok : xok G v := xo_h hS.ok
  cases v with
  | ref q => exact lv_astore_n hF.1 hF.2.1 hd rfl hS.2.2.2.1.to (hS.lt hi) rfl (fun ls' h' => kk p e s m args below meth c A Qc H locs ls' cells slots C S ad hF (hS.lset (v := .ref q) h') hQ)
  | null => exact lv_astore_nN hF.1 hF.2.1 hd rfl hS.2.2.2.1.to (hS.lt hi) rfl (fun ls' h' => kk p e s m args below meth c A Qc H locs ls' cells slots C S ad hF (hS.lset (v := .null) h') hQ)
  | int x => exact absurd rfl (hv x)
  | _ => exact hok.elim
theorem ex_astore {i : Nat} {v : Value} (hd : decode μ.2.1 pc = .ok (.astore i, 2)) (hi : i < L.length) (hv : ∀ x : Int32, v ≠ .int x) (kk : Ex Γ l f μ (pc + 2) (L.set i (some v)) st G D R kc kw Q) : Ex Γ l f μ pc L (v :: st) G D R kc kw Q := by
  intro p e s m args below meth c A Qc H locs ls cells slots C S ad hF hS hQ
  have hok : xok G v := xo_h hS.ok
  cases v with
  | ref q => exact lv_astore hF.1 hF.2.1 hd hS.2.2.2.1.to (hS.lt hi) rfl (fun ls' h' => kk p e s m args below meth c A Qc H locs ls' cells slots C S ad hF (hS.lset (v := .ref q) h') hQ)
  | null => exact lv_astoreN hF.1 hF.2.1 hd hS.2.2.2.1.to (hS.lt hi) rfl (fun ls' h' => kk p e s m args below meth c A Qc H locs ls' cells slots C S ad hF (hS.lset (v := .null) h') hQ)
  | int x => exact absurd rfl (hv x)
  | _ => exact hok.elim
theorem xo_lset {i : Nat} {v : Value} (hv : xok G v) (h : ∀ v, some v ∈ L → xok G v) : ∀ w, some w ∈ L.set i (some v) → xok G w := fun w hw => by
  rcases List.mem_or_eq_of_mem_set hw with hw | hw
  · exact h w hw
  · cases hw
    exact hv
theorem ex_iinc {i : Nat} {n : Int} {x v : Int32} (hd : decode μ.2.1 pc = .ok (.iinc i n, 3)) (hl : L[i]? = some (some (.int x))) (hv : x + Int32.ofInt n = v) (kk : Ex Γ l f μ (pc + 3) (L.set i (some (.int v))) st G D R kc kw Q) : Ex Γ l f μ pc L st G D R kc kw Q := by
  intro p e s m args below meth c A Qc H locs ls cells slots C S ad hF hS hQ
  obtain ⟨j, hj⟩ := List.getElem?_of_mem (xLa_in (ad := ad) hl)
  have hlt : i < μ.2.2.1 := hS.lt (List.getElem?_eq_some_iff.mp hl).1
  exact lv_iinc hF.1 hF.2.1 hd hS.2.2.2.1.to hj hv hlt rfl (fun ls' h' => kk p e s m args below meth c A Qc H locs ls' cells slots C S ad hF ((hS.ps (xo_i hS.ok) (st' := .int v :: st)).lset (v := .int v) h') hQ)
/-! ends -/
theorem xS.fin {s : State} {A : Nat → Prop} {ad : Nat → Nat} {H : Heap} {locs : List Loc} {ls : Array Slot} {cells slots C S : Nat} {args : Array Value} {Qc : Array Value → State → Outcome → State → Prop} {v : Option Value} (h : xS Γ μ s A ad L st G D R H locs ls cells slots C S kc kw) (hQ : xQ Γ s A args Qc ad G kc Q) (hv : ∀ w, v = some w → xok G w) (hq : Q v G D R) : ∀ t : State, t.heap = H → s.WarmedH t.vm → Qc args s (.returned (v.map (xtv ad))) t := fun t ht _ =>
  hQ ad v G D R t (fun _ _ => rfl) (Nat.le_refl _) (Nat.le_add_right _ _) hv h.2.2.1 hq (by rw [ht]; exact h.1.1) h.1.2.1 (h.1.2.2.F ht)
theorem ex_iret {x : Int32} (hd : decode μ.2.1 pc = .ok (.ireturn, 1)) (hr : μ.2.2.2 = some .int) (hq : Q (some (.int x)) G D R) : Ex Γ l f μ pc L [.int x] G D R kc kw Q := by
  intro p e s m args below meth c A Qc H locs ls cells slots C S ad hF hS hQ
  have hlocks := hF.2.2.2.2.2.1
  exact W.widen (Nat.le_trans (Nat.le_add_right _ _) hS.2.2.2.2.2.2.2.1) (Nat.le_trans (Nat.le_add_right _ _) hS.2.2.2.2.2.2.2.2) (W.iret hF.1 hF.2.1 (hF.2.2.2.2.2.2.1.trans hr) (hS.fin hQ (v := some (.int x)) (fun w h => by cases h; trivial) hq) hS.1.2.2.2.2 hd)
theorem ex_zret {x : Int32} {ty : FieldType} (hd : decode μ.2.1 pc = .ok (.ireturn, 1)) (hr : μ.2.2.2 = some ty) (hn : narrow ty (.int x) = .int x) (hq : Q (some (.int x)) G D R) : Ex Γ l f μ pc L [.int x] G D R kc kw Q := by
  intro p e s m args below meth c A Qc H locs ls cells slots C S ad hF hS hQ
  have hlocks := hF.2.2.2.2.2.1
  exact W.widen (Nat.le_trans (Nat.le_add_right _ _) hS.2.2.2.2.2.2.2.1) (Nat.le_trans (Nat.le_add_right _ _) hS.2.2.2.2.2.2.2.2) (W.zret hF.1 hF.2.1 (hF.2.2.2.2.2.2.1.trans hr) hn (hS.fin hQ (v := some (.int x)) (fun w h => by cases h; trivial) hq) hS.1.2.2.2.2 hd)
theorem ex_vret (hd : decode μ.2.1 pc = .ok (.return_, 1)) (hr : μ.2.2.2 = none) (hq : Q none G D R) : Ex Γ l f μ pc L [] G D R kc kw Q := by
  intro p e s m args below meth c A Qc H locs ls cells slots C S ad hF hS hQ
  have hlocks := hF.2.2.2.2.2.1
  exact W.widen (Nat.le_trans (Nat.le_add_right _ _) hS.2.2.2.2.2.2.2.1) (Nat.le_trans (Nat.le_add_right _ _) hS.2.2.2.2.2.2.2.2) (W.vret hF.1 hF.2.1 (hF.2.2.2.2.2.2.1.trans hr) (hS.fin hQ (v := none) (fun w h => by cases h) hq) hS.1.2.2.2.2 hd)
theorem ex_aret {v : Value} {n : String} (hd : decode μ.2.1 pc = .ok (.areturn, 1)) (hr : μ.2.2.2 = some (.object n)) (hv : ∀ x : Int32, v ≠ .int x) (hq : Q (some v) G D R) : Ex Γ l f μ pc L [v] G D R kc kw Q := by
  intro p e s m args below meth c A Qc H locs ls cells slots C S ad hF hS hQ
  have hlocks := hF.2.2.2.2.2.1
  have hok : xok G v := xo_h hS.ok
  refine W.widen (Nat.le_trans (Nat.le_add_right _ _) hS.2.2.2.2.2.2.2.1) (Nat.le_trans (Nat.le_add_right _ _) hS.2.2.2.2.2.2.2.2) (W.aret hF.1 hF.2.1 (hF.2.2.2.2.2.2.1.trans hr) (Or.inl ⟨n, rfl⟩) ?_ (hS.fin hQ (v := some v) (fun w h => by cases h; exact hok) hq) hS.1.2.2.2.2 hd)
  cases v with
  | ref q => exact Or.inr ⟨_, rfl⟩
  | null => exact Or.inl rfl
  | int x => exact absurd rfl (hv x)
  | _ => exact hok.elim
end XR
