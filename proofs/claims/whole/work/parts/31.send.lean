/-! ===== WHAT SENDING DOES, as functions: rn is the running of a routine one level deeper ===== -/
abbrev xRn : Type := xD → Int32 → Int32 → Int32 → Int32 × xD
noncomputable def sDoes (rn : xRn) (E : xD) (v o w : Int32) : Int32 × xD := if sMeta E v = 4 then rn E v o w else if sMeta E v = 3 then (1, sSayText E v) else (v, E)
noncomputable def sSendO (rn : xRn) (E : xD) (o n w : Int32) : Int32 × xD := if sRowAt E o n = 0 then (0, sFails E 3 o n) else sDoes rn E (E 16 (ix (4 * (12 * o + n)))) o w
noncomputable def sIfThere (rn : xRn) (E : xD) (o n w : Int32) : Int32 × xD := if ¬ sRowAt E o n ≤ 0 then sSendO rn E o n w else (0, E)
/-- the least free one, and how many are free, among c + n .. c + 1 -/
def sLeast (E : xD) (c o : Int32) : Nat → Int32
  | 0 => o
  | n + 1 => sLeast E c (if ¬ E 11 (ix (c + nI (n + 1))) = 0 then o else c + nI (n + 1)) n
def sFreeN (E : xD) (c : Int32) : Nat → Nat
  | 0 => 0
  | n + 1 => sFreeN E c n + (if ¬ E 11 (ix (c + nI (n + 1))) = 0 then 0 else 1)
noncomputable def sLift (E : xD) (o : Int32) : Nat → xD
  | 0 => E
  | n + 1 => if E 20 (ix o) = 0 then E else sLift (sLeave E (E 20 (ix o))) o n
noncomputable def sGone (E : xD) (o : Int32) : xD := xdu (sLift (sLeave E o) o (lk 40)) 11 (ix o) 0
noncomputable def sSendG (rn : xRn) (E : xD) (c n w : Int32) : Int32 × xD :=
  if n = 14 then (nI (sFreeN E c (ix (E 12 (ix c)))), E)
  else if n = 12 then (if sLeast E c 0 (ix (E 12 (ix c))) = 0 then (0, E) else (sLeast E c 0 (ix (E 12 (ix c))), (sIfThere rn (sRows (xdu E 11 (ix (sLeast E c 0 (ix (E 12 (ix c))))) 1) (sLeast E c 0 (ix (E 12 (ix c))))) (sLeast E c 0 (ix (E 12 (ix c)))) 1 w).2))
  else if ¬ n = 13 ∧ ¬ n = 15 then (0, sFails E 2 c n)
  else if sIn w (c + 1) (c + E 12 (ix c)) = false ∨ E 11 (ix w) = 0 then (0, sFails E 8 c w)
  else if n = 13 then (1, if ¬ (sIfThere rn E w 2 0).2 11 (ix w) = 0 then sGone (sIfThere rn E w 2 0).2 w else (sIfThere rn E w 2 0).2)
  else (1, if ¬ (sIfThere rn E w 2 0).2 11 (ix w) = 0 then (sIfThere rn (sRows (sIfThere rn E w 2 0).2 w) w 1 0).2 else (sIfThere rn E w 2 0).2)
noncomputable def sSend (rn : xRn) (E : xD) (o n w : Int32) : Int32 × xD := if sMeta E o = 1 then sSendG rn E o n w else if sMeta E o = 2 then sSendO rn E o n w else (0, sFails E 1 o n)
noncomputable def sSendAs (rn : xRn) (E : xD) (g o n w : Int32) : Int32 × xD := if ¬ sMeta E o = 2 then (0, sFails E 1 o n) else if sIsOf E o g = false then (0, sFails E 4 o n) else if sRowAt E g n = 0 then (0, sFails E 3 o n) else sDoes rn E (E 16 (ix (4 * (12 * g + n)))) o w
/-- one act: the result behind it -/
noncomputable def sAct1 (rn : xRn) (E : xD) (c a b o w r : Int32) : Int32 × xD :=
  if c = 0 then (a, E) else if c = 1 then (w, E) else if c = 2 then (o, E) else if c = 3 then (r + a, E) else if c = 4 then sRead E o a b else if c = 5 then (r, (sWrite E o a b r).2)
  else if c = 6 then sSend rn E r a b else if c = 7 then sSendAs rn E b o a w else if c = 8 then (r, (sMove E o r).2) else if c = 9 then sTree E r 0 else if c = 10 then sTree E r 1 else if c = 11 then sTree E r 2
  else if c = 12 then (r, E) else if c = 13 then (r, sName E r a) else (bi (sIsOf E r a), E)
def sEnds (c r : Int32) : Bool := (decide (c = 12) && decide (r = 0)) || (decide (c = 14) && decide (r = 1))
def sSpend (E : xD) (o : Int32) : xD := if E 0 42 = 0 then xdu (sFails E 10 o 0) 0 42 1 else E
noncomputable def sActs (rn : xRn) (E : xD) (q o w k r : Int32) : Nat → Int32 × xD
  | 0 => (r, E)
  | n + 1 => if E 0 41 = 200 then (r, sSpend E o) else
    if sEnds (E 5 (ix (8 * q + k))) (sAct1 rn (xdu E 0 41 (E 0 41 + 1)) (E 5 (ix (8 * q + k))) (E 6 (ix (8 * q + k))) (E 7 (ix (8 * q + k))) o w r).1 = true then sAct1 rn (xdu E 0 41 (E 0 41 + 1)) (E 5 (ix (8 * q + k))) (E 6 (ix (8 * q + k))) (E 7 (ix (8 * q + k))) o w r
    else sActs rn (sAct1 rn (xdu E 0 41 (E 0 41 + 1)) (E 5 (ix (8 * q + k))) (E 6 (ix (8 * q + k))) (E 7 (ix (8 * q + k))) o w r).2 q o w (k + 1) (sAct1 rn (xdu E 0 41 (E 0 41 + 1)) (E 5 (ix (8 * q + k))) (E 6 (ix (8 * q + k))) (E 7 (ix (8 * q + k))) o w r).1 n
noncomputable def sRun : Nat → xRn
  | 0 => fun E _ o _ => (0, sFails E 9 o 0)
  | n + 1 => fun E r o w => sActs (sRun n) E (r - 201) o w 0 0 (ix (E 4 (ix (r - 201))))
def sBegin (E : xD) : xD := xdu (xdu E 0 41 0) 0 42 0
noncomputable def sLoop (rn : xRn) (E : xD) (o r k : Int32) (c : Nat) : Nat → Int32 × xD
  | 0 => (nI c, E)
  | n + 1 => if k = 0 then (nI c, E) else
    if ¬ E 21 (ix k) = 0 ∧ ¬ (rn E r k o).2 19 (ix (E 21 (ix k))) = o then (nI (c + 1), sFails (rn E r k o).2 11 (E 21 (ix k)) 0) else sLoop rn (rn E r k o).2 o r (E 21 (ix k)) (c + 1) n
/-- the reference's own pile apart from the rest -/
def msc (j k : Nat) : Bool := (decide (24 ≤ j) && decide (j ≤ 29)) || (decide (j = 0) && (decide (k = 31) || decide (k = 32) || decide (k = 39) || decide (k = 40)))
def ms (S E : xD) : xD := fun j k => if msc j k = true then S j k else E j k
theorem ms_j {S E : xD} {j : Nat} (h0 : j ≠ 0) (h : ¬ (24 ≤ j ∧ j ≤ 29)) : ms S E j = E j := by
  funext k
  unfold ms msc
  rw [if_neg]
  simp only [Bool.or_eq_true, Bool.and_eq_true, decide_eq_true_eq]
  rintro (q | q)
  · exact h q
  · exact h0 q.1
theorem ms_0 {S E : xD} {k : Nat} (h : msc 0 k = false) : ms S E 0 k = E 0 k := by unfold ms; rw [h]; rfl
theorem ms_s {S E : xD} {j k : Nat} (h : msc j k = true) : ms S E j k = S j k := by unfold ms; rw [h]; rfl
theorem ms_set {S E : xD} {j k : Nat} (x : Int32) (h : msc j k = false) : xdu (ms S E) j k x = ms S (xdu E j k x) := by
  funext a b
  by_cases ha : a = j
  · subst ha
    by_cases hb : b = k
    · subst hb
      rw [xdu_self, upd_self]
      unfold ms
      rw [h, xdu_self, upd_self]
      rfl
    · rw [xdu_self, upd_ne _ _ hb]
      unfold ms
      rw [xdu_self, upd_ne _ _ hb]
  · rw [xdu_ne _ _ _ ha]
    unfold ms
    rw [xdu_ne _ _ _ ha]
theorem ms_setS {S E : xD} {j k : Nat} (x : Int32) (h : msc j k = true) : xdu (ms S E) j k x = ms (xdu S j k x) E := by
  funext a b
  by_cases ha : a = j
  · subst ha
    by_cases hb : b = k
    · subst hb
      rw [xdu_self, upd_self]
      unfold ms
      rw [h, xdu_self, upd_self]
      rfl
    · rw [xdu_self, upd_ne _ _ hb]
      unfold ms
      rw [xdu_self, upd_ne _ _ hb]
  · rw [xdu_ne _ _ _ ha]
    unfold ms
    rw [xdu_ne _ _ _ ha]
theorem msc_j {j k : Nat} (h0 : j ≠ 0) (h : ¬ (24 ≤ j ∧ j ≤ 29)) : msc j k = false := by
  unfold msc
  simp only [Bool.or_eq_false_iff, Bool.and_eq_false_iff, decide_eq_false_iff_not]
  refine ⟨?_, Or.inl h0⟩
  by_cases q : 24 ≤ j
  · exact Or.inr (fun z => h ⟨q, z⟩)
  · exact Or.inl q
theorem msc_p {j k : Nat} (h : 24 ≤ j ∧ j ≤ 29) : msc j k = true := by
  unfold msc
  rw [decide_eq_true h.1, decide_eq_true h.2]
  rfl
