/-! ===== WHAT THE REFERENCE DOES, as functions of its cells E (E 0: its fields, E j: its j-th array) ===== -/
/-- a number that no unfolding looks into -/
noncomputable def lk (n : Nat) : Nat := Classical.choose (⟨n, rfl⟩ : ∃ m : Nat, m = n)
theorem lk_eq (n : Nat) : lk n = n := Classical.choose_spec (⟨n, rfl⟩ : ∃ m : Nat, m = n)
def bi : Bool → Int32
  | true => 1
  | false => 0
theorem bi_0 {b : Bool} : bi b = 0 ↔ b = false := by cases b <;> simp [bi]
theorem bi_n {b : Bool} : ¬ bi b = 0 ↔ b = true := by cases b <;> simp [bi]
theorem bi_1 {b : Bool} : bi b = 1 ↔ b = true := by cases b <;> simp [bi]
theorem bi_01 (b : Bool) : bi b = 0 ∨ bi b = 1 := by cases b <;> simp [bi]
def sIn (v a b : Int32) : Bool := decide (a ≤ v) && decide (v ≤ b)
theorem sIn_t {v a b : Int32} : sIn v a b = true ↔ a ≤ v ∧ v ≤ b := by simp [sIn]
theorem sIn_f {v a b : Int32} : sIn v a b = false ↔ ¬ (a ≤ v ∧ v ≤ b) := by simp [sIn]
def sFails (E : xD) (k a b : Int32) : xD := if ¬ E 0 0 = 0 ∧ ¬ 30 ≤ E 0 27 then xdu (xdu (xdu (xdu E 22 (ix (3 * E 0 27)) k) 22 (ix (3 * E 0 27 + 1)) a) 22 (ix (3 * E 0 27 + 2)) b) 0 27 (E 0 27 + 1) else E
def sSay (E : xD) (c : Int32) : xD := if ¬ 400 ≤ E 0 29 then xdu (xdu E 23 (ix (E 0 29)) c) 0 29 (E 0 29 + 1) else E
def sLetter (E : xD) (c : Int32) : Int32 × xD := if sIn c 32 126 = false then (-3, E) else if E 0 1 = 20 then (-4, E) else (E 0 1 + 1, xdu (xdu E 1 (ix (E 0 1)) c) 0 1 (E 0 1 + 1))
def sCopy (E : xD) (k : Int32) : Nat → xD
  | 0 => E
  | n + 1 => sCopy (xdu E 3 (ix (20 * E 0 3 + k)) (E 1 (ix k))) (k + 1) n
def sText (E : xD) : Int32 × xD := if E 0 3 = 20 then (-4, E) else
  (100 + (E 0 3 + 1), xdu (xdu (xdu (sCopy E 0 (ix (E 0 1))) 2 (ix (E 0 3)) (E 0 1)) 0 1 0) 0 3 (E 0 3 + 1))
def sRoutine (E : xD) : Int32 × xD := if E 0 6 = 20 then (-4, E) else (200 + (E 0 6 + 1), xdu E 0 6 (E 0 6 + 1))
def sAct (E : xD) (r w a b : Int32) : Int32 × xD := if sIn (r - 201) 0 (E 0 6 - 1) = false then (-2, E) else if sIn w 0 14 = false then (-3, E) else if E 4 (ix (r - 201)) = 8 then (-4, E) else
  (E 4 (ix (r - 201)) + 1, xdu (xdu (xdu (xdu E 5 (ix (8 * (r - 201) + E 4 (ix (r - 201)))) w) 6 (ix (8 * (r - 201) + E 4 (ix (r - 201)))) a) 7 (ix (8 * (r - 201) + E 4 (ix (r - 201)))) b) 4 (ix (r - 201)) (E 4 (ix (r - 201)) + 1))
def sArray (E : xD) (w : Int32) : Int32 × xD := if sIn w 1 10 = false then (-3, E) else if E 0 11 = 10 then (-4, E) else (300 + (E 0 11 + 1), xdu (xdu E 8 (ix (E 0 11)) w) 0 11 (E 0 11 + 1))
def sIsClass (E : xD) (v : Int32) : Bool := sIn v 1 (E 0 14) && decide (¬ E 10 (ix v) = 0)
def sMeta (E : xD) (v : Int32) : Int32 := if sIn v 1 (E 0 14) = true then (if ¬ E 10 (ix v) = 0 then 1 else if ¬ E 11 (ix v) = 0 then 2 else 0) else if sIn v 101 (100 + E 0 3) = true then 3 else if sIn v 201 (200 + E 0 6) = true then 4 else if sIn v 301 (300 + E 0 11) = true then 5 else 0
def sRowAt (E : xD) (t n : Int32) : Int32 := if sIn n 0 11 = true then E 15 (ix (12 * t + n)) else 0
def sWrong (E : xD) (t n i : Int32) : Int32 := if ¬ sMeta E t = 1 ∧ ¬ sMeta E t = 2 then 1 else if sRowAt E t n = 0 then 3 else if sIn i 0 (sRowAt E t n - 1) = false then 5 else 0
def sRead (E : xD) (t n i : Int32) : Int32 × xD := if ¬ sWrong E t n i ≤ 0 then (0, sFails E (sWrong E t n i) t n) else (E 16 (ix (4 * (12 * t + n) + i)), E)
def sWrite (E : xD) (t n i v : Int32) : Int32 × xD := if ¬ sWrong E t n i ≤ 0 then (0, sFails E (sWrong E t n i) t n) else (v, xdu E 16 (ix (4 * (12 * t + n) + i)) v)
def sValue (E : xD) (t n i v : Int32) : Int32 × xD := if sIn t 1 (E 0 14) = false then (-2, E) else if sIn n 0 11 = false ∨ sIn i 0 3 = false ∨ ¬ i ≤ E 15 (ix (12 * t + n)) then (-3, E) else
  (if i = E 15 (ix (12 * t + n)) then i + 1 else E 15 (ix (12 * t + n)), xdu (xdu E 16 (ix (4 * (12 * t + n) + i)) v) 15 (ix (12 * t + n)) (if i = E 15 (ix (12 * t + n)) then i + 1 else E 15 (ix (12 * t + n))))
def sCalled (E : xD) (t x p : Int32) : Int32 × xD := if sIn t 1 (E 0 14) = false ∨ (¬ x = 0 ∧ ¬ sMeta E x = 3) then (-2, E) else (1, xdu (xdu E 17 (ix t) x) 18 (ix t) p)
def sProvides (E : xD) (v n : Int32) : Int32 := if sMeta E v = 1 ∨ sMeta E v = 2 then sRowAt E v n else 0
def sOut (E : xD) (i : Int32) : Int32 := if sIn i 0 (E 0 29 - 1) = true then E 23 (ix i) else -1
def sClear (E : xD) : Int32 × xD := (E 0 29, xdu E 0 29 0)
def sFault (E : xD) (i w : Int32) : Int32 := if sIn i 0 (E 0 27 - 1) = true ∧ sIn w 0 2 = true then E 22 (ix (3 * i + w)) else -1
def sCountOf (E : xD) (w : Int32) : Int32 := if w = 0 then E 0 14 else if w = 1 then E 0 3 else if w = 2 then E 0 6 else if w = 3 then E 0 11 else if w = 4 then E 0 27 else if w = 5 then E 0 29 else if w = 6 then E 0 41 else if w = 7 then E 0 1 else -1
def sWrongWord (E : xD) (a i m : Int32) : Bool × xD := if ¬ sMeta E a = 5 then (true, sFails E 14 a i) else if sIn i 0 (m * E 8 (ix (a - 301)) - 1) = true then (false, E) else (true, sFails E 12 a i)
def sWord (E : xD) (a i : Int32) : Int32 × xD := if (sWrongWord E a i 1).1 = true then (0, (sWrongWord E a i 1).2) else (E 9 (ix (10 * (a - 301) + i)), E)
def sSetWord (E : xD) (a i v : Int32) : Int32 × xD := if (sWrongWord E a i 1).1 = true then (0, (sWrongWord E a i 1).2) else (v, xdu E 9 (ix (10 * (a - 301) + i)) v)
def sByteOf (E : xD) (a i : Int32) : Int32 × xD := if (sWrongWord E a i 4).1 = true then (0, (sWrongWord E a i 4).2) else ((E 9 (ix (10 * (a - 301) + i / 4)) >>> ((24 - 8 * (i - i / 4 * 4)) &&& 31)) &&& 255, E)
/-! lines -/
def sHas (E : xD) (t g k : Int32) : Nat → Bool
  | 0 => false
  | n + 1 => if E 14 (ix (41 * t + k)) = g then true else sHas E t g (k + 1) n
def sAddTo (E : xD) (t g : Int32) : xD := if sHas E t g 0 (ix (E 13 (ix t))) = true then E else xdu (xdu E 14 (ix (41 * t + E 13 (ix t))) g) 13 (ix t) (E 13 (ix t) + 1)
def sJoinL (E : xD) (t g k : Int32) : Nat → xD
  | 0 => E
  | n + 1 => sJoinL (sAddTo E t (E 14 (ix (41 * g + k)))) t g (k + 1) n
def sJoin (E : xD) (t g : Int32) : xD := if g = 0 then E else sJoinL E t g 0 (ix (E 13 (ix g)))
def sNew (E : xD) (b : Int32) : xD := xdu (xdu E 0 14 (E 0 14 + 1)) 10 (ix (E 0 14 + 1)) b
def sIsOf (E : xD) (v g : Int32) : Bool := decide (sMeta E v = 2) && sHas E v g 0 (ix (E 13 (ix v)))
/-! rows -/
def sRowI (E : xD) (to fr i : Int32) : Nat → xD
  | 0 => E
  | n + 1 => if 4 ≤ E 15 (ix to) then E else sRowI (xdu (xdu E 16 (ix (4 * to + E 15 (ix to))) (E 16 (ix (4 * fr + i)))) 15 (ix to) (E 15 (ix to) + 1)) to fr (i + 1) n
def sRowK (E : xD) (o name k : Int32) : Nat → xD
  | 0 => E
  | n + 1 => sRowK (if name = 0 ∨ E 15 (ix (12 * o + name)) = 0 then sRowI E (12 * o + name) (12 * E 14 (ix (41 * o + k)) + name) 0 (ix (E 15 (ix (12 * E 14 (ix (41 * o + k)) + name)))) else E) o name (k + 1) n
def sRowN (E : xD) (o name : Int32) : Nat → xD
  | 0 => E
  | n + 1 => sRowN (sRowK (xdu E 15 (ix (12 * o + name)) 0) o name 0 (ix (E 13 (ix o)))) o (name + 1) n
noncomputable def sRows (E : xD) (o : Int32) : xD := sRowN E o 0 (lk 12)
noncomputable def sPool1 (E : xD) (c : Int32) : xD := sRows (sJoin (sNew E 0) (E 0 14 + 1) c) (E 0 14 + 1)
noncomputable def sPool (E : xD) (c : Int32) : Nat → xD
  | 0 => E
  | n + 1 => sPool (sPool1 E c) c n
noncomputable def sGroup (E : xD) (a b p : Int32) : Int32 × xD :=
  if (¬ a = 0 ∧ sIsClass E a = false) ∨ (¬ b = 0 ∧ sIsClass E b = false) then (-2, E) else if sIn p 0 6 = false then (-3, E) else if ¬ E 0 14 + 1 + p ≤ 40 then (-4, E) else
  (E 0 14 + 1, sPool (xdu (sJoin (sJoin (sAddTo (sNew E 1) (E 0 14 + 1) (E 0 14 + 1)) (E 0 14 + 1) a) (E 0 14 + 1) b) 12 (ix (E 0 14 + 1)) p) (E 0 14 + 1) (ix p))
noncomputable def sObject (E : xD) (a b : Int32) : Int32 × xD :=
  if (¬ a = 0 ∧ sIsClass E a = false) ∨ (¬ b = 0 ∧ sIsClass E b = false) then (-2, E) else if E 0 14 = 40 then (-4, E) else
  (E 0 14 + 1, sRows (sJoin (sJoin (xdu (sNew E 0) 11 (ix (E 0 14 + 1)) 1) (E 0 14 + 1) a) (E 0 14 + 1) b) (E 0 14 + 1))
/-! names -/
def sSayN (E : xD) (t k : Int32) : Nat → xD
  | 0 => E
  | n + 1 => sSayN (sSay E (E 3 (ix (20 * t + k)))) t (k + 1) n
def sSayText (E : xD) (x : Int32) : xD := sSayN E (x - 101) 0 (ix (E 2 (ix (x - 101))))
def sSayNum (E : xD) (v : Int32) : xD := sSay (sSay (if ¬ v ≤ 9 then sSay (sSay E 40) (48 + v / 10) else sSay E 40) (48 + (v - v / 10 * 10))) 41
def sVowel (c : Int32) : Bool := decide (c = 97) || decide (c = 101) || decide (c = 105) || decide (c = 111) || decide (c = 117) || decide (c = 65) || decide (c = 69) || decide (c = 73) || decide (c = 79) || decide (c = 85)
def sArticle (E : xD) (x a : Int32) : xD :=
  if a = 2 then sSay (if ¬ E 2 (ix (x - 101)) ≤ 0 ∧ sVowel (E 3 (ix (20 * (x - 101)))) = true then sSay (sSay E 97) 110 else sSay E 97) 32
  else if a = 1 ∨ a = 3 then sSay (sSay (sSay (sSay E (if a = 1 then 116 else 84)) 104) 101) 32 else E
def sSays (E : xD) : List Int32 → xD
  | [] => E
  | c :: cs => sSays (sSay E c) cs
def sName (E : xD) (v a : Int32) : xD :=
  if v = 0 then sSays E [110, 111, 116, 104, 105, 110, 103]
  else if ¬ sMeta E v = 1 ∧ ¬ sMeta E v = 2 then sSays E [40, 110, 111, 110, 101, 41]
  else if E 17 (ix v) = 0 then sSayNum (if sMeta E v = 1 then sSays E [99, 108, 97, 115, 115, 32] else E) v
  else sSayText (if sMeta E v = 2 ∧ E 18 (ix v) = 0 then sArticle (if sMeta E v = 1 then sSays E [99, 108, 97, 115, 115, 32] else E) (E 17 (ix v)) a else (if sMeta E v = 1 then sSays E [99, 108, 97, 115, 115, 32] else E)) (E 17 (ix v))
/-! the tree -/
def sFind (E : xD) (o k : Int32) : Nat → Int32
  | 0 => k
  | n + 1 => if E 21 (ix k) = o then k else sFind E o (E 21 (ix k)) n
noncomputable def sLeave (E : xD) (o : Int32) : xD := if E 19 (ix o) = 0 then E else
  xdu (xdu (if E 20 (ix (E 19 (ix o))) = o then xdu E 20 (ix (E 19 (ix o))) (E 21 (ix o)) else xdu E 21 (ix (sFind E o (E 20 (ix (E 19 (ix o)))) (lk 40))) (E 21 (ix o))) 19 (ix o) 0) 21 (ix o) 0
def sInAt (E : xD) (a k : Int32) : Nat → Bool
  | 0 => false
  | n + 1 => if k = 0 then false else if k = a then true else sInAt E a (E 19 (ix k)) n
noncomputable def sMove (E : xD) (a b : Int32) : Int32 × xD := if ¬ sMeta E a = 2 ∨ (¬ b = 0 ∧ ¬ sMeta E b = 2) then (0, sFails E 6 a b) else if sInAt E a b (lk 41) = true then (0, sFails E 7 a b) else
  (1, if b = 0 then sLeave E a else xdu (xdu (xdu (sLeave E a) 19 (ix a) b) 21 (ix a) (sLeave E a 20 (ix b))) 20 (ix b) a)
def sKids (E : xD) (k : Int32) : Nat → Nat
  | 0 => 0
  | n + 1 => if k = 0 then 0 else sKids E (E 21 (ix k)) n + 1
noncomputable def sTree (E : xD) (v w : Int32) : Int32 × xD := if ¬ sMeta E v = 2 then (0, sFails E 6 v 0) else
  (if w = 0 then E 19 (ix v) else if w = 1 then E 20 (ix v) else if w = 2 then E 21 (ix v) else nI (sKids E (E 20 (ix v)) (lk 40)), E)
/-! numbers in their range -/
theorem vi_n {a : Int32} {A : Nat} (h : vp_in a A) (hA : A < 2 ^ 31) : a = nI (ix a) ∧ ix a < A := by
  obtain ⟨j, hj, rfl⟩ := vp_in_of h hA
  rw [ix_nI (by omega)]
  exact ⟨rfl, hj⟩
theorem vi_of {n N : Nat} (h : n < N) (hN : N < 2 ^ 31) : vp_in (nI n) N := vp_in_nI h hN
theorem vi_le {a : Int32} {A B : Nat} (h : vp_in a A) (hAB : A ≤ B) : vp_in a B := by
  rw [vp_in_iff] at h ⊢
  omega
theorem i32_le {a b : Int32} : a ≤ b ↔ a.toInt ≤ b.toInt := Int32.le_iff_toInt_le
theorem vi_btw {v : Int32} {a A B : Nat} {x : Int32} (hx : vp_in x A) (h1 : nI a ≤ v) (h2 : v ≤ x) (ha : a < 2 ^ 31) (hAB : A ≤ B) : vp_in v B := by
  rw [vp_in_iff] at hx ⊢
  rw [i32_le, nI_toInt ha] at h1
  rw [i32_le] at h2
  omega
/-- c * a + b, its number and its range -/
theorem vi_ln {a b : Int32} {A B N : Nat} (c : Nat) (ha : vp_in a A) (hb : vp_in b B) (hA : A < 2 ^ 31) (hB : B < 2 ^ 31) (h : c * (A - 1) + B ≤ N) (hN : N < 2 ^ 31) : vp_in (nI c * a + b) N ∧ ix (nI c * a + b) = c * ix a + ix b := by
  obtain ⟨ea, la⟩ := vi_n ha hA
  obtain ⟨eb, lb⟩ := vi_n hb hB
  have hm : c * ix a ≤ c * (A - 1) := Nat.mul_le_mul_left c (by omega)
  have e : nI c * a + b = nI (c * ix a + ix b) := by
    conv => lhs; rw [ea, eb]
    rw [pk_mul, nI_add]
  rw [e, ix_nI (by omega)]
  exact ⟨vi_of (by omega) hN, rfl⟩
theorem vi_ad {a b : Int32} {A B N : Nat} (ha : vp_in a A) (hb : vp_in b B) (hA : A < 2 ^ 31) (hB : B < 2 ^ 31) (h : A + B ≤ N + 1) (hN : N < 2 ^ 31) : vp_in (a + b) N ∧ ix (a + b) = ix a + ix b := by
  obtain ⟨ea, la⟩ := vi_n ha hA
  obtain ⟨eb, lb⟩ := vi_n hb hB
  have e : a + b = nI (ix a + ix b) := by
    conv => lhs; rw [ea, eb]
    rw [nI_add]
  rw [e, ix_nI (by omega)]
  exact ⟨vi_of (by omega) hN, rfl⟩
theorem vi_sc {a : Int32} {A N : Nat} (c : Nat) (ha : vp_in a A) (hA : A < 2 ^ 31) (h : c * (A - 1) < N) (hN : N < 2 ^ 31) : vp_in (nI c * a) N ∧ ix (nI c * a) = c * ix a := by
  obtain ⟨ea, la⟩ := vi_n ha hA
  have hm : c * ix a ≤ c * (A - 1) := Nat.mul_le_mul_left c (by omega)
  have e : nI c * a = nI (c * ix a) := by
    conv => lhs; rw [ea]
    rw [pk_mul]
  rw [e, ix_nI (by omega)]
  exact ⟨vi_of (by omega) hN, rfl⟩
theorem vi_ne {a : Int32} {A : Nat} (h : vp_in a (A + 1)) (hA : A < 2 ^ 31) (hn : ¬ a = nI A) : vp_in a A := by
  rw [vp_in_iff] at h ⊢
  have : a.toInt ≠ A := fun e => hn (Int32.toInt_inj.mp (by rw [nI_toInt hA]; exact e))
  omega
theorem vi_lt {a : Int32} {A B : Nat} (h : vp_in a A) (hB : B < 2 ^ 31) (hn : ¬ nI B ≤ a) : vp_in a B := by
  rw [vp_in_iff] at h ⊢
  rw [i32_le, nI_toInt hB] at hn
  omega
