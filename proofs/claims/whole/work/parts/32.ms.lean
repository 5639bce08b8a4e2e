/-! ===== what works on the data leaves the pile ===== -/
theorem m_1 {S E : xD} : ms S E 1 = E 1 := ms_j (by decide) (by decide)
theorem mt_1 {S E : xD} {k : Nat} {x : Int32} : xdu (ms S E) 1 k x = ms S (xdu E 1 k x) := ms_set x (msc_j (by decide) (by decide))
theorem m_2 {S E : xD} : ms S E 2 = E 2 := ms_j (by decide) (by decide)
theorem mt_2 {S E : xD} {k : Nat} {x : Int32} : xdu (ms S E) 2 k x = ms S (xdu E 2 k x) := ms_set x (msc_j (by decide) (by decide))
theorem m_3 {S E : xD} : ms S E 3 = E 3 := ms_j (by decide) (by decide)
theorem mt_3 {S E : xD} {k : Nat} {x : Int32} : xdu (ms S E) 3 k x = ms S (xdu E 3 k x) := ms_set x (msc_j (by decide) (by decide))
theorem m_4 {S E : xD} : ms S E 4 = E 4 := ms_j (by decide) (by decide)
theorem mt_4 {S E : xD} {k : Nat} {x : Int32} : xdu (ms S E) 4 k x = ms S (xdu E 4 k x) := ms_set x (msc_j (by decide) (by decide))
theorem m_5 {S E : xD} : ms S E 5 = E 5 := ms_j (by decide) (by decide)
theorem mt_5 {S E : xD} {k : Nat} {x : Int32} : xdu (ms S E) 5 k x = ms S (xdu E 5 k x) := ms_set x (msc_j (by decide) (by decide))
theorem m_6 {S E : xD} : ms S E 6 = E 6 := ms_j (by decide) (by decide)
theorem mt_6 {S E : xD} {k : Nat} {x : Int32} : xdu (ms S E) 6 k x = ms S (xdu E 6 k x) := ms_set x (msc_j (by decide) (by decide))
theorem m_7 {S E : xD} : ms S E 7 = E 7 := ms_j (by decide) (by decide)
theorem mt_7 {S E : xD} {k : Nat} {x : Int32} : xdu (ms S E) 7 k x = ms S (xdu E 7 k x) := ms_set x (msc_j (by decide) (by decide))
theorem m_8 {S E : xD} : ms S E 8 = E 8 := ms_j (by decide) (by decide)
theorem mt_8 {S E : xD} {k : Nat} {x : Int32} : xdu (ms S E) 8 k x = ms S (xdu E 8 k x) := ms_set x (msc_j (by decide) (by decide))
theorem m_9 {S E : xD} : ms S E 9 = E 9 := ms_j (by decide) (by decide)
theorem mt_9 {S E : xD} {k : Nat} {x : Int32} : xdu (ms S E) 9 k x = ms S (xdu E 9 k x) := ms_set x (msc_j (by decide) (by decide))
theorem m_10 {S E : xD} : ms S E 10 = E 10 := ms_j (by decide) (by decide)
theorem mt_10 {S E : xD} {k : Nat} {x : Int32} : xdu (ms S E) 10 k x = ms S (xdu E 10 k x) := ms_set x (msc_j (by decide) (by decide))
theorem m_11 {S E : xD} : ms S E 11 = E 11 := ms_j (by decide) (by decide)
theorem mt_11 {S E : xD} {k : Nat} {x : Int32} : xdu (ms S E) 11 k x = ms S (xdu E 11 k x) := ms_set x (msc_j (by decide) (by decide))
theorem m_12 {S E : xD} : ms S E 12 = E 12 := ms_j (by decide) (by decide)
theorem mt_12 {S E : xD} {k : Nat} {x : Int32} : xdu (ms S E) 12 k x = ms S (xdu E 12 k x) := ms_set x (msc_j (by decide) (by decide))
theorem m_13 {S E : xD} : ms S E 13 = E 13 := ms_j (by decide) (by decide)
theorem mt_13 {S E : xD} {k : Nat} {x : Int32} : xdu (ms S E) 13 k x = ms S (xdu E 13 k x) := ms_set x (msc_j (by decide) (by decide))
theorem m_14 {S E : xD} : ms S E 14 = E 14 := ms_j (by decide) (by decide)
theorem mt_14 {S E : xD} {k : Nat} {x : Int32} : xdu (ms S E) 14 k x = ms S (xdu E 14 k x) := ms_set x (msc_j (by decide) (by decide))
theorem m_15 {S E : xD} : ms S E 15 = E 15 := ms_j (by decide) (by decide)
theorem mt_15 {S E : xD} {k : Nat} {x : Int32} : xdu (ms S E) 15 k x = ms S (xdu E 15 k x) := ms_set x (msc_j (by decide) (by decide))
theorem m_16 {S E : xD} : ms S E 16 = E 16 := ms_j (by decide) (by decide)
theorem mt_16 {S E : xD} {k : Nat} {x : Int32} : xdu (ms S E) 16 k x = ms S (xdu E 16 k x) := ms_set x (msc_j (by decide) (by decide))
theorem m_17 {S E : xD} : ms S E 17 = E 17 := ms_j (by decide) (by decide)
theorem mt_17 {S E : xD} {k : Nat} {x : Int32} : xdu (ms S E) 17 k x = ms S (xdu E 17 k x) := ms_set x (msc_j (by decide) (by decide))
theorem m_18 {S E : xD} : ms S E 18 = E 18 := ms_j (by decide) (by decide)
theorem mt_18 {S E : xD} {k : Nat} {x : Int32} : xdu (ms S E) 18 k x = ms S (xdu E 18 k x) := ms_set x (msc_j (by decide) (by decide))
theorem m_19 {S E : xD} : ms S E 19 = E 19 := ms_j (by decide) (by decide)
theorem mt_19 {S E : xD} {k : Nat} {x : Int32} : xdu (ms S E) 19 k x = ms S (xdu E 19 k x) := ms_set x (msc_j (by decide) (by decide))
theorem m_20 {S E : xD} : ms S E 20 = E 20 := ms_j (by decide) (by decide)
theorem mt_20 {S E : xD} {k : Nat} {x : Int32} : xdu (ms S E) 20 k x = ms S (xdu E 20 k x) := ms_set x (msc_j (by decide) (by decide))
theorem m_21 {S E : xD} : ms S E 21 = E 21 := ms_j (by decide) (by decide)
theorem mt_21 {S E : xD} {k : Nat} {x : Int32} : xdu (ms S E) 21 k x = ms S (xdu E 21 k x) := ms_set x (msc_j (by decide) (by decide))
theorem m_22 {S E : xD} : ms S E 22 = E 22 := ms_j (by decide) (by decide)
theorem mt_22 {S E : xD} {k : Nat} {x : Int32} : xdu (ms S E) 22 k x = ms S (xdu E 22 k x) := ms_set x (msc_j (by decide) (by decide))
theorem m_23 {S E : xD} : ms S E 23 = E 23 := ms_j (by decide) (by decide)
theorem mt_23 {S E : xD} {k : Nat} {x : Int32} : xdu (ms S E) 23 k x = ms S (xdu E 23 k x) := ms_set x (msc_j (by decide) (by decide))
theorem m0_0 {S E : xD} : ms S E 0 0 = E 0 0 := ms_0 rfl
theorem mt0_0 {S E : xD} {x : Int32} : xdu (ms S E) 0 0 x = ms S (xdu E 0 0 x) := ms_set x rfl
theorem m0_1 {S E : xD} : ms S E 0 1 = E 0 1 := ms_0 rfl
theorem mt0_1 {S E : xD} {x : Int32} : xdu (ms S E) 0 1 x = ms S (xdu E 0 1 x) := ms_set x rfl
theorem m0_3 {S E : xD} : ms S E 0 3 = E 0 3 := ms_0 rfl
theorem mt0_3 {S E : xD} {x : Int32} : xdu (ms S E) 0 3 x = ms S (xdu E 0 3 x) := ms_set x rfl
theorem m0_6 {S E : xD} : ms S E 0 6 = E 0 6 := ms_0 rfl
theorem mt0_6 {S E : xD} {x : Int32} : xdu (ms S E) 0 6 x = ms S (xdu E 0 6 x) := ms_set x rfl
theorem m0_11 {S E : xD} : ms S E 0 11 = E 0 11 := ms_0 rfl
theorem mt0_11 {S E : xD} {x : Int32} : xdu (ms S E) 0 11 x = ms S (xdu E 0 11 x) := ms_set x rfl
theorem m0_14 {S E : xD} : ms S E 0 14 = E 0 14 := ms_0 rfl
theorem mt0_14 {S E : xD} {x : Int32} : xdu (ms S E) 0 14 x = ms S (xdu E 0 14 x) := ms_set x rfl
theorem m0_27 {S E : xD} : ms S E 0 27 = E 0 27 := ms_0 rfl
theorem mt0_27 {S E : xD} {x : Int32} : xdu (ms S E) 0 27 x = ms S (xdu E 0 27 x) := ms_set x rfl
theorem m0_29 {S E : xD} : ms S E 0 29 = E 0 29 := ms_0 rfl
theorem mt0_29 {S E : xD} {x : Int32} : xdu (ms S E) 0 29 x = ms S (xdu E 0 29 x) := ms_set x rfl
theorem m0_41 {S E : xD} : ms S E 0 41 = E 0 41 := ms_0 rfl
theorem mt0_41 {S E : xD} {x : Int32} : xdu (ms S E) 0 41 x = ms S (xdu E 0 41 x) := ms_set x rfl
theorem m0_42 {S E : xD} : ms S E 0 42 = E 0 42 := ms_0 rfl
theorem mt0_42 {S E : xD} {x : Int32} : xdu (ms S E) 0 42 x = ms S (xdu E 0 42 x) := ms_set x rfl
theorem ms_ite {S a b : xD} (c : Bool) : (if c = true then ms S a else ms S b) = ms S (if c = true then a else b) := by cases c <;> rfl
theorem ms_itp {S a b : xD} {p : Prop} (hp : p ∨ ¬ p) (x y z : xD) (h1 : p → x = ms S a) (h2 : ¬ p → x = ms S b) : True := trivial

theorem ms_sMeta {S E : xD} {v : Int32} : sMeta (ms S E) v = sMeta E v := by
  unfold sMeta
  rw [m0_14, m_10, m_11, m0_3, m0_6, m0_11]
theorem ms_sRowAt {S E : xD} {t n : Int32} : sRowAt (ms S E) t n = sRowAt E t n := by
  unfold sRowAt
  rw [m_15]
theorem ms_sWrong {S E : xD} {t n i : Int32} : sWrong (ms S E) t n i = sWrong E t n i := by
  unfold sWrong
  rw [ms_sMeta, ms_sRowAt]
theorem ms_sFails {S E : xD} {k a b : Int32} : sFails (ms S E) k a b = ms S (sFails E k a b) := by
  unfold sFails
  rw [m0_0, m0_27, mt_22, mt_22, mt_22, mt0_27]
  split <;> rfl
theorem ms_sSay {S E : xD} {c : Int32} : sSay (ms S E) c = ms S (sSay E c) := by
  unfold sSay
  rw [m0_29, mt_23, mt0_29]
  split <;> rfl
theorem ms_sSays {S : xD} : ∀ {cs : List Int32} {E : xD}, sSays (ms S E) cs = ms S (sSays E cs)
  | [], _ => rfl
  | c :: cs, E => by rw [sSays, ms_sSay, ms_sSays]; rfl
theorem ms_sSayN {S : xD} {t : Int32} : ∀ (n : Nat) (k : Int32) (E : xD), sSayN (ms S E) t k n = ms S (sSayN E t k n)
  | 0, _, _ => rfl
  | n + 1, k, E => by rw [sSayN, ms_sSay, m_3, ms_sSayN n]; rfl
theorem ms_sSayText {S E : xD} {x : Int32} : sSayText (ms S E) x = ms S (sSayText E x) := by
  unfold sSayText
  rw [ms_sSayN, m_2]
theorem ms_sSayNum {S E : xD} {v : Int32} : sSayNum (ms S E) v = ms S (sSayNum E v) := by
  unfold sSayNum
  split <;> simp only [ms_sSay]
theorem ms_sArticle {S E : xD} {x a : Int32} : sArticle (ms S E) x a = ms S (sArticle E x a) := by
  unfold sArticle
  rw [m_2, m_3]
  split
  · split <;> simp only [ms_sSay]
  · split <;> simp only [ms_sSay]
theorem ms_sName {S E : xD} {v a : Int32} : sName (ms S E) v a = ms S (sName E v a) := by
  unfold sName
  rw [ms_sMeta, m_17, m_18]
  split
  · rw [ms_sSays]
  · split
    · rw [ms_sSays]
    · split
      · split <;> simp only [ms_sSays, ms_sSayNum]
      · split <;> split <;> simp only [ms_sSays, ms_sArticle, ms_sSayText]
theorem ms_sHas {S E : xD} {t g : Int32} : ∀ (n : Nat) (k : Int32), sHas (ms S E) t g k n = sHas E t g k n
  | 0, _ => rfl
  | n + 1, k => by rw [sHas, m_14, ms_sHas n]; rfl
theorem ms_sIsOf {S E : xD} {v g : Int32} : sIsOf (ms S E) v g = sIsOf E v g := by
  unfold sIsOf
  rw [ms_sMeta, ms_sHas, m_13]
theorem ms_sRead {S E : xD} {t n i : Int32} : sRead (ms S E) t n i = ((sRead E t n i).1, ms S (sRead E t n i).2) := by
  unfold sRead
  rw [ms_sWrong, ms_sFails, m_16]
  split <;> rfl
theorem ms_sWrite {S E : xD} {t n i v : Int32} : sWrite (ms S E) t n i v = ((sWrite E t n i v).1, ms S (sWrite E t n i v).2) := by
  unfold sWrite
  rw [ms_sWrong, ms_sFails, mt_16]
  split <;> rfl
theorem ms_sRowI {S : xD} {to fr : Int32} : ∀ (n : Nat) (i : Int32) (E : xD), sRowI (ms S E) to fr i n = ms S (sRowI E to fr i n)
  | 0, _, _ => rfl
  | n + 1, i, E => by
    rw [sRowI, sRowI, m_15, m_16, mt_16, mt_15]
    split
    · rfl
    · exact ms_sRowI n _ _
theorem ms_sRowK {S : xD} {o name : Int32} : ∀ (n : Nat) (k : Int32) (E : xD), sRowK (ms S E) o name k n = ms S (sRowK E o name k n)
  | 0, _, _ => rfl
  | n + 1, k, E => by
    rw [sRowK, sRowK, m_15, m_14, ms_sRowI]
    split
    · exact ms_sRowK n _ _
    · exact ms_sRowK n _ _
theorem ms_sRowN {S : xD} {o : Int32} : ∀ (n : Nat) (m : Int32) (E : xD), sRowN (ms S E) o m n = ms S (sRowN E o m n)
  | 0, _, _ => rfl
  | n + 1, m, E => by rw [sRowN, sRowN, mt_15, m_13, ms_sRowK, ms_sRowN n]
theorem ms_sRows {S E : xD} {o : Int32} : sRows (ms S E) o = ms S (sRows E o) := by
  unfold sRows
  rw [ms_sRowN]
theorem ms_sFind {S E : xD} {o : Int32} : ∀ (n : Nat) (k : Int32), sFind (ms S E) o k n = sFind E o k n
  | 0, _ => rfl
  | n + 1, k => by rw [sFind, sFind, m_21, ms_sFind n]
theorem ms_sInAt {S E : xD} {a : Int32} : ∀ (n : Nat) (k : Int32), sInAt (ms S E) a k n = sInAt E a k n
  | 0, _ => rfl
  | n + 1, k => by rw [sInAt, sInAt, m_19, ms_sInAt n]
theorem ms_sKids {S E : xD} : ∀ (n : Nat) (k : Int32), sKids (ms S E) k n = sKids E k n
  | 0, _ => rfl
  | n + 1, k => by rw [sKids, sKids, m_21, ms_sKids n]
theorem ms_sLeave {S E : xD} {o : Int32} : sLeave (ms S E) o = ms S (sLeave E o) := by
  unfold sLeave
  rw [m_19, m_20, m_21, ms_sFind, mt_20, mt_21]
  split
  · rfl
  · split <;> rw [mt_19, mt_21]
theorem ms_sMove {S E : xD} {a b : Int32} : sMove (ms S E) a b = ((sMove E a b).1, ms S (sMove E a b).2) := by
  unfold sMove
  rw [ms_sMeta, ms_sMeta, ms_sFails, ms_sFails, ms_sInAt, ms_sLeave, m_20, mt_19, mt_21, mt_20]
  split
  · rfl
  · split
    · rfl
    · split <;> rfl
theorem ms_sTree {S E : xD} {v w : Int32} : sTree (ms S E) v w = ((sTree E v w).1, ms S (sTree E v w).2) := by
  unfold sTree
  rw [ms_sMeta, ms_sFails, m_19, m_20, m_21, ms_sKids]
  split <;> rfl
theorem ms_sLift {S : xD} {o : Int32} : ∀ (n : Nat) (E : xD), sLift (ms S E) o n = ms S (sLift E o n)
  | 0, _ => rfl
  | n + 1, E => by
    rw [sLift, sLift, m_20, ms_sLeave]
    split
    · rfl
    · exact ms_sLift n _
theorem ms_sGone {S E : xD} {o : Int32} : sGone (ms S E) o = ms S (sGone E o) := by
  unfold sGone
  rw [ms_sLeave, ms_sLift, mt_11]
theorem ms_sSpend {S E : xD} {o : Int32} : sSpend (ms S E) o = ms S (sSpend E o) := by
  unfold sSpend
  rw [m0_42, ms_sFails, mt0_42]
  split <;> rfl
theorem ms_RB {S E : xD} : RB (ms S E) = RB E := by
  unfold RB
  rw [m0_1, m0_3, m0_6, m0_11, m0_14, m0_27, m0_29, m0_41, m_2, m_4, m_8, m_13, m_14, m_15, m_19, m_20, m_21, m_12, m_17, m_5]
theorem ms_Lnp {S E : xD} {t : Nat} : Lnp (ms S E) t = Lnp E t := by
  unfold Lnp
  rw [m_13, m_14]
theorem ms_LN {S E : xD} : LN (ms S E) = LN E := by
  unfold LN LPr isC
  simp only [ms_Lnp, m0_14, m_13, m_14, m_15, m_10]
