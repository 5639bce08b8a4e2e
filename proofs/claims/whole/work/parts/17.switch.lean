/-! ===== a switch over 0 .. n - 1 ===== -/
def xSw (x : Int32) (P : Nat → Prop) : Nat → List Nat → Prop
  | _, [] => True
  | i, t :: ts => (x = nI i → P t) ∧ xSw x P (i + 1) ts
def xNo (x : Int32) : Nat → Nat → Prop
  | _, 0 => True
  | i, n + 1 => ¬ x = nI i ∧ xNo x (i + 1) n
theorem xSw_at {x : Int32} {P : Nat → Prop} : ∀ {ts : List Nat} {b : Nat}, xSw x P b ts → ∀ {i t : Nat}, ts[i]? = some t → x = nI (b + i) → P t
  | [], _, _, i, t, h, _ => by simp at h
  | a :: ts, b, hs, 0, t, h, hx => by
    simp at h
    subst h
    exact hs.1 hx
  | a :: ts, b, hs, i + 1, t, h, hx => by
    simp at h
    exact xSw_at hs.2 h (by rw [hx]; congr 1; omega)
theorem xNo_of {x : Int32} : ∀ (n b : Nat), (∀ i, i < n → ¬ x = nI (b + i)) → xNo x b n
  | 0, _, _ => trivial
  | n + 1, b, h => ⟨h 0 (by omega), xNo_of n (b + 1) (fun i hi => by rw [show b + 1 + i = b + (i + 1) by omega]; exact h (i + 1) (by omega))⟩
theorem ex_table {Γ : xGm} {l : Launch} {f : Nat} {μ : xMt} {pc : Nat} {L : List (Option Value)} {st : List Value} {G : xG} {D : xD} {R : xR} {kc kw : Nat} {Q : Option Value → xG → xD → xR → Prop} {dflt lo hi : Int} {offs : Array Int} {len : Nat} {x : Int32} (b d : Nat) (ts : List Nat) (hd : decode μ.2.1 pc = .ok (.tableswitch dflt lo hi offs, len)) (hlo : lo = b) (hhi : hi = (b : Int) + ts.length - 1) (hb : b + ts.length < 2 ^ 31) (ho : offs.toList = ts.map (fun (t : Nat) => (t : Int) - pc)) (hdf : (pc : Int) + dflt = (d : Int)) (kin : xSw x (fun t => Ex Γ l f μ t L st G D R kc kw Q) b ts) (kout : xNo x b ts.length → Ex Γ l f μ d L st G D R kc kw Q) : Ex Γ l f μ pc L (.int x :: st) G D R kc kw Q := by
  by_cases h : x.toInt < lo ∨ hi < x.toInt
  · refine ex_tableOut d hd h hdf (kout (xNo_of _ _ (fun i hi2 hx => ?_)))
    rw [hx, nI_toInt (by omega)] at h
    omega
  · have h1 : ¬ x.toInt < lo := fun q => h (Or.inl q)
    have h2 : ¬ hi < x.toInt := fun q => h (Or.inr q)
    obtain ⟨i, hi1⟩ : ∃ i : Nat, x.toInt = (b : Int) + i := ⟨(x.toInt - b).toNat, by omega⟩
    have hil : i < ts.length := by omega
    have hx : x = nI (b + i) := Int32.toInt_inj.mp (by rw [nI_toInt (by omega), hi1]; omega)
    have ht : ts[i]? = some ts[i] := List.getElem?_eq_getElem hil
    have hoff : offs[(x.toInt - lo).toNat]? = some ((ts[i] : Int) - pc) := by
      rw [show (x.toInt - lo).toNat = i by omega, ← Array.getElem?_toList, ho, List.getElem?_map, ht]
      rfl
    exact ex_tableIn ts[i] hd h1 h2 hoff (by omega) (xSw_at kin ht hx)
