theorem fxk_dyn0 : ∀ p, p < 47 → (p < 17 ∨ fxK p ≠ (5, 0) ∧ fxK p ≠ (3, 0) ∧ fxK p ≠ (8, 0) ∧ fxK p ≠ (1, 0) ∧ fxK p ≠ (4, 0) ∧ fxK p ≠ (6, 0) ∧ fxK p ≠ (17, 20) ∧ fxK p ≠ (16, 8) ∧ fxK p ≠ (16, 12) ∧ fxK p ≠ (16, 48)) := by decide
theorem fxk_dyn (p : Nat) (h : p < 47) (h1 : 17 ≤ p) : fxK p ≠ (5, 0) ∧ fxK p ≠ (3, 0) ∧ fxK p ≠ (8, 0) ∧ fxK p ≠ (1, 0) ∧ fxK p ≠ (4, 0) ∧ fxK p ≠ (6, 0) ∧ fxK p ≠ (17, 20) ∧ fxK p ≠ (16, 8) ∧ fxK p ≠ (16, 12) ∧ fxK p ≠ (16, 48) := (fxk_dyn0 p h).resolve_left (by omega)
/-- the reference's cells are nobody's business in the class -/
theorem Sim_mg {D D' : xD} {R : xR} {G : xG} {E : xD} (h : Sim D R G E) (hD : ∀ p, p < 17 ∨ 47 ≤ p → D' p = D p) : Sim D' R G E := by
  have kk : ∀ p, (p < 17 ∨ 47 ≤ p) → Kc D D' R R G G p := fun p hp => ⟨id, rfl, hD p hp, rfl⟩
  have out : ∀ p k, p < G.1 ∧ G.2 p = k → (∀ q, q < 47 → 17 ≤ q → fxK q ≠ k) → (p < 17 ∨ 47 ≤ p) := fun p k hp hk => by
    by_cases a : p < 17
    · exact Or.inl a
    · by_cases b : p < 47
      · exact absurd ((h.X.2.1 p b).symm.trans hp.2) (hk p b (by omega))
      · exact Or.inr (by omega)
  have i5 : ∀ p, xis G p 5 → Kc D D' R R G G p := fun p hp => kk p (out p _ hp (fun q a b => (fxk_dyn q a b).1))
  have i3 : ∀ p, xis G p 3 → Kc D D' R R G G p := fun p hp => kk p (out p _ hp (fun q a b => (fxk_dyn q a b).2.1))
  have i8 : ∀ p, xis G p 8 → Kc D D' R R G G p := fun p hp => kk p (out p _ hp (fun q a b => (fxk_dyn q a b).2.2.1))
  have i1 : ∀ p, xis G p 1 → Kc D D' R R G G p := fun p hp => kk p (out p _ hp (fun q a b => (fxk_dyn q a b).2.2.2.1))
  have i4 : ∀ p, xis G p 4 → Kc D D' R R G G p := fun p hp => kk p (out p _ hp (fun q a b => (fxk_dyn q a b).2.2.2.2.1))
  have i6 : ∀ p, xis G p 6 → Kc D D' R R G G p := fun p hp => kk p (out p _ hp (fun q a b => (fxk_dyn q a b).2.2.2.2.2.1))
  have a20 : ∀ p, xia G p 1 20 → Kc D D' R R G G p := fun p hp => kk p (out p _ hp (fun q a b => (fxk_dyn q a b).2.2.2.2.2.2.1))
  have a8 : ∀ p, xia G p 0 8 → Kc D D' R R G G p := fun p hp => kk p (out p _ hp (fun q a b => (fxk_dyn q a b).2.2.2.2.2.2.2.1))
  have a12 : ∀ p, xia G p 0 12 → Kc D D' R R G G p := fun p hp => kk p (out p _ hp (fun q a b => (fxk_dyn q a b).2.2.2.2.2.2.2.2.1))
  have a48 : ∀ p, xia G p 0 48 → Kc D D' R R G G p := fun p hp => kk p (out p _ hp (fun q a b => (fxk_dyn q a b).2.2.2.2.2.2.2.2.2))
  obtain ⟨f1, f2, f3, f4⟩ := cFix_k (D' := D') (E' := E) h.A h.fl h.ou h.tr (fun p a _ _ _ => hD p (Or.inl a)) (fun k _ => by rw [hD 0 (Or.inl (by decide))]) (fun _ _ => rfl) (fun _ _ _ => rfl)
  exact ⟨h.X, h.I, h.F, f1, f2, f3, f4, cDr_k h.dr (fun p _ a b => ⟨i5 _ a, a20 _ b⟩) rfl rfl rfl rfl, cTx_k h.tx (fun p t _ _ a b => ⟨i5 _ a, a20 _ b⟩) rfl rfl rfl rfl, cRo_k h.ro i3 a8 rfl rfl rfl rfl rfl rfl, cAr_k h.ar i8 (fun p _ b => kk p (Or.inr b)) h.X rfl rfl rfl rfl, cTh_k h.th i6 i1 i4 (fun p _ b => kk p (Or.inr b)) a12 a48 h.X rfl (fun _ _ _ => rfl) rfl (fun _ _ _ _ => rfl)⟩
set_option maxRecDepth 20000 in
set_option maxHeartbeats 1000000 in
theorem c_loop_lp {Γ : xGm} {l : Launch} {f : Nat} {G : xG} {D0 : xD} {R : xR} (hf : 108 ≤ f) {o r : Int32} : ∀ (n c : Nat) (k : Int32) (D E : xD) (z : Option Value), Sim D R G E → Sam D0 D → vp_in k 41 → sMeta E r = 4 → c + n = 40 → Ex Γ l f MX9_loop 58 [some (.ref 0), some (.int o), some (.int r), some (.int k), some (.int (nI c)), z] [] G D R 0 0 (Sq G R D0 (some (.int (sLoop (sRun 12) E o r k c n).1)) (sLoop (sRun 12) E o r k c n).2) := by
  intro n
  induction n with
  | zero =>
    intro c k D E z hS hM hk h4 hc
    have hc : c = 40 := by omega
    subst hc
    refine il3 dX9_loop_58 ?_
    refine ex_if_eq 131 dX9_loop_59 (by decide) (fun h59 => ?_) (fun h59 => ?_)
    · refine il4 dX9_loop_131 ?_
      refine ex_iret dX9_loop_133 rfl ?_
      exact ⟨rfl, rfl, rfl, hS, hM⟩
    · refine il4 dX9_loop_62 ?_
      refine ex_bipush (v := 40) dX9_loop_64 (by decide) ?_
      refine ex_icmp_ge 131 dX9_loop_66 (by decide) (fun h66 => ?_) (fun h66 => ?_)
      · refine il4 dX9_loop_131 ?_
        refine ex_iret dX9_loop_133 rfl ?_
        exact ⟨rfl, rfl, rfl, hS, hM⟩
      · exact absurd (by decide) h66
  | succ n ih =>
    intro c k D E z hS hM hk h4 hc
    have ek := vi_n hk (by decide)
    rw [sLoop]
    by_cases k0 : k = 0
    · rw [if_pos k0]
      refine il3 dX9_loop_58 ?_
      refine ex_if_eq 131 dX9_loop_59 (by decide) (fun h59 => ?_) (fun h59 => ?_)
      · refine il4 dX9_loop_131 ?_
        refine ex_iret dX9_loop_133 rfl ?_
        exact ⟨rfl, rfl, rfl, hS, hM⟩
      · exact absurd k0 h59
    · rw [if_neg k0]
      have k1 : 1 ≤ ix k := by
        have : ix k ≠ 0 := fun q => k0 (by rw [ek.1, q]; rfl)
        omega
      have h21 := hS.B.a21 ek.2
      have en := vi_n h21 (by decide)
      have n1 : ¬ E 21 (ix k) = 0 → 1 ≤ ix (E 21 (ix k)) := fun q => by
        have : ix (E 21 (ix k)) ≠ 0 := fun q2 => q (by rw [en.1, q2]; rfl)
        omega
      have hrn := c_run_12 (Γ := Γ) (l := l) (G := G) (R := R) (f - 1) D E r k o (by omega) hS h4
      have hK := (ik_run 12 E r k o hS.I).2.meta4 h4
      generalize sRun 12 E r k o = A at *
      refine il3 dX9_loop_58 ?_
      refine ex_if_eq 131 dX9_loop_59 (by decide) (fun h59 => ?_) (fun h59 => ?_)
      · exact absurd h59 k0
      · refine il4 dX9_loop_62 ?_
        refine ex_bipush (v := 40) dX9_loop_64 (by decide) ?_
        refine ex_icmp_ge 131 dX9_loop_66 (by decide) (fun h66 => ?_) (fun h66 => ?_)
        · exact absurd h66 (nI_ge (a := c) (b := 40) (by omega) (by decide))
        · refine al0 dX9_loop_69 (by first | nofun | exact xrv_ne _) ?_
          refine gf9_36 rfl dX9_loop_70 (fr0_4 hS.X) (fx0 hS.X) ?_
          refine il3 dX9_loop_73 ?_
          refine cd9_194 (f' := f - 1) rfl dX9_loop_74 (Nat.le_of_ble_eq_true rfl) (fx5 hS.X) (by omega) ((by have z := c_siblingOf_t (Γ := Γ) (l := l) (f := f - 1) (D := D) (E := E) (v := k) hS.X (by omega); rw [hS.tr'] at z; exact z)) ?_
          rw [show eOf E 21 k = E 21 (ix k) from by rw [ek.1, eOf_n k1 ek.2, ← ek.1]]
          refine is5 dX9_loop_77 ?_
          refine al0 dX9_loop_79 (by first | nofun | exact xrv_ne _) ?_
          refine il2 dX9_loop_80 ?_
          refine il3 dX9_loop_81 ?_
          refine il1 dX9_loop_82 ?_
          refine ex_iconst (v := 0) dX9_loop_83 (by decide) ?_
          refine cs9_200 (f' := f - 1) rfl dX9_loop_84 (Nat.le_of_ble_eq_true rfl) (fx0 hS.X) (by omega) (Nat.zero_le _) (Nat.zero_le _) (hrn) ?_
          refine sq_k (fun D1 hS1 hM1 => ?_)
          refine ex_pop dX9_loop_87 ?_
          refine ic4 (nI (c + 1)) dX9_loop_88 (nI_1 c) ?_
          refine il5 dX9_loop_91 ?_
          refine ex_if_eq 125 dX9_loop_93 (by decide) (fun h93 => ?_) (fun h93 => ?_)
          · refine il5 dX9_loop_125 ?_
            refine is3 dX9_loop_127 ?_
            refine ex_goto 58 dX9_loop_128 (by decide) ?_
            rw [if_neg (by first | exact fun q => q.1 h93 | exact fun q => q.2 h106)]
            exact ih (c + 1) _ D1 _ _ hS1 (hM.tr hM1) h21 hK (by omega)
          · refine al0 dX9_loop_96 (by first | nofun | exact xrv_ne _) ?_
            refine gf9_36 rfl dX9_loop_97 (fr0_4 hS.X) (fx0 hS.X) ?_
            refine il5 dX9_loop_100 ?_
            refine cd9_188 (f' := f - 1) rfl dX9_loop_102 (Nat.le_of_ble_eq_true rfl) (fx5 hS.X) (by omega) ((by have z := c_parentOf_t (Γ := Γ) (l := l) (f := f - 1) (D := D1) (E := A.2) (v := E 21 (ix k)) hS1.X (by omega); rw [hS1.tr'] at z; exact z)) ?_
            rw [show eOf A.2 19 (E 21 (ix k)) = A.2 19 (ix (E 21 (ix k))) from by rw [en.1, eOf_n (n1 h93) en.2, ← en.1]]
            refine il1 dX9_loop_105 ?_
            refine ex_icmp_eq 125 dX9_loop_106 (by decide) (fun h106 => ?_) (fun h106 => ?_)
            · refine il5 dX9_loop_125 ?_
              refine is3 dX9_loop_127 ?_
              refine ex_goto 58 dX9_loop_128 (by decide) ?_
              rw [if_neg (by first | exact fun q => q.1 h93 | exact fun q => q.2 h106)]
              exact ih (c + 1) _ D1 _ _ hS1 (hM.tr hM1) h21 hK (by omega)
            · refine al0 dX9_loop_109 (by first | nofun | exact xrv_ne _) ?_
              refine gf9_57 rfl dX9_loop_110 (fr0_6 hS.X) (fx0 hS.X) ?_
              refine ex_bipush (v := 11) dX9_loop_113 (by decide) ?_
              refine il5 dX9_loop_115 ?_
              refine ex_iconst (v := 0) dX9_loop_117 (by decide) ?_
              refine cd9_175 (f' := f - 1) rfl dX9_loop_118 (Nat.le_of_ble_eq_true rfl) (fx13 hS.X) (by omega) (c_tell hS1.X hS1.n13) ?_
              refine ex_pop dX9_loop_121 ?_
              refine il4 dX9_loop_122 ?_
              refine ex_iret dX9_loop_124 rfl ?_
              rw [if_pos ⟨h93, h106⟩]
              exact ⟨rfl, rfl, rfl, (Sim_tell hS1 _ _ _).1, (hM.tr hM1).tr (Sim_tell hS1 _ _ _).2⟩
set_option maxRecDepth 20000 in
set_option maxHeartbeats 1000000 in
theorem c_loop {Γ : xGm} {l : Launch} {f : Nat} {G : xG} {D E : xD} {R : xR} (hf : 108 ≤ f) (hS : Sim D R G E) {o r : Int32} : Cn Γ l f MX9_loop [.ref 0, .int o, .int r] G D R 0 0 (Sq G R D (some (.int (sLoopT E o r).1)) (sLoopT E o r).2) := by
  refine cn_of MX9_loop_ok (Nat.le_of_ble_eq_true rfl) ?_
  show Ex Γ l f MX9_loop 0 [some (.ref 0), some (.int o), some (.int r), none, none, none] [] G D R 0 0 _
  obtain ⟨hSb, hMb⟩ := Sim_begin hS
  have hst := c_start (Γ := Γ) (l := l) (f := f - 1) (D := D) hS.X
  unfold sLoopT
  generalize sBegin E = E1 at *
  generalize xdu (xdu D 0 12 0) 0 13 0 = D1 at *
  by_cases h2 : sMeta E1 o = 2
  · obtain ⟨x, ex, x1, x2⟩ := sMeta_n hSb.B h2
    have eix : ix o = x := by rw [ex, ix_nI (by omega)]
    rw [if_neg (fun q => q h2)]
    by_cases h4 : sMeta E1 r = 4
    · rw [if_neg (fun q => q h4), eix, lk_eq]
      refine al0 dX9_loop_0 (by first | nofun | exact xrv_ne _) ?_
      refine cd9_153 (f' := f - 1) rfl dX9_loop_1 (Nat.le_of_ble_eq_true rfl) (fx0 hS.X) (by omega) (hst) ?_
      refine al0 dX9_loop_4 (by first | nofun | exact xrv_ne _) ?_
      refine il1 dX9_loop_5 ?_
      refine cd9_172 (f' := f - 1) rfl dX9_loop_6 (Nat.le_of_ble_eq_true rfl) (fx0 hS.X) (by omega) (c_meta (by omega) hSb) ?_
      refine ex_iconst (v := 2) dX9_loop_9 (by decide) ?_
      refine ex_icmp_eq 25 dX9_loop_10 (by decide) (fun h10 => ?_) (fun h10 => ?_)
      · refine al0 dX9_loop_25 (by first | nofun | exact xrv_ne _) ?_
        refine il2 dX9_loop_26 ?_
        refine cd9_172 (f' := f - 1) rfl dX9_loop_27 (Nat.le_of_ble_eq_true rfl) (fx0 hS.X) (by omega) (c_meta (by omega) hSb) ?_
        refine ex_iconst (v := 4) dX9_loop_30 (by decide) ?_
        refine ex_icmp_eq 46 dX9_loop_31 (by decide) (fun h31 => ?_) (fun h31 => ?_)
        · refine al0 dX9_loop_46 (by first | nofun | exact xrv_ne _) ?_
          refine gf9_36 rfl dX9_loop_47 (fr0_4 hS.X) (fx0 hS.X) ?_
          refine il1 dX9_loop_50 ?_
          refine cd9_191 (f' := f - 1) rfl dX9_loop_51 (Nat.le_of_ble_eq_true rfl) (fx5 hS.X) (by omega) ((by have z := c_childOf_t (Γ := Γ) (l := l) (f := f - 1) (D := D1) (E := E1) (v := o) hSb.X (by omega); rw [hSb.tr'] at z; exact z)) ?_
          rw [show eOf E1 20 o = E1 20 x from by rw [ex, eOf_n x1 x2]]
          refine is3 dX9_loop_54 ?_
          refine ex_iconst (v := 0) dX9_loop_55 (by decide) ?_
          refine is4 dX9_loop_56 ?_
          exact c_loop_lp hf 40 0 _ D1 E1 none hSb hMb (hSb.B.a20 x2) h4 (by omega)
        · exact absurd h4 h31
      · exact absurd h2 h10
    · rw [if_pos h4]
      refine al0 dX9_loop_0 (by first | nofun | exact xrv_ne _) ?_
      refine cd9_153 (f' := f - 1) rfl dX9_loop_1 (Nat.le_of_ble_eq_true rfl) (fx0 hS.X) (by omega) (hst) ?_
      refine al0 dX9_loop_4 (by first | nofun | exact xrv_ne _) ?_
      refine il1 dX9_loop_5 ?_
      refine cd9_172 (f' := f - 1) rfl dX9_loop_6 (Nat.le_of_ble_eq_true rfl) (fx0 hS.X) (by omega) (c_meta (by omega) hSb) ?_
      refine ex_iconst (v := 2) dX9_loop_9 (by decide) ?_
      refine ex_icmp_eq 25 dX9_loop_10 (by decide) (fun h10 => ?_) (fun h10 => ?_)
      · refine al0 dX9_loop_25 (by first | nofun | exact xrv_ne _) ?_
        refine il2 dX9_loop_26 ?_
        refine cd9_172 (f' := f - 1) rfl dX9_loop_27 (Nat.le_of_ble_eq_true rfl) (fx0 hS.X) (by omega) (c_meta (by omega) hSb) ?_
        refine ex_iconst (v := 4) dX9_loop_30 (by decide) ?_
        refine ex_icmp_eq 46 dX9_loop_31 (by decide) (fun h31 => ?_) (fun h31 => ?_)
        · exact absurd h31 h4
        · refine al0 dX9_loop_34 (by first | nofun | exact xrv_ne _) ?_
          refine gf9_57 rfl dX9_loop_35 (fr0_6 hS.X) (fx0 hS.X) ?_
          refine ex_bipush (v := 13) dX9_loop_38 (by decide) ?_
          refine il1 dX9_loop_40 ?_
          refine il2 dX9_loop_41 ?_
          refine cd9_175 (f' := f - 1) rfl dX9_loop_42 (Nat.le_of_ble_eq_true rfl) (fx13 hS.X) (by omega) (c_tell hSb.X hSb.n13) ?_
          refine ex_iret dX9_loop_45 rfl ?_
          exact ⟨rfl, rfl, rfl, (Sim_tell hSb _ _ _).1, hMb.tr (Sim_tell hSb _ _ _).2⟩
      · exact absurd h2 h10
  · rw [if_pos h2]
    refine al0 dX9_loop_0 (by first | nofun | exact xrv_ne _) ?_
    refine cd9_153 (f' := f - 1) rfl dX9_loop_1 (Nat.le_of_ble_eq_true rfl) (fx0 hS.X) (by omega) (hst) ?_
    refine al0 dX9_loop_4 (by first | nofun | exact xrv_ne _) ?_
    refine il1 dX9_loop_5 ?_
    refine cd9_172 (f' := f - 1) rfl dX9_loop_6 (Nat.le_of_ble_eq_true rfl) (fx0 hS.X) (by omega) (c_meta (by omega) hSb) ?_
    refine ex_iconst (v := 2) dX9_loop_9 (by decide) ?_
    refine ex_icmp_eq 25 dX9_loop_10 (by decide) (fun h10 => ?_) (fun h10 => ?_)
    · exact absurd h10 h2
    · refine al0 dX9_loop_13 (by first | nofun | exact xrv_ne _) ?_
      refine gf9_57 rfl dX9_loop_14 (fr0_6 hS.X) (fx0 hS.X) ?_
      refine ex_bipush (v := 6) dX9_loop_17 (by decide) ?_
      refine il1 dX9_loop_19 ?_
      refine ex_iconst (v := 0) dX9_loop_20 (by decide) ?_
      refine cd9_175 (f' := f - 1) rfl dX9_loop_21 (Nat.le_of_ble_eq_true rfl) (fx13 hS.X) (by omega) (c_tell hSb.X hSb.n13) ?_
      refine ex_iret dX9_loop_24 rfl ?_
      exact ⟨rfl, rfl, rfl, (Sim_tell hSb _ _ _).1, hMb.tr (Sim_tell hSb _ _ _).2⟩
