noncomputable def sLoopT (E : xD) (o r : Int32) : Int32 × xD := if ¬ sMeta (sBegin E) o = 2 then (0, sFails (sBegin E) 6 o 0) else if ¬ sMeta (sBegin E) r = 4 then (0, sFails (sBegin E) 13 o r) else sLoop (sRun 12) (sBegin E) o r ((sBegin E) 20 (ix o)) 0 (lk 40)
/-- as qAns, and the pile is empty behind it -/
def qAnsL (G : xG) (D : xD) (R : xR) (r : Int32 × xD) : Option Value → xG → xD → xR → Prop := fun v G' D' R' => ∃ S', (v = some (.int r.1) ∧ S' 0 31 = 0 ∧ S' 0 32 = 0) ∧ G' = G ∧ D' = mg D (ms S' r.2) ∧ R' = R
theorem q_goesL {Γ : xGm} {l : Launch} {f : Nat} {G : xG} {D S E : xD} {R : xR} {r : Int32 × xD} (h : Gx Γ l f G D R (qAnsL G D R r) S E) : Cn Γ l f MX10_goes [.ref 17] G (mg D (ms S E)) R 0 0 (qAnsL G D R r) := by
  refine cn_of MX10_goes_ok (Nat.le_of_ble_eq_true rfl) ?_
  exact h
theorem k_topL {Γ : xGm} {l : Launch} {f : Nat} {G : xG} {D S : xD} {R : xR} (hX : xFix G R) (hf : 9 ≤ f) (hP : Pc S 0 0) (r : Int32 × xD) : Kx Γ l f G D R (qAnsL G D R r) S 0 r := fun S' hs h39 ha => g_done hX hf h39 (hs.1.trans hP.1) ⟨S', ⟨by rw [ha], hs.1.trans hP.1, hs.2.1.trans hP.2.1⟩, rfl, rfl, rfl⟩
set_option maxRecDepth 20000 in
set_option maxHeartbeats 2000000 in
theorem q_loop_lp {Γ : xGm} {l : Launch} {f : Nat} {G : xG} {D : xD} {R : xR} (hX : xFix G R) (hf : 11 ≤ f) {o r : Int32} : ∀ (n c : Nat) (k : Int32) (S E : xD) (hI : Iv E) (hP : Pc S 0 0 ∨ (S 0 31 = 0 ∧ S 0 32 = 0)) (hk : vp_in k 41) (h4 : sMeta E r = 4) (hc : c + n = 40) (z5 z6 z7 : Option Value), Ex Γ l f MX10_loop 50 [some (.ref 17), some (.int o), some (.int r), some (.int (nI c)), some (.int k), z5, z6, z7] [] G (mg D (ms S E)) R 0 0 (qAns G D R (sLoop (sRun 12) E o r k c n)) := by
  intro n
  induction n with
  | zero =>
    intro c k S E hI hP hk h4 hc z5 z6 z7
    refine il4 dX10_loop_50 ?_
    refine ex_if_eq 129 dX10_loop_52 (by decide) (fun h52 => ?_) (fun h52 => ?_)
    · refine il3 dX10_loop_129 ?_
      refine ex_iret dX10_loop_130 rfl ?_
      exact ⟨S, rfl, rfl, rfl, rfl⟩
    · refine il3 dX10_loop_55 ?_
      refine ex_bipush (v := 40) dX10_loop_56 (by decide) ?_
      refine ex_icmp_ge 129 dX10_loop_58 (by decide) (fun h58 => ?_) (fun h58 => ?_)
      · refine il3 dX10_loop_129 ?_
        refine ex_iret dX10_loop_130 rfl ?_
        exact ⟨S, rfl, rfl, rfl, rfl⟩
      · exact absurd (by rw [show c = 40 by omega]; decide) h58
  | succ n ih =>
    intro c k S E hI hP hk h4 hc z5 z6 z7
    have h31 : S 0 31 = nI 0 := by
      rcases hP with q | q
      · exact q.1
      · exact q.1
    have h32 : S 0 32 = nI 0 := by
      rcases hP with q | q
      · exact q.2.1
      · exact q.2
    have p0 : Pc (xdu S 0 39 0) 0 0 := ⟨by rw [xdu_self, upd_ne _ _ (by decide)]; exact h31, by rw [xdu_self, upd_ne _ _ (by decide)]; exact h32, by rw [xdu_self, upd_self]⟩
    have k1 := ik_run 12 E r k o hI
    refine il4 dX10_loop_50 ?_
    refine ex_if_eq 129 dX10_loop_52 (by decide) (fun h52 => ?_) (fun h52 => ?_)
    · refine il3 dX10_loop_129 ?_
      refine ex_iret dX10_loop_130 rfl ?_
      exact ⟨S, by rw [sLoop, if_pos h52], rfl, by rw [sLoop, if_pos h52], rfl⟩
    · refine il3 dX10_loop_55 ?_
      refine ex_bipush (v := 40) dX10_loop_56 (by decide) ?_
      refine ex_icmp_ge 129 dX10_loop_58 (by decide) (fun h58 => ?_) (fun h58 => ?_)
      · exact absurd h58 (nI_ge (a := c) (b := 40) (by omega) (by decide))
      · refine al0 dX10_loop_61 (by first | nofun | exact xrv_ne _) ?_
        refine rf_71 hX rfl dX10_loop_62 ?_
        refine il4 dX10_loop_65 ?_
        refine qb_21 hX dX10_loop_67 hk ?_
        refine is5 dX10_loop_68 ?_
        refine al0 dX10_loop_70 (by first | nofun | exact xrv_ne _) ?_
        refine ex_iconst (v := 0) dX10_loop_71 (by decide) ?_
        refine qp_180 hX rfl dX10_loop_72 (by decide) ?_
        refine al0 dX10_loop_75 (by first | nofun | exact xrv_ne _) ?_
        refine il2 dX10_loop_76 ?_
        refine il4 dX10_loop_77 ?_
        refine il1 dX10_loop_79 ?_
        refine cd10_198 (f' := f - 1) rfl dX10_loop_80 (Nat.le_of_ble_eq_true rfl) (fx17 hX) (by omega) (q_runs hX (by omega) hI.1 (v0_40 p0 (by decide)).1) ?_
        refine al0 dX10_loop_83 (by first | nofun | exact xrv_ne _) ?_
        refine cs10_261 (f' := f - 1) rfl dX10_loop_84 (Nat.le_of_ble_eq_true rfl) (fx17 hX) (by omega) (Nat.zero_le _) (Nat.zero_le _) (q_goesL (p_run hX (by omega) 12 (xdu S 0 39 0) E 0 0 r k o hI p0 (by decide) (by decide) h4 (k_topL hX (by omega) p0 _))) ?_
        rintro v9 G9 D9 R9 ⟨S9, ⟨rfl, h931, h932⟩, rfl, rfl, rfl⟩
        refine is6 dX10_loop_87 ?_
        refine ic3 (nI (c + 1)) dX10_loop_89 (nI_1 c) ?_
        refine il5 dX10_loop_92 ?_
        refine ex_if_eq 122 dX10_loop_94 (by decide) (fun h94 => ?_) (fun h94 => ?_)
        · refine il5 dX10_loop_122 ?_
          refine is4 dX10_loop_124 ?_
          refine ex_goto 50 dX10_loop_126 (by decide) ?_
          first
            | (have hnb : ¬ (¬ E 21 (ix k) = 0 ∧ ¬ (sRun 12 E r k o).2 19 (ix (E 21 (ix k))) = o) := fun q => by first | exact q.1 (by assumption) | exact q.2 (by assumption)
               rw [sLoop, if_neg h52, if_neg hnb]
               exact ih (c + 1) _ S9 _ k1.1 (Or.inr ⟨h931, h932⟩) (hI.1.a21 (vi_lt41 hk)) (k1.2.meta4 h4) (by omega) _ _ _)
            | (have hnb : ¬ E 21 (ix k) = 0 ∧ ¬ (sRun 12 E r k o).2 19 (ix (E 21 (ix k))) = o := ⟨by assumption, by assumption⟩
               rw [sLoop, if_neg h52, if_pos hnb]
               refine il4 dX10_loop_50 ?_
               refine ex_if_eq 129 dX10_loop_52 (by decide) (fun _ => ?_) (fun h => absurd rfl h)
               refine il3 dX10_loop_129 ?_
               refine ex_iret dX10_loop_130 rfl ?_
               exact ⟨S9, rfl, rfl, rfl, rfl⟩)
        · refine al0 dX10_loop_97 (by first | nofun | exact xrv_ne _) ?_
          refine rf_65 hX rfl dX10_loop_98 ?_
          refine il5 dX10_loop_101 ?_
          refine qb_19 hX dX10_loop_103 (hI.1.a21 (vi_lt41 hk)) ?_
          refine il1 dX10_loop_104 ?_
          refine ex_icmp_eq 122 dX10_loop_105 (by decide) (fun h105 => ?_) (fun h105 => ?_)
          · refine il5 dX10_loop_122 ?_
            refine is4 dX10_loop_124 ?_
            refine ex_goto 50 dX10_loop_126 (by decide) ?_
            first
              | (have hnb : ¬ (¬ E 21 (ix k) = 0 ∧ ¬ (sRun 12 E r k o).2 19 (ix (E 21 (ix k))) = o) := fun q => by first | exact q.1 (by assumption) | exact q.2 (by assumption)
                 rw [sLoop, if_neg h52, if_neg hnb]
                 exact ih (c + 1) _ S9 _ k1.1 (Or.inr ⟨h931, h932⟩) (hI.1.a21 (vi_lt41 hk)) (k1.2.meta4 h4) (by omega) _ _ _)
              | (have hnb : ¬ E 21 (ix k) = 0 ∧ ¬ (sRun 12 E r k o).2 19 (ix (E 21 (ix k))) = o := ⟨by assumption, by assumption⟩
                 rw [sLoop, if_neg h52, if_pos hnb]
                 refine il4 dX10_loop_50 ?_
                 refine ex_if_eq 129 dX10_loop_52 (by decide) (fun _ => ?_) (fun h => absurd rfl h)
                 refine il3 dX10_loop_129 ?_
                 refine ex_iret dX10_loop_130 rfl ?_
                 exact ⟨S9, rfl, rfl, rfl, rfl⟩)
          · refine al0 dX10_loop_108 (by first | nofun | exact xrv_ne _) ?_
            refine ex_bipush (v := 11) dX10_loop_109 (by decide) ?_
            refine il5 dX10_loop_111 ?_
            refine ex_iconst (v := 0) dX10_loop_113 (by decide) ?_
            refine cd10_174 (f' := f - 1) rfl dX10_loop_114 (Nat.le_of_ble_eq_true rfl) (fx17 hX) (by omega) (q_fails hX k1.1.1) ?_
            refine is7 dX10_loop_117 ?_
            refine ex_iconst (v := 0) dX10_loop_119 (by decide) ?_
            refine is5 dX10_loop_120 ?_
            refine il5 dX10_loop_122 ?_
            refine is4 dX10_loop_124 ?_
            refine ex_goto 50 dX10_loop_126 (by decide) ?_
            first
              | (have hnb : ¬ (¬ E 21 (ix k) = 0 ∧ ¬ (sRun 12 E r k o).2 19 (ix (E 21 (ix k))) = o) := fun q => by first | exact q.1 (by assumption) | exact q.2 (by assumption)
                 rw [sLoop, if_neg h52, if_neg hnb]
                 exact ih (c + 1) _ S9 _ k1.1 (Or.inr ⟨h931, h932⟩) (hI.1.a21 (vi_lt41 hk)) (k1.2.meta4 h4) (by omega) _ _ _)
              | (have hnb : ¬ E 21 (ix k) = 0 ∧ ¬ (sRun 12 E r k o).2 19 (ix (E 21 (ix k))) = o := ⟨by assumption, by assumption⟩
                 rw [sLoop, if_neg h52, if_pos hnb]
                 refine il4 dX10_loop_50 ?_
                 refine ex_if_eq 129 dX10_loop_52 (by decide) (fun _ => ?_) (fun h => absurd rfl h)
                 refine il3 dX10_loop_129 ?_
                 refine ex_iret dX10_loop_130 rfl ?_
                 exact ⟨S9, rfl, rfl, rfl, rfl⟩)
set_option maxRecDepth 20000 in
set_option maxHeartbeats 1000000 in
theorem q_loop {Γ : xGm} {l : Launch} {f : Nat} {G : xG} {D S E : xD} {R : xR} (hX : xFix G R) (hf : 11 ≤ f) (hI : Iv E) {o r : Int32} : Cn Γ l f MX10_loop [.ref 17, .int o, .int r] G (mg D (ms S E)) R 0 0 (qAns G D R (sLoopT E o r)) := by
  refine cn_of MX10_loop_ok (Nat.le_of_ble_eq_true rfl) ?_
  show Ex Γ l f MX10_loop 0 [some (.ref 17), some (.int o), some (.int r), none, none, none, none, none] [] G (mg D (ms S E)) R 0 0 _
  refine al0 dX10_loop_0 (by first | nofun | exact xrv_ne _) ?_
  refine cd10_258 (f' := f - 1) rfl dX10_loop_1 (Nat.le_of_ble_eq_true rfl) (fx17 hX) (by omega) (q_begins hX) ?_
  refine al0 dX10_loop_4 (by first | nofun | exact xrv_ne _) ?_
  refine il1 dX10_loop_5 ?_
  refine cd10_141 (f' := f - 1) rfl dX10_loop_6 (Nat.le_of_ble_eq_true rfl) (fx17 hX) (by omega) (q_meta hX (by omega) hI.begin.1) ?_
  refine ex_iconst (v := 2) dX10_loop_9 (by decide) ?_
  refine ex_icmp_eq 22 dX10_loop_10 (by decide) (fun h10 => ?_) (fun h10 => ?_)
  · refine al0 dX10_loop_22 (by first | nofun | exact xrv_ne _) ?_
    refine il2 dX10_loop_23 ?_
    refine cd10_141 (f' := f - 1) rfl dX10_loop_24 (Nat.le_of_ble_eq_true rfl) (fx17 hX) (by omega) (q_meta hX (by omega) hI.begin.1) ?_
    refine ex_iconst (v := 4) dX10_loop_27 (by decide) ?_
    refine ex_icmp_eq 40 dX10_loop_28 (by decide) (fun h28 => ?_) (fun h28 => ?_)
    · refine ex_iconst (v := 0) dX10_loop_40 (by decide) ?_
      refine is3 dX10_loop_41 ?_
      refine al0 dX10_loop_42 (by first | nofun | exact xrv_ne _) ?_
      refine rf_68 hX rfl dX10_loop_43 ?_
      refine il1 dX10_loop_46 ?_
      refine qb_20 hX dX10_loop_47 (hI.begin.1.in14 (sMeta_2 h10)) ?_
      refine is4 dX10_loop_48 ?_
      unfold sLoopT
      rw [if_neg (fun q => q h10), if_neg (fun q => q h28), lk_eq]
      exact q_loop_lp hX hf 40 0 _ _ _ hI.begin (Or.inl (begin_P S)) (hI.begin.1.a20 (vi_lt41 (hI.begin.1.in14 (sMeta_2 h10)))) h28 (by decide) _ _ _
    · refine al0 dX10_loop_31 (by first | nofun | exact xrv_ne _) ?_
      refine ex_bipush (v := 13) dX10_loop_32 (by decide) ?_
      refine il1 dX10_loop_34 ?_
      refine il2 dX10_loop_35 ?_
      refine cd10_174 (f' := f - 1) rfl dX10_loop_36 (Nat.le_of_ble_eq_true rfl) (fx17 hX) (by omega) (q_fails hX hI.begin.1) ?_
      refine ex_iret dX10_loop_39 rfl ?_
      refine ⟨xdu (xdu (xdu S 0 31 0) 0 32 0) 0 39 0, ?_, rfl, ?_, rfl⟩
      · unfold sLoopT; rw [if_neg (fun q => q h10), if_pos h28]
      · unfold sLoopT; rw [if_neg (fun q => q h10), if_pos h28]
  · refine al0 dX10_loop_13 (by first | nofun | exact xrv_ne _) ?_
    refine ex_bipush (v := 6) dX10_loop_14 (by decide) ?_
    refine il1 dX10_loop_16 ?_
    refine ex_iconst (v := 0) dX10_loop_17 (by decide) ?_
    refine cd10_174 (f' := f - 1) rfl dX10_loop_18 (Nat.le_of_ble_eq_true rfl) (fx17 hX) (by omega) (q_fails hX hI.begin.1) ?_
    refine ex_iret dX10_loop_21 rfl ?_
    refine ⟨xdu (xdu (xdu S 0 31 0) 0 32 0) 0 39 0, ?_, rfl, ?_, rfl⟩
    · unfold sLoopT; rw [if_pos h10]
    · unfold sLoopT; rw [if_pos h10]
