set_option maxRecDepth 20000 in
set_option maxHeartbeats 1000000 in
theorem q_lift_lp {Γ : xGm} {l : Launch} {f : Nat} {G : xG} {D S : xD} {R : xR} (hX : xFix G R) (hf : 1 ≤ f) {o : Nat} (h2 : o < 41) {tt : Option Value} : ∀ (n m : Nat) (E : xD) (hI : Iv E) (hl : lOk E (nI o) n) (hm : n ≤ m), Ex Γ l f MX10_take 136 [some (.ref 17), tt, some (.int (nI o))] [] G (mg D (ms S E)) R 0 0 (xdet none G (mg D (ms S (xdu (sLift E (nI o) m) 11 (ix (nI o)) 0))) R) := by
  intro n
  induction n with
  | zero =>
    intro m E hI hl hm
    have hl : E 20 (ix (nI o)) = 0 := hl
    refine al0 dX10_take_136 (by first | nofun | exact xrv_ne _) ?_
    refine rf_68 hX rfl dX10_take_137 ?_
    refine il2 dX10_take_140 ?_
    refine qb_20 hX dX10_take_141 (vi_of h2 (by decide)) ?_
    refine ex_if_eq 158 dX10_take_142 (by decide) (fun h142 => ?_) (fun h142 => ?_)
    · refine al0 dX10_take_158 (by first | nofun | exact xrv_ne _) ?_
      refine rf_41 hX rfl dX10_take_159 ?_
      refine il2 dX10_take_162 ?_
      refine ex_iconst (v := 0) dX10_take_163 (by decide) ?_
      refine qt_11 hX dX10_take_164 (vi_of h2 (by decide)) (Or.inl rfl) ?_
      refine ex_vret dX10_take_165 rfl ?_
      refine ⟨rfl, rfl, ?_, rfl⟩
      cases m with
      | zero => rfl
      | succ m => rw [sLift, if_pos hl]
    · exact absurd hl h142
  | succ n ih =>
    intro m E hI hl hm
    obtain ⟨m, rfl⟩ : ∃ z, m = z + 1 := ⟨m - 1, by omega⟩
    refine al0 dX10_take_136 (by first | nofun | exact xrv_ne _) ?_
    refine rf_68 hX rfl dX10_take_137 ?_
    refine il2 dX10_take_140 ?_
    refine qb_20 hX dX10_take_141 (vi_of h2 (by decide)) ?_
    refine ex_if_eq 158 dX10_take_142 (by decide) (fun h142 => ?_) (fun h142 => ?_)
    · refine al0 dX10_take_158 (by first | nofun | exact xrv_ne _) ?_
      refine rf_41 hX rfl dX10_take_159 ?_
      refine il2 dX10_take_162 ?_
      refine ex_iconst (v := 0) dX10_take_163 (by decide) ?_
      refine qt_11 hX dX10_take_164 (vi_of h2 (by decide)) (Or.inl rfl) ?_
      refine ex_vret dX10_take_165 rfl ?_
      refine ⟨rfl, rfl, ?_, rfl⟩
      rw [sLift, if_pos h142]
    · refine al0 dX10_take_145 (by first | nofun | exact xrv_ne _) ?_
      refine al0 dX10_take_146 (by first | nofun | exact xrv_ne _) ?_
      refine rf_68 hX rfl dX10_take_147 ?_
      refine il2 dX10_take_150 ?_
      refine qb_20 hX dX10_take_151 (vi_of h2 (by decide)) ?_
      refine cd10_177 (f' := f - 1) rfl dX10_take_152 (Nat.le_of_ble_eq_true rfl) (fx17 hX) (by omega) (q_leave hX hI (hI.1.a20 (by rw [ix_nI (by omega)]; exact h2)) h142) ?_
      refine ex_goto 136 dX10_take_155 (by decide) ?_
      rw [sLift, if_neg h142]
      have hl2 := hl.resolve_left h142
      have e := vi_n (hI.1.a20 (show ix (nI o) < 41 by rw [ix_nI (by omega)]; exact h2)) (by decide)
      have e0 : ix (E 20 (ix (nI o))) ≠ 0 := fun z => h142 (by rw [e.1, z]; rfl)
      have hI2 : Iv (sLeave E (E 20 (ix (nI o)))) := by rw [e.1]; exact hI.leave (by omega) e.2
      exact ih m _ hI2 hl2 (by omega)
set_option maxRecDepth 20000 in
set_option maxHeartbeats 1000000 in
theorem q_take_run {Γ : xGm} {l : Launch} {f : Nat} {G : xG} {D S E : xD} {R : xR} (hX : xFix G R) {t : Nat} (ht : t < 40) (h31 : S 0 31 = nI (t + 1)) (hs : S 24 t = 0) : Cn Γ l f MX10_take [.ref 17] G (mg D (ms S E)) R 0 0 (xdet none G (mg D (ms (xdu (xdu S 29 t (S 0 40)) 0 39 0) E)) R) := by
  refine cn_of MX10_take_ok (Nat.le_of_ble_eq_true rfl) ?_
  show Ex Γ l f MX10_take 0 [some (.ref 17), none, none] [] G (mg D (ms S E)) R 0 0 _
  refine al0 dX10_take_0 (by first | nofun | exact xrv_ne _) ?_
  refine qf_186 hX rfl dX10_take_1 ?_
  refine ex_iconst (v := 1) dX10_take_4 (by decide) ?_
  refine ex_isub dX10_take_5 ?_
  rw [h31, nI_pred]
  refine is1 dX10_take_6 ?_
  refine al0 dX10_take_7 (by first | nofun | exact xrv_ne _) ?_
  refine rf_89 hX rfl dX10_take_8 ?_
  refine il1 dX10_take_11 ?_
  refine qb_27 hX dX10_take_12 (vi_of ht (by decide)) ?_
  rw [ix_nI (show t < 2 ^ 31 by omega)]
  refine is2 dX10_take_13 ?_
  refine al0 dX10_take_14 (by first | nofun | exact xrv_ne _) ?_
  refine rf_80 hX rfl dX10_take_15 ?_
  refine il1 dX10_take_18 ?_
  refine qb_24 hX dX10_take_19 (vi_of ht (by decide)) ?_
  rw [ix_nI (show t < 2 ^ 31 by omega)]
  refine ex_if_ne 39 dX10_take_20 (by decide) (fun h20 => ?_) (fun h20 => ?_)
  · exact absurd hs h20
  · refine al0 dX10_take_23 (by first | nofun | exact xrv_ne _) ?_
    refine rf_95 hX rfl dX10_take_24 ?_
    refine il1 dX10_take_27 ?_
    refine al0 dX10_take_28 (by first | nofun | exact xrv_ne _) ?_
    refine qf_183 hX rfl dX10_take_29 ?_
    refine qt_29 hX dX10_take_32 (vi_of ht (by decide)) ?_
    refine al0 dX10_take_33 (by first | nofun | exact xrv_ne _) ?_
    refine ex_iconst (v := 0) dX10_take_34 (by decide) ?_
    refine qp_180 hX rfl dX10_take_35 (by decide) ?_
    refine ex_vret dX10_take_38 rfl ?_
    refine ⟨rfl, rfl, ?_, rfl⟩
    simp [ix_nI (show t < 2 ^ 31 by omega), xdu_ne]
set_option maxRecDepth 20000 in
set_option maxHeartbeats 1000000 in
theorem q_take_made {Γ : xGm} {l : Launch} {f : Nat} {G : xG} {D S E : xD} {R : xR} (hX : xFix G R) {t : Nat} (ht : t < 40) (h31 : S 0 31 = nI (t + 1)) (hs : S 24 t = 1) : Cn Γ l f MX10_take [.ref 17] G (mg D (ms S E)) R 0 0 (xdet none G (mg D (ms (xdu (xdu S 0 31 (nI t)) 0 40 (S 27 t)) E)) R) := by
  refine cn_of MX10_take_ok (Nat.le_of_ble_eq_true rfl) ?_
  show Ex Γ l f MX10_take 0 [some (.ref 17), none, none] [] G (mg D (ms S E)) R 0 0 _
  refine al0 dX10_take_0 (by first | nofun | exact xrv_ne _) ?_
  refine qf_186 hX rfl dX10_take_1 ?_
  refine ex_iconst (v := 1) dX10_take_4 (by decide) ?_
  refine ex_isub dX10_take_5 ?_
  rw [h31, nI_pred]
  refine is1 dX10_take_6 ?_
  refine al0 dX10_take_7 (by first | nofun | exact xrv_ne _) ?_
  refine rf_89 hX rfl dX10_take_8 ?_
  refine il1 dX10_take_11 ?_
  refine qb_27 hX dX10_take_12 (vi_of ht (by decide)) ?_
  rw [ix_nI (show t < 2 ^ 31 by omega)]
  refine is2 dX10_take_13 ?_
  refine al0 dX10_take_14 (by first | nofun | exact xrv_ne _) ?_
  refine rf_80 hX rfl dX10_take_15 ?_
  refine il1 dX10_take_18 ?_
  refine qb_24 hX dX10_take_19 (vi_of ht (by decide)) ?_
  rw [ix_nI (show t < 2 ^ 31 by omega)]
  refine ex_if_ne 39 dX10_take_20 (by decide) (fun h20 => ?_) (fun h20 => ?_)
  · refine al0 dX10_take_39 (by first | nofun | exact xrv_ne _) ?_
    refine rf_80 hX rfl dX10_take_40 ?_
    refine il1 dX10_take_43 ?_
    refine qb_24 hX dX10_take_44 (vi_of ht (by decide)) ?_
    rw [ix_nI (show t < 2 ^ 31 by omega)]
    refine ex_iconst (v := 3) dX10_take_45 (by decide) ?_
    refine ex_icmp_ne 83 dX10_take_46 (by decide) (fun h46 => ?_) (fun h46 => ?_)
    · refine al0 dX10_take_83 (by first | nofun | exact xrv_ne _) ?_
      refine ex_dup dX10_take_84 ?_
      refine qf_186 hX rfl dX10_take_85 ?_
      refine ex_iconst (v := 1) dX10_take_88 (by decide) ?_
      refine ex_isub dX10_take_89 ?_
      rw [h31, nI_pred]
      refine qp_186 hX rfl dX10_take_90 ?_
      refine al0 dX10_take_93 (by first | nofun | exact xrv_ne _) ?_
      refine al0 dX10_take_94 (by first | nofun | exact xrv_ne _) ?_
      refine rf_80 hX rfl dX10_take_95 ?_
      refine il1 dX10_take_98 ?_
      refine qb_24 hX dX10_take_99 (vi_of ht (by decide)) ?_
      rw [ix_nI (show t < 2 ^ 31 by omega)]
      rw [xdu_ne _ _ _ (by decide), hs]
      refine ex_iconst (v := 1) dX10_take_100 (by decide) ?_
      refine ex_icmp_ne 108 dX10_take_101 (by decide) (fun h101 => ?_) (fun h101 => ?_)
      · exact absurd rfl h101
      · refine il2 dX10_take_104 ?_
        refine ex_goto 109 dX10_take_105 (by decide) ?_
        refine qp_183 hX rfl dX10_take_109 ?_
        refine al0 dX10_take_112 (by first | nofun | exact xrv_ne _) ?_
        refine rf_80 hX rfl dX10_take_113 ?_
        refine il1 dX10_take_116 ?_
        refine qb_24 hX dX10_take_117 (vi_of ht (by decide)) ?_
        rw [ix_nI (show t < 2 ^ 31 by omega)]
        simp only [xdu_ne _ _ _ (show (24 : Nat) ≠ 0 by decide)]
        rw [hs]
        refine ex_iconst (v := 2) dX10_take_118 (by decide) ?_
        refine ex_icmp_ne 165 dX10_take_119 (by decide) (fun h119 => ?_) (fun h119 => ?_)
        · refine ex_vret dX10_take_165 rfl ?_
          refine ⟨rfl, rfl, ?_, rfl⟩
          rfl
        · exact absurd h119 (by decide)
    · rw [hs] at h46; exact absurd h46 (by decide)
  · rw [hs] at h20; exact absurd h20 (by decide)
set_option maxRecDepth 20000 in
set_option maxHeartbeats 1000000 in
theorem q_take_am {Γ : xGm} {l : Launch} {f : Nat} {G : xG} {D S E : xD} {R : xR} (hX : xFix G R) {t : Nat} (ht : t < 40) (h31 : S 0 31 = nI (t + 1)) (hs : S 24 t = 4) : Cn Γ l f MX10_take [.ref 17] G (mg D (ms S E)) R 0 0 (xdet none G (mg D (ms (xdu (xdu S 0 31 (nI t)) 0 40 1) E)) R) := by
  refine cn_of MX10_take_ok (Nat.le_of_ble_eq_true rfl) ?_
  show Ex Γ l f MX10_take 0 [some (.ref 17), none, none] [] G (mg D (ms S E)) R 0 0 _
  refine al0 dX10_take_0 (by first | nofun | exact xrv_ne _) ?_
  refine qf_186 hX rfl dX10_take_1 ?_
  refine ex_iconst (v := 1) dX10_take_4 (by decide) ?_
  refine ex_isub dX10_take_5 ?_
  rw [h31, nI_pred]
  refine is1 dX10_take_6 ?_
  refine al0 dX10_take_7 (by first | nofun | exact xrv_ne _) ?_
  refine rf_89 hX rfl dX10_take_8 ?_
  refine il1 dX10_take_11 ?_
  refine qb_27 hX dX10_take_12 (vi_of ht (by decide)) ?_
  rw [ix_nI (show t < 2 ^ 31 by omega)]
  refine is2 dX10_take_13 ?_
  refine al0 dX10_take_14 (by first | nofun | exact xrv_ne _) ?_
  refine rf_80 hX rfl dX10_take_15 ?_
  refine il1 dX10_take_18 ?_
  refine qb_24 hX dX10_take_19 (vi_of ht (by decide)) ?_
  rw [ix_nI (show t < 2 ^ 31 by omega)]
  refine ex_if_ne 39 dX10_take_20 (by decide) (fun h20 => ?_) (fun h20 => ?_)
  · refine al0 dX10_take_39 (by first | nofun | exact xrv_ne _) ?_
    refine rf_80 hX rfl dX10_take_40 ?_
    refine il1 dX10_take_43 ?_
    refine qb_24 hX dX10_take_44 (vi_of ht (by decide)) ?_
    rw [ix_nI (show t < 2 ^ 31 by omega)]
    refine ex_iconst (v := 3) dX10_take_45 (by decide) ?_
    refine ex_icmp_ne 83 dX10_take_46 (by decide) (fun h46 => ?_) (fun h46 => ?_)
    · refine al0 dX10_take_83 (by first | nofun | exact xrv_ne _) ?_
      refine ex_dup dX10_take_84 ?_
      refine qf_186 hX rfl dX10_take_85 ?_
      refine ex_iconst (v := 1) dX10_take_88 (by decide) ?_
      refine ex_isub dX10_take_89 ?_
      rw [h31, nI_pred]
      refine qp_186 hX rfl dX10_take_90 ?_
      refine al0 dX10_take_93 (by first | nofun | exact xrv_ne _) ?_
      refine al0 dX10_take_94 (by first | nofun | exact xrv_ne _) ?_
      refine rf_80 hX rfl dX10_take_95 ?_
      refine il1 dX10_take_98 ?_
      refine qb_24 hX dX10_take_99 (vi_of ht (by decide)) ?_
      rw [ix_nI (show t < 2 ^ 31 by omega)]
      rw [xdu_ne _ _ _ (by decide), hs]
      refine ex_iconst (v := 1) dX10_take_100 (by decide) ?_
      refine ex_icmp_ne 108 dX10_take_101 (by decide) (fun h101 => ?_) (fun h101 => ?_)
      · refine ex_iconst (v := 1) dX10_take_108 (by decide) ?_
        refine qp_183 hX rfl dX10_take_109 ?_
        refine al0 dX10_take_112 (by first | nofun | exact xrv_ne _) ?_
        refine rf_80 hX rfl dX10_take_113 ?_
        refine il1 dX10_take_116 ?_
        refine qb_24 hX dX10_take_117 (vi_of ht (by decide)) ?_
        rw [ix_nI (show t < 2 ^ 31 by omega)]
        simp only [xdu_ne _ _ _ (show (24 : Nat) ≠ 0 by decide)]
        rw [hs]
        refine ex_iconst (v := 2) dX10_take_118 (by decide) ?_
        refine ex_icmp_ne 165 dX10_take_119 (by decide) (fun h119 => ?_) (fun h119 => ?_)
        · refine ex_vret dX10_take_165 rfl ?_
          refine ⟨rfl, rfl, ?_, rfl⟩
          rfl
        · exact absurd h119 (by decide)
      · exact absurd h101 (by decide)
    · rw [hs] at h46; exact absurd h46 (by decide)
  · rw [hs] at h20; exact absurd h20 (by decide)
set_option maxRecDepth 20000 in
set_option maxHeartbeats 1000000 in
theorem q_take_again {Γ : xGm} {l : Launch} {f : Nat} {G : xG} {D S E : xD} {R : xR} (hX : xFix G R) (hf : 5 ≤ f) (hI : Iv E) {t : Nat} (ht : t < 40) (h31 : S 0 31 = nI (t + 1)) (hs : S 24 t = 3) (ht31 : vp_in (S 0 31) 40) {o : Nat} (o1 : 1 ≤ o) (o2 : o < 41) (ho : S 27 t = nI o) (h10 : E 10 o = 0) : Cn Γ l f MX10_take [.ref 17] G (mg D (ms S E)) R 0 0 (xdet none G (mg D (if ¬ E 11 o = 0 then ms (mIfThere (xdu (xdu S 24 t 4) 0 39 0) (sRows E (nI o)) (nI o) 1 0).1 (mIfThere (xdu (xdu S 24 t 4) 0 39 0) (sRows E (nI o)) (nI o) 1 0).2 else ms (xdu (xdu S 0 31 (nI t)) 0 40 1) E)) R) := by
  refine cn_of MX10_take_ok (Nat.le_of_ble_eq_true rfl) ?_
  show Ex Γ l f MX10_take 0 [some (.ref 17), none, none] [] G (mg D (ms S E)) R 0 0 _
  refine al0 dX10_take_0 (by first | nofun | exact xrv_ne _) ?_
  refine qf_186 hX rfl dX10_take_1 ?_
  refine ex_iconst (v := 1) dX10_take_4 (by decide) ?_
  refine ex_isub dX10_take_5 ?_
  rw [h31, nI_pred]
  refine is1 dX10_take_6 ?_
  refine al0 dX10_take_7 (by first | nofun | exact xrv_ne _) ?_
  refine rf_89 hX rfl dX10_take_8 ?_
  refine il1 dX10_take_11 ?_
  refine qb_27 hX dX10_take_12 (vi_of ht (by decide)) ?_
  rw [ix_nI (show t < 2 ^ 31 by omega)]
  rw [ho]
  refine is2 dX10_take_13 ?_
  refine al0 dX10_take_14 (by first | nofun | exact xrv_ne _) ?_
  refine rf_80 hX rfl dX10_take_15 ?_
  refine il1 dX10_take_18 ?_
  refine qb_24 hX dX10_take_19 (vi_of ht (by decide)) ?_
  rw [ix_nI (show t < 2 ^ 31 by omega)]
  refine ex_if_ne 39 dX10_take_20 (by decide) (fun h20 => ?_) (fun h20 => ?_)
  · refine al0 dX10_take_39 (by first | nofun | exact xrv_ne _) ?_
    refine rf_80 hX rfl dX10_take_40 ?_
    refine il1 dX10_take_43 ?_
    refine qb_24 hX dX10_take_44 (vi_of ht (by decide)) ?_
    rw [ix_nI (show t < 2 ^ 31 by omega)]
    refine ex_iconst (v := 3) dX10_take_45 (by decide) ?_
    refine ex_icmp_ne 83 dX10_take_46 (by decide) (fun h46 => ?_) (fun h46 => ?_)
    · exact absurd hs h46
    · refine al0 dX10_take_49 (by first | nofun | exact xrv_ne _) ?_
      refine rf_41 hX rfl dX10_take_50 ?_
      refine il2 dX10_take_53 ?_
      refine qb_11 hX dX10_take_54 (vi_of o2 (by decide)) ?_
      refine ex_if_eq 83 dX10_take_55 (by decide) (fun h55 => ?_) (fun h55 => ?_)
      · refine al0 dX10_take_83 (by first | nofun | exact xrv_ne _) ?_
        refine ex_dup dX10_take_84 ?_
        refine qf_186 hX rfl dX10_take_85 ?_
        refine ex_iconst (v := 1) dX10_take_88 (by decide) ?_
        refine ex_isub dX10_take_89 ?_
        rw [h31, nI_pred]
        refine qp_186 hX rfl dX10_take_90 ?_
        refine al0 dX10_take_93 (by first | nofun | exact xrv_ne _) ?_
        refine al0 dX10_take_94 (by first | nofun | exact xrv_ne _) ?_
        refine rf_80 hX rfl dX10_take_95 ?_
        refine il1 dX10_take_98 ?_
        refine qb_24 hX dX10_take_99 (vi_of ht (by decide)) ?_
        rw [ix_nI (show t < 2 ^ 31 by omega)]
        rw [xdu_ne _ _ _ (by decide), hs]
        refine ex_iconst (v := 1) dX10_take_100 (by decide) ?_
        refine ex_icmp_ne 108 dX10_take_101 (by decide) (fun h101 => ?_) (fun h101 => ?_)
        · refine ex_iconst (v := 1) dX10_take_108 (by decide) ?_
          refine qp_183 hX rfl dX10_take_109 ?_
          refine al0 dX10_take_112 (by first | nofun | exact xrv_ne _) ?_
          refine rf_80 hX rfl dX10_take_113 ?_
          refine il1 dX10_take_116 ?_
          refine qb_24 hX dX10_take_117 (vi_of ht (by decide)) ?_
          rw [ix_nI (show t < 2 ^ 31 by omega)]
          simp only [xdu_ne _ _ _ (show (24 : Nat) ≠ 0 by decide)]
          rw [hs]
          refine ex_iconst (v := 2) dX10_take_118 (by decide) ?_
          refine ex_icmp_ne 165 dX10_take_119 (by decide) (fun h119 => ?_) (fun h119 => ?_)
          · refine ex_vret dX10_take_165 rfl ?_
            refine ⟨rfl, rfl, ?_, rfl⟩
            rw [ix_nI (show o < 2 ^ 31 by omega)] at h55
            first | rw [if_pos h55] | rw [if_neg (fun q => q h55)]
          · exact absurd h119 (by decide)
        · exact absurd h101 (by decide)
      · refine al0 dX10_take_58 (by first | nofun | exact xrv_ne _) ?_
        refine il2 dX10_take_59 ?_
        refine cd10_137 (f' := f - 1) rfl dX10_take_60 (Nat.le_of_ble_eq_true rfl) (fx17 hX) (by omega) (q_rowsAnew hX o2 hI.2.1 h10) ?_
        refine al0 dX10_take_63 (by first | nofun | exact xrv_ne _) ?_
        refine rf_80 hX rfl dX10_take_64 ?_
        refine il1 dX10_take_67 ?_
        refine ex_iconst (v := 4) dX10_take_68 (by decide) ?_
        refine qt_24 hX dX10_take_69 (vi_of ht (by decide)) ?_
        rw [ix_nI (show t < 2 ^ 31 by omega)]
        refine al0 dX10_take_70 (by first | nofun | exact xrv_ne _) ?_
        refine ex_iconst (v := 0) dX10_take_71 (by decide) ?_
        refine qp_180 hX rfl dX10_take_72 (by decide) ?_
        refine al0 dX10_take_75 (by first | nofun | exact xrv_ne _) ?_
        refine il2 dX10_take_76 ?_
        refine ex_iconst (v := 1) dX10_take_77 (by decide) ?_
        refine ex_iconst (v := 0) dX10_take_78 (by decide) ?_
        refine cd10_205 (f' := f - 1) rfl dX10_take_79 (Nat.le_of_ble_eq_true rfl) (fx17 hX) (by omega) (q_sendIfThere hX (by omega) (hI.rows o2).1 (by rw [xdu_self, upd_ne _ _ (by decide), xdu_ne _ _ _ (by decide)]; exact ht31) (vi_of o2 (by decide))) ?_
        refine ex_vret dX10_take_82 rfl ?_
        refine ⟨rfl, rfl, ?_, rfl⟩
        rw [ix_nI (show o < 2 ^ 31 by omega)] at h55
        first | rw [if_pos h55] | rw [if_neg (fun q => q h55)]
  · rw [hs] at h20; exact absurd h20 (by decide)
set_option maxRecDepth 20000 in
set_option maxHeartbeats 1000000 in
theorem q_take_goes {Γ : xGm} {l : Launch} {f : Nat} {G : xG} {D S E : xD} {R : xR} (hX : xFix G R) (hf : 1 ≤ f) (hI : Iv E) {t : Nat} (ht : t < 40) (h31 : S 0 31 = nI (t + 1)) (hs : S 24 t = 2) {o : Nat} (o1 : 1 ≤ o) (o2 : o < 41) (ho : S 27 t = nI o) : Cn Γ l f MX10_take [.ref 17] G (mg D (ms S E)) R 0 0 (xdet none G (mg D (ms (xdu (xdu S 0 31 (nI t)) 0 40 1) (if ¬ E 11 o = 0 then sGone E (nI o) else E))) R) := by
  refine cn_of MX10_take_ok (Nat.le_of_ble_eq_true rfl) ?_
  show Ex Γ l f MX10_take 0 [some (.ref 17), none, none] [] G (mg D (ms S E)) R 0 0 _
  refine al0 dX10_take_0 (by first | nofun | exact xrv_ne _) ?_
  refine qf_186 hX rfl dX10_take_1 ?_
  refine ex_iconst (v := 1) dX10_take_4 (by decide) ?_
  refine ex_isub dX10_take_5 ?_
  rw [h31, nI_pred]
  refine is1 dX10_take_6 ?_
  refine al0 dX10_take_7 (by first | nofun | exact xrv_ne _) ?_
  refine rf_89 hX rfl dX10_take_8 ?_
  refine il1 dX10_take_11 ?_
  refine qb_27 hX dX10_take_12 (vi_of ht (by decide)) ?_
  rw [ix_nI (show t < 2 ^ 31 by omega)]
  rw [ho]
  refine is2 dX10_take_13 ?_
  refine al0 dX10_take_14 (by first | nofun | exact xrv_ne _) ?_
  refine rf_80 hX rfl dX10_take_15 ?_
  refine il1 dX10_take_18 ?_
  refine qb_24 hX dX10_take_19 (vi_of ht (by decide)) ?_
  rw [ix_nI (show t < 2 ^ 31 by omega)]
  refine ex_if_ne 39 dX10_take_20 (by decide) (fun h20 => ?_) (fun h20 => ?_)
  · refine al0 dX10_take_39 (by first | nofun | exact xrv_ne _) ?_
    refine rf_80 hX rfl dX10_take_40 ?_
    refine il1 dX10_take_43 ?_
    refine qb_24 hX dX10_take_44 (vi_of ht (by decide)) ?_
    rw [ix_nI (show t < 2 ^ 31 by omega)]
    refine ex_iconst (v := 3) dX10_take_45 (by decide) ?_
    refine ex_icmp_ne 83 dX10_take_46 (by decide) (fun h46 => ?_) (fun h46 => ?_)
    · refine al0 dX10_take_83 (by first | nofun | exact xrv_ne _) ?_
      refine ex_dup dX10_take_84 ?_
      refine qf_186 hX rfl dX10_take_85 ?_
      refine ex_iconst (v := 1) dX10_take_88 (by decide) ?_
      refine ex_isub dX10_take_89 ?_
      rw [h31, nI_pred]
      refine qp_186 hX rfl dX10_take_90 ?_
      refine al0 dX10_take_93 (by first | nofun | exact xrv_ne _) ?_
      refine al0 dX10_take_94 (by first | nofun | exact xrv_ne _) ?_
      refine rf_80 hX rfl dX10_take_95 ?_
      refine il1 dX10_take_98 ?_
      refine qb_24 hX dX10_take_99 (vi_of ht (by decide)) ?_
      rw [ix_nI (show t < 2 ^ 31 by omega)]
      rw [xdu_ne _ _ _ (by decide), hs]
      refine ex_iconst (v := 1) dX10_take_100 (by decide) ?_
      refine ex_icmp_ne 108 dX10_take_101 (by decide) (fun h101 => ?_) (fun h101 => ?_)
      · refine ex_iconst (v := 1) dX10_take_108 (by decide) ?_
        refine qp_183 hX rfl dX10_take_109 ?_
        refine al0 dX10_take_112 (by first | nofun | exact xrv_ne _) ?_
        refine rf_80 hX rfl dX10_take_113 ?_
        refine il1 dX10_take_116 ?_
        refine qb_24 hX dX10_take_117 (vi_of ht (by decide)) ?_
        rw [ix_nI (show t < 2 ^ 31 by omega)]
        simp only [xdu_ne _ _ _ (show (24 : Nat) ≠ 0 by decide)]
        rw [hs]
        refine ex_iconst (v := 2) dX10_take_118 (by decide) ?_
        refine ex_icmp_ne 165 dX10_take_119 (by decide) (fun h119 => ?_) (fun h119 => ?_)
        · exact absurd rfl h119
        · refine al0 dX10_take_122 (by first | nofun | exact xrv_ne _) ?_
          refine rf_41 hX rfl dX10_take_123 ?_
          refine il2 dX10_take_126 ?_
          refine qb_11 hX dX10_take_127 (vi_of o2 (by decide)) ?_
          refine ex_if_eq 165 dX10_take_128 (by decide) (fun h128 => ?_) (fun h128 => ?_)
          · refine ex_vret dX10_take_165 rfl ?_
            refine ⟨rfl, rfl, ?_, rfl⟩
            rw [ix_nI (show o < 2 ^ 31 by omega)] at h128
            rw [if_neg (fun q => q h128)]
          · refine al0 dX10_take_131 (by first | nofun | exact xrv_ne _) ?_
            refine il2 dX10_take_132 ?_
            refine cd10_177 (f' := f - 1) rfl dX10_take_133 (Nat.le_of_ble_eq_true rfl) (fx17 hX) (by omega) (q_leave hX hI (vi_of o2 (by decide)) (fun q => by have := congrArg ix q; rw [ix_nI (by omega)] at this; exact absurd this (by show o ≠ 0; omega))) ?_
            rw [ix_nI (show o < 2 ^ 31 by omega)] at h128
            rw [if_pos h128]
            have h := q_lift_lp (Γ := Γ) (l := l) (f := f) (D := D) (S := xdu (xdu S 0 31 (nI t)) 0 40 1) (tt := some (.int (nI t))) hX (by omega) o2 40 40 (sLeave E (nI o)) (hI.leave o1 o2) ((hI.leave o1 o2).lOk o1 o2) (Nat.le_refl _)
            unfold sGone
            rw [lk_eq]
            exact h
      · exact absurd h101 (by decide)
    · rw [hs] at h46; exact absurd h46 (by decide)
  · rw [hs] at h20; exact absurd h20 (by decide)
