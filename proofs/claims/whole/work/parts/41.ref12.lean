/-- the reference's loop over its pile, from its head -/
def Gx (Γ : xGm) (l : Launch) (f : Nat) (G : xG) (D : xD) (R : xR) (Q : Option Value → xG → xD → xR → Prop) (S E : xD) : Prop := Ex Γ l f MX10_goes 0 [some (.ref 17)] [] G (mg D (ms S E)) R 0 0 Q
set_option maxRecDepth 20000 in
set_option maxHeartbeats 1000000 in
theorem g_step {Γ : xGm} {l : Launch} {f : Nat} {G : xG} {D S E : xD} {R : xR} {Q : Option Value → xG → xD → xR → Prop} (hX : xFix G R) (hf : 9 ≤ f) (hI : Iv E) (h39 : S 0 39 = 0) {t : Nat} (ht : t < 40) (h31 : S 0 31 = nI (t + 1)) (ht31 : vp_in (S 0 31) 40) (ht32 : vp_in (S 0 31 + 1) 40) (hr : vp_in (S 25 t) 20) (hk : ¬ S 26 t = E 4 (ix (S 25 t)) → vp_in (S 26 t) 8) (kk : Gx Γ l f G D R Q (mStep S E t).1 (mStep S E t).2) : Gx Γ l f G D R Q S E := by
  show Ex Γ l f MX10_goes 0 [some (.ref 17)] [] G (mg D (ms S E)) R 0 0 Q
  refine al0 dX10_goes_0 (by first | nofun | exact xrv_ne _) ?_
  refine qf_180 hX rfl dX10_goes_1 ?_
  refine ex_if_eq 14 dX10_goes_4 (by decide) (fun h4 => ?_) (fun h4 => ?_)
  · refine al0 dX10_goes_14 (by first | nofun | exact xrv_ne _) ?_
    refine qf_180 hX rfl dX10_goes_15 ?_
    refine ex_if_eq 28 dX10_goes_18 (by decide) (fun h18 => ?_) (fun h18 => ?_)
    · refine al0 dX10_goes_28 (by first | nofun | exact xrv_ne _) ?_
      refine cd10_255 (f' := f - 1) rfl dX10_goes_29 (Nat.le_of_ble_eq_true rfl) (fx17 hX) (by omega) (q_step hX (by omega) hI ht h31 ht31 ht32 hr hk) ?_
      refine ex_goto 0 dX10_goes_32 (by decide) ?_
      exact kk
    · exact absurd h39 h18
  · exact absurd h39 h4
set_option maxRecDepth 20000 in
set_option maxHeartbeats 1000000 in
theorem g_run {Γ : xGm} {l : Launch} {f : Nat} {G : xG} {D S E : xD} {R : xR} {Q : Option Value → xG → xD → xR → Prop} (hX : xFix G R) (hf : 9 ≤ f) (h39 : S 0 39 = 1) {t : Nat} (ht : t < 40) (h31 : S 0 31 = nI (t + 1)) (hs : S 24 t = 0) (kk : Gx Γ l f G D R Q (xdu (xdu S 29 t (S 0 40)) 0 39 0) E) : Gx Γ l f G D R Q S E := by
  show Ex Γ l f MX10_goes 0 [some (.ref 17)] [] G (mg D (ms S E)) R 0 0 Q
  refine al0 dX10_goes_0 (by first | nofun | exact xrv_ne _) ?_
  refine qf_180 hX rfl dX10_goes_1 ?_
  refine ex_if_eq 14 dX10_goes_4 (by decide) (fun h4 => ?_) (fun h4 => ?_)
  · rw [h39] at h4; exact absurd h4 (by decide)
  · refine al0 dX10_goes_7 (by first | nofun | exact xrv_ne _) ?_
    refine qf_186 hX rfl dX10_goes_8 ?_
    refine ex_if_le 35 dX10_goes_11 (by decide) (fun h11 => ?_) (fun h11 => ?_)
    · exact absurd h11 (by rw [h31]; exact nI_ge (a := 0) (by omega) (by omega))
    · refine al0 dX10_goes_14 (by first | nofun | exact xrv_ne _) ?_
      refine qf_180 hX rfl dX10_goes_15 ?_
      refine ex_if_eq 28 dX10_goes_18 (by decide) (fun h18 => ?_) (fun h18 => ?_)
      · rw [h39] at h18; exact absurd h18 (by decide)
      · refine al0 dX10_goes_21 (by first | nofun | exact xrv_ne _) ?_
        refine cd10_252 (f' := f - 1) rfl dX10_goes_22 (Nat.le_of_ble_eq_true rfl) (fx17 hX) (by omega) (q_take_run hX ht h31 hs) ?_
        refine ex_goto 0 dX10_goes_25 (by decide) ?_
        exact kk
set_option maxRecDepth 20000 in
set_option maxHeartbeats 1000000 in
theorem g_made {Γ : xGm} {l : Launch} {f : Nat} {G : xG} {D S E : xD} {R : xR} {Q : Option Value → xG → xD → xR → Prop} (hX : xFix G R) (hf : 9 ≤ f) (h39 : S 0 39 = 1) {t : Nat} (ht : t < 40) (h31 : S 0 31 = nI (t + 1)) (hs : S 24 t = 1) (kk : Gx Γ l f G D R Q (xdu (xdu S 0 31 (nI t)) 0 40 (S 27 t)) E) : Gx Γ l f G D R Q S E := by
  show Ex Γ l f MX10_goes 0 [some (.ref 17)] [] G (mg D (ms S E)) R 0 0 Q
  refine al0 dX10_goes_0 (by first | nofun | exact xrv_ne _) ?_
  refine qf_180 hX rfl dX10_goes_1 ?_
  refine ex_if_eq 14 dX10_goes_4 (by decide) (fun h4 => ?_) (fun h4 => ?_)
  · rw [h39] at h4; exact absurd h4 (by decide)
  · refine al0 dX10_goes_7 (by first | nofun | exact xrv_ne _) ?_
    refine qf_186 hX rfl dX10_goes_8 ?_
    refine ex_if_le 35 dX10_goes_11 (by decide) (fun h11 => ?_) (fun h11 => ?_)
    · exact absurd h11 (by rw [h31]; exact nI_ge (a := 0) (by omega) (by omega))
    · refine al0 dX10_goes_14 (by first | nofun | exact xrv_ne _) ?_
      refine qf_180 hX rfl dX10_goes_15 ?_
      refine ex_if_eq 28 dX10_goes_18 (by decide) (fun h18 => ?_) (fun h18 => ?_)
      · rw [h39] at h18; exact absurd h18 (by decide)
      · refine al0 dX10_goes_21 (by first | nofun | exact xrv_ne _) ?_
        refine cd10_252 (f' := f - 1) rfl dX10_goes_22 (Nat.le_of_ble_eq_true rfl) (fx17 hX) (by omega) (q_take_made hX ht h31 hs) ?_
        refine ex_goto 0 dX10_goes_25 (by decide) ?_
        exact kk
set_option maxRecDepth 20000 in
set_option maxHeartbeats 1000000 in
theorem g_am {Γ : xGm} {l : Launch} {f : Nat} {G : xG} {D S E : xD} {R : xR} {Q : Option Value → xG → xD → xR → Prop} (hX : xFix G R) (hf : 9 ≤ f) (h39 : S 0 39 = 1) {t : Nat} (ht : t < 40) (h31 : S 0 31 = nI (t + 1)) (hs : S 24 t = 4) (kk : Gx Γ l f G D R Q (xdu (xdu S 0 31 (nI t)) 0 40 1) E) : Gx Γ l f G D R Q S E := by
  show Ex Γ l f MX10_goes 0 [some (.ref 17)] [] G (mg D (ms S E)) R 0 0 Q
  refine al0 dX10_goes_0 (by first | nofun | exact xrv_ne _) ?_
  refine qf_180 hX rfl dX10_goes_1 ?_
  refine ex_if_eq 14 dX10_goes_4 (by decide) (fun h4 => ?_) (fun h4 => ?_)
  · rw [h39] at h4; exact absurd h4 (by decide)
  · refine al0 dX10_goes_7 (by first | nofun | exact xrv_ne _) ?_
    refine qf_186 hX rfl dX10_goes_8 ?_
    refine ex_if_le 35 dX10_goes_11 (by decide) (fun h11 => ?_) (fun h11 => ?_)
    · exact absurd h11 (by rw [h31]; exact nI_ge (a := 0) (by omega) (by omega))
    · refine al0 dX10_goes_14 (by first | nofun | exact xrv_ne _) ?_
      refine qf_180 hX rfl dX10_goes_15 ?_
      refine ex_if_eq 28 dX10_goes_18 (by decide) (fun h18 => ?_) (fun h18 => ?_)
      · rw [h39] at h18; exact absurd h18 (by decide)
      · refine al0 dX10_goes_21 (by first | nofun | exact xrv_ne _) ?_
        refine cd10_252 (f' := f - 1) rfl dX10_goes_22 (Nat.le_of_ble_eq_true rfl) (fx17 hX) (by omega) (q_take_am hX ht h31 hs) ?_
        refine ex_goto 0 dX10_goes_25 (by decide) ?_
        exact kk
set_option maxRecDepth 20000 in
set_option maxHeartbeats 1000000 in
theorem g_goes {Γ : xGm} {l : Launch} {f : Nat} {G : xG} {D S E : xD} {R : xR} {Q : Option Value → xG → xD → xR → Prop} (hX : xFix G R) (hf : 9 ≤ f) (hI : Iv E) (h39 : S 0 39 = 1) {t : Nat} (ht : t < 40) (h31 : S 0 31 = nI (t + 1)) (hs : S 24 t = 2) {o : Nat} (o1 : 1 ≤ o) (o2 : o < 41) (ho : S 27 t = nI o) (kk : Gx Γ l f G D R Q (xdu (xdu S 0 31 (nI t)) 0 40 1) (if ¬ E 11 o = 0 then sGone E (nI o) else E)) : Gx Γ l f G D R Q S E := by
  show Ex Γ l f MX10_goes 0 [some (.ref 17)] [] G (mg D (ms S E)) R 0 0 Q
  refine al0 dX10_goes_0 (by first | nofun | exact xrv_ne _) ?_
  refine qf_180 hX rfl dX10_goes_1 ?_
  refine ex_if_eq 14 dX10_goes_4 (by decide) (fun h4 => ?_) (fun h4 => ?_)
  · rw [h39] at h4; exact absurd h4 (by decide)
  · refine al0 dX10_goes_7 (by first | nofun | exact xrv_ne _) ?_
    refine qf_186 hX rfl dX10_goes_8 ?_
    refine ex_if_le 35 dX10_goes_11 (by decide) (fun h11 => ?_) (fun h11 => ?_)
    · exact absurd h11 (by rw [h31]; exact nI_ge (a := 0) (by omega) (by omega))
    · refine al0 dX10_goes_14 (by first | nofun | exact xrv_ne _) ?_
      refine qf_180 hX rfl dX10_goes_15 ?_
      refine ex_if_eq 28 dX10_goes_18 (by decide) (fun h18 => ?_) (fun h18 => ?_)
      · rw [h39] at h18; exact absurd h18 (by decide)
      · refine al0 dX10_goes_21 (by first | nofun | exact xrv_ne _) ?_
        refine cd10_252 (f' := f - 1) rfl dX10_goes_22 (Nat.le_of_ble_eq_true rfl) (fx17 hX) (by omega) (q_take_goes hX (by omega) hI ht h31 hs o1 o2 ho) ?_
        refine ex_goto 0 dX10_goes_25 (by decide) ?_
        exact kk
set_option maxRecDepth 20000 in
set_option maxHeartbeats 1000000 in
theorem g_again {Γ : xGm} {l : Launch} {f : Nat} {G : xG} {D S E : xD} {R : xR} {Q : Option Value → xG → xD → xR → Prop} (hX : xFix G R) (hf : 9 ≤ f) (hI : Iv E) (h39 : S 0 39 = 1) {t : Nat} (ht : t < 40) (h31 : S 0 31 = nI (t + 1)) (hs : S 24 t = 3) (ht31 : vp_in (S 0 31) 40) {o : Nat} (o1 : 1 ≤ o) (o2 : o < 41) (ho : S 27 t = nI o) (h10 : E 10 o = 0) (k1 : ¬ E 11 o = 0 → Gx Γ l f G D R Q (mIfThere (xdu (xdu S 24 t 4) 0 39 0) (sRows E (nI o)) (nI o) 1 0).1 (mIfThere (xdu (xdu S 24 t 4) 0 39 0) (sRows E (nI o)) (nI o) 1 0).2) (k2 : E 11 o = 0 → Gx Γ l f G D R Q (xdu (xdu S 0 31 (nI t)) 0 40 1) E) : Gx Γ l f G D R Q S E := by
  show Ex Γ l f MX10_goes 0 [some (.ref 17)] [] G (mg D (ms S E)) R 0 0 Q
  refine al0 dX10_goes_0 (by first | nofun | exact xrv_ne _) ?_
  refine qf_180 hX rfl dX10_goes_1 ?_
  refine ex_if_eq 14 dX10_goes_4 (by decide) (fun h4 => ?_) (fun h4 => ?_)
  · rw [h39] at h4; exact absurd h4 (by decide)
  · refine al0 dX10_goes_7 (by first | nofun | exact xrv_ne _) ?_
    refine qf_186 hX rfl dX10_goes_8 ?_
    refine ex_if_le 35 dX10_goes_11 (by decide) (fun h11 => ?_) (fun h11 => ?_)
    · exact absurd h11 (by rw [h31]; exact nI_ge (a := 0) (by omega) (by omega))
    · refine al0 dX10_goes_14 (by first | nofun | exact xrv_ne _) ?_
      refine qf_180 hX rfl dX10_goes_15 ?_
      refine ex_if_eq 28 dX10_goes_18 (by decide) (fun h18 => ?_) (fun h18 => ?_)
      · rw [h39] at h18; exact absurd h18 (by decide)
      · refine al0 dX10_goes_21 (by first | nofun | exact xrv_ne _) ?_
        refine cd10_252 (f' := f - 1) rfl dX10_goes_22 (Nat.le_of_ble_eq_true rfl) (fx17 hX) (by omega) (q_take_again hX (by omega) hI ht h31 hs ht31 o1 o2 ho h10) ?_
        refine ex_goto 0 dX10_goes_25 (by decide) ?_
        by_cases q : E 11 o = 0
        · rw [if_neg (fun z => z q)]
          exact k2 q
        · rw [if_pos q]
          exact k1 q
theorem g_done {Γ : xGm} {l : Launch} {f : Nat} {G : xG} {D S E : xD} {R : xR} {Q : Option Value → xG → xD → xR → Prop} (hX : xFix G R) (hf : 9 ≤ f) (h39 : S 0 39 = 1) (h31 : S 0 31 = 0) (hq : Q (some (.int (S 0 40))) G (mg D (ms S E)) R) : Gx Γ l f G D R Q S E := by
  show Ex Γ l f MX10_goes 0 [some (.ref 17)] [] G (mg D (ms S E)) R 0 0 Q
  refine al0 dX10_goes_0 (by first | nofun | exact xrv_ne _) ?_
  refine qf_180 hX rfl dX10_goes_1 ?_
  refine ex_if_eq 14 dX10_goes_4 (by decide) (fun h4 => ?_) (fun h4 => ?_)
  · rw [h39] at h4; exact absurd h4 (by decide)
  · refine al0 dX10_goes_7 (by first | nofun | exact xrv_ne _) ?_
    refine qf_186 hX rfl dX10_goes_8 ?_
    refine ex_if_le 35 dX10_goes_11 (by decide) (fun h11 => ?_) (fun h11 => ?_)
    · refine al0 dX10_goes_35 (by first | nofun | exact xrv_ne _) ?_
      refine qf_183 hX rfl dX10_goes_36 ?_
      refine ex_iret dX10_goes_39 rfl ?_
      exact hq
    · exact absurd (by rw [h31]; decide) h11
theorem mAct_0 {S E : xD} {t : Nat} {a b : Int32} : mAct S E t 0 a b = (xdu S 29 t a, E) := by
  unfold mAct
  rw [if_pos rfl]
theorem sAct1_0 {rn : xRn} {E : xD} {a b o w r : Int32} : sAct1 rn E 0 a b o w r = (a, E) := by
  unfold sAct1
  rw [if_pos rfl]
theorem mAct_1 {S E : xD} {t : Nat} {a b : Int32} : mAct S E t 1 a b = (xdu S 29 t (S 28 t), E) := by
  unfold mAct
  rw [if_neg (by decide), if_pos rfl]
theorem sAct1_1 {rn : xRn} {E : xD} {a b o w r : Int32} : sAct1 rn E 1 a b o w r = (w, E) := by
  unfold sAct1
  rw [if_neg (by decide), if_pos rfl]
theorem mAct_2 {S E : xD} {t : Nat} {a b : Int32} : mAct S E t 2 a b = (xdu S 29 t (S 27 t), E) := by
  unfold mAct
  rw [if_neg (by decide), if_neg (by decide), if_pos rfl]
theorem sAct1_2 {rn : xRn} {E : xD} {a b o w r : Int32} : sAct1 rn E 2 a b o w r = (o, E) := by
  unfold sAct1
  rw [if_neg (by decide), if_neg (by decide), if_pos rfl]
theorem mAct_3 {S E : xD} {t : Nat} {a b : Int32} : mAct S E t 3 a b = (xdu S 29 t (S 29 t + a), E) := by
  unfold mAct
  rw [if_neg (by decide), if_neg (by decide), if_neg (by decide), if_pos rfl]
theorem sAct1_3 {rn : xRn} {E : xD} {a b o w r : Int32} : sAct1 rn E 3 a b o w r = (r + a, E) := by
  unfold sAct1
  rw [if_neg (by decide), if_neg (by decide), if_neg (by decide), if_pos rfl]
theorem mAct_4 {S E : xD} {t : Nat} {a b : Int32} : mAct S E t 4 a b = (xdu S 29 t (sRead E (S 27 t) a b).1, (sRead E (S 27 t) a b).2) := by
  unfold mAct
  rw [if_neg (by decide), if_neg (by decide), if_neg (by decide), if_neg (by decide), if_pos rfl]
theorem sAct1_4 {rn : xRn} {E : xD} {a b o w r : Int32} : sAct1 rn E 4 a b o w r = sRead E o a b := by
  unfold sAct1
  rw [if_neg (by decide), if_neg (by decide), if_neg (by decide), if_neg (by decide), if_pos rfl]
theorem mAct_5 {S E : xD} {t : Nat} {a b : Int32} : mAct S E t 5 a b = (S, (sWrite E (S 27 t) a b (S 29 t)).2) := by
  unfold mAct
  rw [if_neg (by decide), if_neg (by decide), if_neg (by decide), if_neg (by decide), if_neg (by decide), if_pos rfl]
theorem sAct1_5 {rn : xRn} {E : xD} {a b o w r : Int32} : sAct1 rn E 5 a b o w r = (r, (sWrite E o a b r).2) := by
  unfold sAct1
  rw [if_neg (by decide), if_neg (by decide), if_neg (by decide), if_neg (by decide), if_neg (by decide), if_pos rfl]
theorem mAct_6 {S E : xD} {t : Nat} {a b : Int32} : mAct S E t 6 a b = mSends S E (S 29 t) a b := by
  unfold mAct
  rw [if_neg (by decide), if_neg (by decide), if_neg (by decide), if_neg (by decide), if_neg (by decide), if_neg (by decide), if_pos rfl]
theorem sAct1_6 {rn : xRn} {E : xD} {a b o w r : Int32} : sAct1 rn E 6 a b o w r = sSend rn E r a b := by
  unfold sAct1
  rw [if_neg (by decide), if_neg (by decide), if_neg (by decide), if_neg (by decide), if_neg (by decide), if_neg (by decide), if_pos rfl]
theorem mAct_7 {S E : xD} {t : Nat} {a b : Int32} : mAct S E t 7 a b = mSendsAs S E b (S 27 t) a (S 28 t) := by
  unfold mAct
  rw [if_neg (by decide), if_neg (by decide), if_neg (by decide), if_neg (by decide), if_neg (by decide), if_neg (by decide), if_neg (by decide), if_pos rfl]
theorem sAct1_7 {rn : xRn} {E : xD} {a b o w r : Int32} : sAct1 rn E 7 a b o w r = sSendAs rn E b o a w := by
  unfold sAct1
  rw [if_neg (by decide), if_neg (by decide), if_neg (by decide), if_neg (by decide), if_neg (by decide), if_neg (by decide), if_neg (by decide), if_pos rfl]
theorem mAct_8 {S E : xD} {t : Nat} {a b : Int32} : mAct S E t 8 a b = (S, (sMove E (S 27 t) (S 29 t)).2) := by
  unfold mAct
  rw [if_neg (by decide), if_neg (by decide), if_neg (by decide), if_neg (by decide), if_neg (by decide), if_neg (by decide), if_neg (by decide), if_neg (by decide), if_pos rfl]
theorem sAct1_8 {rn : xRn} {E : xD} {a b o w r : Int32} : sAct1 rn E 8 a b o w r = (r, (sMove E o r).2) := by
  unfold sAct1
  rw [if_neg (by decide), if_neg (by decide), if_neg (by decide), if_neg (by decide), if_neg (by decide), if_neg (by decide), if_neg (by decide), if_neg (by decide), if_pos rfl]
theorem mAct_9 {S E : xD} {t : Nat} {a b : Int32} : mAct S E t 9 a b = (xdu S 29 t (sTree E (S 29 t) 0).1, (sTree E (S 29 t) 0).2) := by
  unfold mAct
  rw [if_neg (by decide), if_neg (by decide), if_neg (by decide), if_neg (by decide), if_neg (by decide), if_neg (by decide), if_neg (by decide), if_neg (by decide), if_neg (by decide), if_pos rfl]
theorem sAct1_9 {rn : xRn} {E : xD} {a b o w r : Int32} : sAct1 rn E 9 a b o w r = sTree E r 0 := by
  unfold sAct1
  rw [if_neg (by decide), if_neg (by decide), if_neg (by decide), if_neg (by decide), if_neg (by decide), if_neg (by decide), if_neg (by decide), if_neg (by decide), if_neg (by decide), if_pos rfl]
theorem mAct_10 {S E : xD} {t : Nat} {a b : Int32} : mAct S E t 10 a b = (xdu S 29 t (sTree E (S 29 t) 1).1, (sTree E (S 29 t) 1).2) := by
  unfold mAct
  rw [if_neg (by decide), if_neg (by decide), if_neg (by decide), if_neg (by decide), if_neg (by decide), if_neg (by decide), if_neg (by decide), if_neg (by decide), if_neg (by decide), if_neg (by decide), if_pos rfl]
theorem sAct1_10 {rn : xRn} {E : xD} {a b o w r : Int32} : sAct1 rn E 10 a b o w r = sTree E r 1 := by
  unfold sAct1
  rw [if_neg (by decide), if_neg (by decide), if_neg (by decide), if_neg (by decide), if_neg (by decide), if_neg (by decide), if_neg (by decide), if_neg (by decide), if_neg (by decide), if_neg (by decide), if_pos rfl]
theorem mAct_11 {S E : xD} {t : Nat} {a b : Int32} : mAct S E t 11 a b = (xdu S 29 t (sTree E (S 29 t) 2).1, (sTree E (S 29 t) 2).2) := by
  unfold mAct
  rw [if_neg (by decide), if_neg (by decide), if_neg (by decide), if_neg (by decide), if_neg (by decide), if_neg (by decide), if_neg (by decide), if_neg (by decide), if_neg (by decide), if_neg (by decide), if_neg (by decide), if_pos rfl]
theorem sAct1_11 {rn : xRn} {E : xD} {a b o w r : Int32} : sAct1 rn E 11 a b o w r = sTree E r 2 := by
  unfold sAct1
  rw [if_neg (by decide), if_neg (by decide), if_neg (by decide), if_neg (by decide), if_neg (by decide), if_neg (by decide), if_neg (by decide), if_neg (by decide), if_neg (by decide), if_neg (by decide), if_neg (by decide), if_pos rfl]
theorem mAct_12 {S E : xD} {t : Nat} {a b : Int32} : mAct S E t 12 a b = (if S 29 t = 0 then mEnds S t else S, E) := by
  unfold mAct
  rw [if_neg (by decide), if_neg (by decide), if_neg (by decide), if_neg (by decide), if_neg (by decide), if_neg (by decide), if_neg (by decide), if_neg (by decide), if_neg (by decide), if_neg (by decide), if_neg (by decide), if_neg (by decide), if_pos rfl]
theorem sAct1_12 {rn : xRn} {E : xD} {a b o w r : Int32} : sAct1 rn E 12 a b o w r = (r, E) := by
  unfold sAct1
  rw [if_neg (by decide), if_neg (by decide), if_neg (by decide), if_neg (by decide), if_neg (by decide), if_neg (by decide), if_neg (by decide), if_neg (by decide), if_neg (by decide), if_neg (by decide), if_neg (by decide), if_neg (by decide), if_pos rfl]
theorem mAct_13 {S E : xD} {t : Nat} {a b : Int32} : mAct S E t 13 a b = (S, sName E (S 29 t) a) := by
  unfold mAct
  rw [if_neg (by decide), if_neg (by decide), if_neg (by decide), if_neg (by decide), if_neg (by decide), if_neg (by decide), if_neg (by decide), if_neg (by decide), if_neg (by decide), if_neg (by decide), if_neg (by decide), if_neg (by decide), if_neg (by decide), if_pos rfl]
theorem sAct1_13 {rn : xRn} {E : xD} {a b o w r : Int32} : sAct1 rn E 13 a b o w r = (r, sName E r a) := by
  unfold sAct1
  rw [if_neg (by decide), if_neg (by decide), if_neg (by decide), if_neg (by decide), if_neg (by decide), if_neg (by decide), if_neg (by decide), if_neg (by decide), if_neg (by decide), if_neg (by decide), if_neg (by decide), if_neg (by decide), if_neg (by decide), if_pos rfl]
theorem mAct_14 {S E : xD} {t : Nat} {a b : Int32} : mAct S E t 14 a b = (if sIsOf E (S 29 t) a = true then mEnds (xdu S 29 t (bi (sIsOf E (S 29 t) a))) t else xdu S 29 t (bi (sIsOf E (S 29 t) a)), E) := by
  unfold mAct
  rw [if_neg (by decide), if_neg (by decide), if_neg (by decide), if_neg (by decide), if_neg (by decide), if_neg (by decide), if_neg (by decide), if_neg (by decide), if_neg (by decide), if_neg (by decide), if_neg (by decide), if_neg (by decide), if_neg (by decide), if_neg (by decide)]
theorem sAct1_14 {rn : xRn} {E : xD} {a b o w r : Int32} : sAct1 rn E 14 a b o w r = (bi (sIsOf E r a), E) := by
  unfold sAct1
  rw [if_neg (by decide), if_neg (by decide), if_neg (by decide), if_neg (by decide), if_neg (by decide), if_neg (by decide), if_neg (by decide), if_neg (by decide), if_neg (by decide), if_neg (by decide), if_neg (by decide), if_neg (by decide), if_neg (by decide), if_neg (by decide)]
