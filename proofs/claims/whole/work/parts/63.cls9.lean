/-! ===== names ===== -/
def artI (n : Int32) (c a : Int32) : Nat := if a = 1 then 3 else if a = 2 then (if (decide (¬ n ≤ 0) && sVowel c) = true then 5 else 6) else if a = 3 then 7 else 8
theorem artI_9 {n c a : Int32} : artI n c a < 9 := by
  unfold artI
  split
  · decide
  · split
    · split <;> decide
    · split <;> decide
theorem art_eq {E E' : xD} {x a : Int32} (h2 : E' 2 = E 2) (h3 : E' 3 = E 3) : sSays E' (xByt.getD (artI (E 2 (ix (x - 101))) (E 3 (ix (20 * (x - 101)))) a) []) = sArticle E' x a := by
  unfold sArticle artI
  rw [h2, h3]
  by_cases a1 : a = 1
  · subst a1
    rw [if_pos (rfl : (1 : Int32) = 1), if_neg (by decide), if_pos (Or.inl (rfl : (1 : Int32) = 1)), if_pos (rfl : (1 : Int32) = 1)]
    rfl
  · rw [if_neg a1]
    by_cases a2 : a = 2
    · subst a2
      rw [if_pos (rfl : (2 : Int32) = 2), if_pos (rfl : (2 : Int32) = 2)]
      by_cases hv : ¬ E 2 (ix (x - 101)) ≤ 0 ∧ sVowel (E 3 (ix (20 * (x - 101)))) = true
      · rw [if_pos (by rw [Bool.and_eq_true, decide_eq_true_eq]; exact hv), if_pos hv]
        rfl
      · rw [if_neg (by rw [Bool.and_eq_true, decide_eq_true_eq]; exact hv), if_neg hv]
        rfl
    · rw [if_neg a2, if_neg a2]
      by_cases a3 : a = 3
      · subst a3
        rw [if_pos (rfl : (3 : Int32) = 3), if_pos (Or.inr (rfl : (3 : Int32) = 3)), if_neg (by decide)]
        rfl
      · rw [if_neg a3, if_neg (fun q => q.elim a1 a3)]
        rfl
set_option maxRecDepth 20000 in
set_option maxHeartbeats 1000000 in
theorem c_art {Γ : xGm} {l : Launch} {f : Nat} {G : xG} {D : xD} {R : xR} (hf : 5 ≤ f) {b : Nat} {g : Nat → Int32} {n a : Int32} (h : tx D R G b g n) : Cn Γ l f MX9_articleOf [.ref b, .int a] G D R 0 0 (xdet (some (xrv (some (1000000 + artI n (g 0) a)))) G D R) := by
  refine cn_of MX9_articleOf_ok (Nat.le_of_ble_eq_true rfl) ?_
  show Ex Γ l f MX9_articleOf 0 [some (.ref b), some (.int a)] [] G D R 0 0 _
  refine il1 dX9_articleOf_0 ?_
  refine ex_table 1 53 [28, 32, 49] dX9_articleOf_1 (by decide) (by decide) (by decide) (by decide) (by decide) ⟨fun h1 => ?_, fun h1 => ?_, fun h1 => ?_, trivial⟩ (fun h1 => ?_)
  · change _ = (1 : Int32) at h1
    refine ex_ldcwS (i := 3) dX9_articleOf_28 rfl rfl rfl ?_
    refine ex_aret dX9_articleOf_31 rfl (by first | nofun | exact xrv_ne _) ?_
    refine ⟨?_, rfl, rfl, rfl⟩
    unfold artI
    rw [if_pos h1]
    rfl
  · change _ = (2 : Int32) at h1
    refine al0 dX9_articleOf_32 (by first | nofun | exact xrv_ne _) ?_
    refine cd9_358 (f' := f - 1) rfl dX9_articleOf_33 (Nat.le_of_ble_eq_true rfl) (h.1) (by omega) (c_vowel (by omega) h) ?_
    refine ex_if_eq 45 dX9_articleOf_36 (by decide) (fun h36 => ?_) (fun h36 => ?_)
    · simp only [bi_0, Bool.not_eq_false] at h36
      refine ex_ldcwS (i := 6) dX9_articleOf_45 rfl rfl rfl ?_
      refine ex_aret dX9_articleOf_48 rfl (by first | nofun | exact xrv_ne _) ?_
      refine ⟨?_, rfl, rfl, rfl⟩
      unfold artI
      rw [if_neg (by rw [h1]; decide), if_pos h1]
      first | (rw [if_pos h36]; rfl) | (rw [if_neg (by rw [h36]; decide)]; rfl)
    · simp only [bi_0, Bool.not_eq_false] at h36
      refine ex_ldcwS (i := 5) dX9_articleOf_39 rfl rfl rfl ?_
      refine ex_goto 48 dX9_articleOf_42 (by decide) ?_
      refine ex_aret dX9_articleOf_48 rfl (by first | nofun | exact xrv_ne _) ?_
      refine ⟨?_, rfl, rfl, rfl⟩
      unfold artI
      rw [if_neg (by rw [h1]; decide), if_pos h1]
      first | (rw [if_pos h36]; rfl) | (rw [if_neg (by rw [h36]; decide)]; rfl)
  · change _ = (3 : Int32) at h1
    refine ex_ldcwS (i := 7) dX9_articleOf_49 rfl rfl rfl ?_
    refine ex_aret dX9_articleOf_52 rfl (by first | nofun | exact xrv_ne _) ?_
    refine ⟨?_, rfl, rfl, rfl⟩
    unfold artI
    rw [if_neg (by rw [h1]; decide), if_neg (by rw [h1]; decide), if_pos h1]
    rfl
  · obtain ⟨h1_1, h1_2, h1_3, -⟩ := h1
    change ¬ _ = (1 : Int32) at h1_1
    change ¬ _ = (2 : Int32) at h1_2
    change ¬ _ = (3 : Int32) at h1_3
    refine ex_ldcwS (i := 8) dX9_articleOf_53 rfl rfl rfl ?_
    refine ex_aret dX9_articleOf_56 rfl (by first | nofun | exact xrv_ne _) ?_
    refine ⟨?_, rfl, rfl, rfl⟩
    unfold artI
    rw [if_neg h1_1, if_neg h1_2, if_neg h1_3]
    rfl
theorem sayText_eq {E E' : xD} {x : Int32} {t : Nat} (ex : x - 101 = nI t) (ht : t < 20) (h2 : E' 2 = E 2) (h3 : E' 3 = E 3) (hn : vp_in (E 2 t) 21) : sSayText E' x = sGo E' (fun k => E 3 (20 * t + k)) 0 (ix (E 2 t)) := by
  unfold sSayText
  rw [ex, h2, ix_nI (by omega)]
  have := (vi_n hn (by decide)).2
  exact sGo_eq ht _ 0 _ (by omega) (fun j _ => by rw [h3])
theorem sim_text {D E : xD} {R : xR} {G : xG} (h : Sim D R G E) {x : Int32} (hx : 101 ≤ x ∧ x ≤ 100 + E 0 3) : ∃ t b, x - 101 = nI t ∧ t < 20 ∧ t < ix (E 0 3) ∧ ix x - 101 = t ∧ R 2 t = some b ∧ tx D R G b (fun k => E 3 (20 * t + k)) (E 2 t) := by
  have h2 := sIn_b (b := 100) (sIn_t.mpr hx) h.B.n3 (by decide) (by decide)
  obtain ⟨e, l⟩ := vi_n h2.1 (by decide)
  obtain ⟨b, b1, b2⟩ := h.tx.1 _ h2.2.1
  refine ⟨ix (x - 101), b, e, l, h2.2.1, ?_, b1, b2⟩
  have := h2.2.2
  rw [this, ix_nI (by have := l; change ix (x - nI (100 + 1)) < 20 at this; omega)]
  show 100 + 1 + ix (x - nI (100 + 1)) - 101 = _
  rw [← this]
  change 100 + 1 + ix (x - 101) - 101 = ix (x - 101)
  omega
set_option maxRecDepth 20000 in
set_option maxHeartbeats 1000000 in
theorem c_sayName {Γ : xGm} {l : Launch} {f : Nat} {G : xG} {D E : xD} {R : xR} (hf : 6 ≤ f) (hS : Sim D R G E) {v b : Nat} {a : Int32} (v1 : 1 ≤ v) (v41 : v < 41) (hM : sMeta E (nI v) = 1 ∨ sMeta E (nI v) = 2) (hth : th D R G b E v) : Cn Γ l f MX9_sayName [.ref 0, .ref b, .int (nI v), .int a] G (oS D E) R 0 0 (xdet none G (oS D (sName E (nI v) a)) R) := by
  obtain ⟨⟨hq, h3⟩, ⟨d0, d2, d4, d6⟩, htx, ⟨lq, hlq, hln⟩, hrw⟩ := id hth
  have hob : ∀ E' : xD, oS D E' b = D b := fun E' => oS_ne _ _ (xis_ne hq (fx9 hS.X) (by decide)) (xis_xia hq (fx10 hS.X) (by decide))
  have ev : ix (nI v) = v := ix_nI (by omega)
  have hX := hS.X
  have hB9 := hS.B.n29
  have v0 : ¬ nI v = 0 := fun q => by
    have : v = 0 := by rw [← ev, q]; rfl
    omega
  have hM2 : ¬ (¬ sMeta E (nI v) = 1 ∧ ¬ sMeta E (nI v) = 2) := fun q => hM.elim q.1 q.2
  refine cn_of MX9_sayName_ok (Nat.le_of_ble_eq_true rfl) ?_
  show Ex Γ l f MX9_sayName 0 [some (.ref 0), some (.ref b), some (.int (nI v)), some (.int a)] [] G (oS D E) R 0 0 _
  unfold sName
  rw [if_neg v0, if_neg hM2, ev]
  by_cases hc : sMeta E (nI v) = 1
  · have h10 : ¬ E 10 v = 0 := by have := sMeta_f1 hc; rw [ev] at this; exact this
    rw [if_pos hc]
    by_cases ht : E 17 v = 0
    · have hr5 : R b 5 = none := htx.elim (fun q => q.2) (fun q => absurd ht q.1)
      rw [if_pos ht]
      refine al1 dX9_sayName_0 (by first | nofun | exact xrv_ne _) ?_
      refine gf9_203 rfl dX9_sayName_1 hq ?_
      rw [hob, d0]
      refine ex_if_eq 17 dX9_sayName_4 (by decide) (fun h4 => ?_) (fun h4 => ?_)
      · exact absurd h4 h10
      · refine al0 dX9_sayName_7 (by first | nofun | exact xrv_ne _) ?_
        refine gf9_43 rfl dX9_sayName_8 (fr0_5 hX) (fx0 hX) ?_
        refine ex_ldcwS (i := 2) dX9_sayName_11 rfl rfl rfl ?_
        refine cd9_239 (f' := f - 1) rfl dX9_sayName_14 (Nat.le_of_ble_eq_true rfl) ((fx9 hX)) (by omega) (c_say (by omega) hX (i := 2) (by decide) hB9) ?_
        refine al1 dX9_sayName_17 (by first | nofun | exact xrv_ne _) ?_
        refine gf9_147 rfl dX9_sayName_18 (hr5) hq ?_
        refine ex_ifnonnullN dX9_sayName_21 ?_
        refine al0 dX9_sayName_24 (by first | nofun | exact xrv_ne _) ?_
        refine gf9_43 rfl dX9_sayName_25 (fr0_5 hX) (fx0 hX) ?_
        refine il2 dX9_sayName_28 ?_
        refine cd9_349 (f' := f - 1) rfl dX9_sayName_29 (Nat.le_of_ble_eq_true rfl) (fx9 hX) (by omega) (c_sayNum (by omega) hX v41 (sSays_29 hB9)) ?_
        refine ex_vret dX9_sayName_32 rfl ?_
        exact ⟨rfl, rfl, rfl, rfl⟩
    · rw [if_neg ht, if_neg (fun q => absurd (hc.symm.trans q.1) (by decide))]
      obtain ⟨t, bt, et, t20, tlt, eix, hbt, htt⟩ := sim_text hS ((hS.B.a17 v41).resolve_left ht)
      have hr5 : R b 5 = some bt := by
        rcases htx with ⟨q, -⟩ | ⟨-, q⟩
        · exact absurd q ht
        · rw [q, eix]
          exact hbt
      rw [sayText_eq (E := E) et t20 (sSays_ne (by decide) (by decide)) (sSays_ne (by decide) (by decide)) (hS.B.a2 t20)]
      refine al1 dX9_sayName_0 (by first | nofun | exact xrv_ne _) ?_
      refine gf9_203 rfl dX9_sayName_1 hq ?_
      rw [hob, d0]
      refine ex_if_eq 17 dX9_sayName_4 (by decide) (fun h4 => ?_) (fun h4 => ?_)
      · exact absurd h4 h10
      · refine al0 dX9_sayName_7 (by first | nofun | exact xrv_ne _) ?_
        refine gf9_43 rfl dX9_sayName_8 (fr0_5 hX) (fx0 hX) ?_
        refine ex_ldcwS (i := 2) dX9_sayName_11 rfl rfl rfl ?_
        refine cd9_239 (f' := f - 1) rfl dX9_sayName_14 (Nat.le_of_ble_eq_true rfl) ((fx9 hX)) (by omega) (c_say (by omega) hX (i := 2) (by decide) hB9) ?_
        refine al1 dX9_sayName_17 (by first | nofun | exact xrv_ne _) ?_
        refine gf9_147 rfl dX9_sayName_18 (hr5) hq ?_
        refine ex_ifnonnull 33 dX9_sayName_21 (by decide) ?_
        refine al1 dX9_sayName_33 (by first | nofun | exact xrv_ne _) ?_
        refine gf9_203 rfl dX9_sayName_34 hq ?_
        rw [hob, d0]
        refine ex_if_ne 62 dX9_sayName_37 (by decide) (fun h37 => ?_) (fun h37 => ?_)
        · refine al0 dX9_sayName_62 (by first | nofun | exact xrv_ne _) ?_
          refine gf9_43 rfl dX9_sayName_63 (fr0_5 hX) (fx0 hX) ?_
          refine al1 dX9_sayName_66 (by first | nofun | exact xrv_ne _) ?_
          refine gf9_147 rfl dX9_sayName_67 (hr5) hq ?_
          refine cd9_293 (f' := f - 1) rfl dX9_sayName_70 (Nat.le_of_ble_eq_true rfl) (fx9 hX) (by omega) (c_sayT (by omega) hX htt (sSays_29 hB9)) ?_
          refine ex_vret dX9_sayName_73 rfl ?_
          exact ⟨rfl, rfl, rfl, rfl⟩
        · exact absurd h37 h10
  · have hc2 : sMeta E (nI v) = 2 := hM.resolve_left hc
    have h10 : E 10 v = 0 := by have := (sMeta_f2 hc2).1; rw [ev] at this; exact this
    rw [if_neg hc]
    by_cases ht : E 17 v = 0
    · have hr5 : R b 5 = none := htx.elim (fun q => q.2) (fun q => absurd ht q.1)
      rw [if_pos ht]
      refine al1 dX9_sayName_0 (by first | nofun | exact xrv_ne _) ?_
      refine gf9_203 rfl dX9_sayName_1 hq ?_
      rw [hob, d0]
      refine ex_if_eq 17 dX9_sayName_4 (by decide) (fun h4 => ?_) (fun h4 => ?_)
      · refine al1 dX9_sayName_17 (by first | nofun | exact xrv_ne _) ?_
        refine gf9_147 rfl dX9_sayName_18 (hr5) hq ?_
        refine ex_ifnonnullN dX9_sayName_21 ?_
        refine al0 dX9_sayName_24 (by first | nofun | exact xrv_ne _) ?_
        refine gf9_43 rfl dX9_sayName_25 (fr0_5 hX) (fx0 hX) ?_
        refine il2 dX9_sayName_28 ?_
        refine cd9_349 (f' := f - 1) rfl dX9_sayName_29 (Nat.le_of_ble_eq_true rfl) (fx9 hX) (by omega) (c_sayNum (by omega) hX v41 hB9) ?_
        refine ex_vret dX9_sayName_32 rfl ?_
        exact ⟨rfl, rfl, rfl, rfl⟩
      · exact absurd h10 h4
    · rw [if_neg ht]
      obtain ⟨t, bt, et, t20, tlt, eix, hbt, htt⟩ := sim_text hS ((hS.B.a17 v41).resolve_left ht)
      have hr5 : R b 5 = some bt := by
        rcases htx with ⟨q, -⟩ | ⟨-, q⟩
        · exact absurd q ht
        · rw [q, eix]
          exact hbt
      have ht20 : ix (20 * (E 17 v - 101)) = 20 * t + 0 := by
        rw [et, show (20 : Int32) = nI 20 from rfl, pk_mul, ix_nI (by omega)]
        omega
      have e101 : ix (E 17 v - 101) = t := by rw [et, ix_nI (by omega)]
      have htt2 : ∀ E' : xD, tx (oS D E') R G bt (fun k => E 3 (20 * t + k)) (E 2 t) := fun E' => htt.same (oS_ne _ _ (xis_ne htt.1 (fx9 hX) (by decide)) (xis_xia htt.1 (fx10 hX) (by decide))) (oS_ne _ _ (Ne.symm (xis_xia (fx9 hX) htt.2.2.1 (by decide))) (xia_ne htt.2.2.1 (fx10 hX) (by omega))) rfl
      by_cases hp : E 18 v = 0
      · rw [if_pos ⟨hc2, hp⟩, sayText_eq (E := E) et t20 (sArticle_ne (by decide) (by decide)) (sArticle_ne (by decide) (by decide)) (hS.B.a2 t20), ← art_eq (E := E) rfl rfl, ht20, e101]
        refine al1 dX9_sayName_0 (by first | nofun | exact xrv_ne _) ?_
        refine gf9_203 rfl dX9_sayName_1 hq ?_
        rw [hob, d0]
        refine ex_if_eq 17 dX9_sayName_4 (by decide) (fun h4 => ?_) (fun h4 => ?_)
        · refine al1 dX9_sayName_17 (by first | nofun | exact xrv_ne _) ?_
          refine gf9_147 rfl dX9_sayName_18 (hr5) hq ?_
          refine ex_ifnonnull 33 dX9_sayName_21 (by decide) ?_
          refine al1 dX9_sayName_33 (by first | nofun | exact xrv_ne _) ?_
          refine gf9_203 rfl dX9_sayName_34 hq ?_
          rw [hob, d0]
          refine ex_if_ne 62 dX9_sayName_37 (by decide) (fun h37 => ?_) (fun h37 => ?_)
          · exact absurd h10 h37
          · refine al1 dX9_sayName_40 (by first | nofun | exact xrv_ne _) ?_
            refine gf9_150 rfl dX9_sayName_41 hq ?_
            rw [hob, d6]
            refine ex_if_ne 62 dX9_sayName_44 (by decide) (fun h44 => ?_) (fun h44 => ?_)
            · exact absurd hp h44
            · refine al0 dX9_sayName_47 (by first | nofun | exact xrv_ne _) ?_
              refine gf9_43 rfl dX9_sayName_48 (fr0_5 hX) (fx0 hX) ?_
              refine al1 dX9_sayName_51 (by first | nofun | exact xrv_ne _) ?_
              refine gf9_147 rfl dX9_sayName_52 (hr5) hq ?_
              refine il3 dX9_sayName_55 ?_
              refine cd9_352 (f' := f - 1) rfl dX9_sayName_56 (Nat.le_of_ble_eq_true rfl) (by omega) (c_art (by omega) (htt2 E)) ?_
              refine cd9_239 (f' := f - 1) rfl dX9_sayName_59 (Nat.le_of_ble_eq_true rfl) ((fx9 hX)) (by omega) (c_say (by omega) hX artI_9 hB9) ?_
              refine al0 dX9_sayName_62 (by first | nofun | exact xrv_ne _) ?_
              refine gf9_43 rfl dX9_sayName_63 (fr0_5 hX) (fx0 hX) ?_
              refine al1 dX9_sayName_66 (by first | nofun | exact xrv_ne _) ?_
              refine gf9_147 rfl dX9_sayName_67 (hr5) hq ?_
              refine cd9_293 (f' := f - 1) rfl dX9_sayName_70 (Nat.le_of_ble_eq_true rfl) (fx9 hX) (by omega) (c_sayT (by omega) hX htt (sSays_29 hB9)) ?_
              refine ex_vret dX9_sayName_73 rfl ?_
              exact ⟨rfl, rfl, rfl, rfl⟩
        · exact absurd h10 h4
      · rw [if_neg (fun q => hp q.2), sayText_eq (E := E) et t20 rfl rfl (hS.B.a2 t20)]
        refine al1 dX9_sayName_0 (by first | nofun | exact xrv_ne _) ?_
        refine gf9_203 rfl dX9_sayName_1 hq ?_
        rw [hob, d0]
        refine ex_if_eq 17 dX9_sayName_4 (by decide) (fun h4 => ?_) (fun h4 => ?_)
        · refine al1 dX9_sayName_17 (by first | nofun | exact xrv_ne _) ?_
          refine gf9_147 rfl dX9_sayName_18 (hr5) hq ?_
          refine ex_ifnonnull 33 dX9_sayName_21 (by decide) ?_
          refine al1 dX9_sayName_33 (by first | nofun | exact xrv_ne _) ?_
          refine gf9_203 rfl dX9_sayName_34 hq ?_
          rw [hob, d0]
          refine ex_if_ne 62 dX9_sayName_37 (by decide) (fun h37 => ?_) (fun h37 => ?_)
          · exact absurd h10 h37
          · refine al1 dX9_sayName_40 (by first | nofun | exact xrv_ne _) ?_
            refine gf9_150 rfl dX9_sayName_41 hq ?_
            rw [hob, d6]
            refine ex_if_ne 62 dX9_sayName_44 (by decide) (fun h44 => ?_) (fun h44 => ?_)
            · refine al0 dX9_sayName_62 (by first | nofun | exact xrv_ne _) ?_
              refine gf9_43 rfl dX9_sayName_63 (fr0_5 hX) (fx0 hX) ?_
              refine al1 dX9_sayName_66 (by first | nofun | exact xrv_ne _) ?_
              refine gf9_147 rfl dX9_sayName_67 (hr5) hq ?_
              refine cd9_293 (f' := f - 1) rfl dX9_sayName_70 (Nat.le_of_ble_eq_true rfl) (fx9 hX) (by omega) (c_sayT (by omega) hX htt hB9) ?_
              refine ex_vret dX9_sayName_73 rfl ?_
              exact ⟨rfl, rfl, rfl, rfl⟩
            · exact absurd h44 hp
        · exact absurd h10 h4
set_option maxRecDepth 20000 in
set_option maxHeartbeats 1000000 in
theorem c_name {Γ : xGm} {l : Launch} {f : Nat} {G : xG} {D E : xD} {R : xR} (hf : 7 ≤ f) (hS : Sim D R G E) {v a : Int32} : Cn Γ l f MX9_name [.ref 0, .int v, .int a] G D R 0 0 (Sq G R D (some (.int (sName E v a 0 29))) (sName E v a)) := by
  refine cn_of MX9_name_ok (Nat.le_of_ble_eq_true rfl) ?_
  show Ex Γ l f MX9_name 0 [some (.ref 0), some (.int v), some (.int a), none] [] G D R 0 0 _
  have hIn := hS.I.name (v := v) (a := a)
  obtain ⟨hS1, hM1⟩ := Sim_oS hS hIn (fun j a b => sName_ne a b) (fun k a => sName_0 a)
  by_cases hM : sMeta E v = 1 ∨ sMeta E v = 2
  · obtain ⟨b, hb, hth, ev, v1, v41, vle⟩ := sim_ans hS hM
    have hsn := c_sayName (Γ := Γ) (l := l) (f := f - 1) (a := a) (by omega) hS v1 v41 (by rw [← ev]; exact hM) hth
    rw [oS_id hS.ou, ← ev] at hsn
    refine al0 dX9_name_0 (by first | nofun | exact xrv_ne _) ?_
    refine il1 dX9_name_1 ?_
    refine cd9_217 (f' := f - 1) rfl dX9_name_2 (Nat.le_of_ble_eq_true rfl) (fx0 hS.X) (by omega) (c_ans_y (by omega) hS hM hb hth) ?_
    refine as3 dX9_name_5 (by first | nofun | exact xrv_ne _) ?_
    refine al3 dX9_name_6 (by first | nofun | exact xrv_ne _) ?_
    refine ex_ifnonnull 31 dX9_name_7 (by decide) ?_
    refine al0 dX9_name_31 (by first | nofun | exact xrv_ne _) ?_
    refine al3 dX9_name_32 (by first | nofun | exact xrv_ne _) ?_
    refine il1 dX9_name_33 ?_
    refine il2 dX9_name_34 ?_
    refine cd9_243 (f' := f - 1) rfl dX9_name_35 (Nat.le_of_ble_eq_true rfl) (fx0 hS.X) (by omega) (hsn) ?_
    refine al0 dX9_name_38 (by first | nofun | exact xrv_ne _) ?_
    refine gf9_43 rfl dX9_name_39 (fr0_5 hS.X) (fx0 hS.X) ?_
    refine gf9_247 rfl dX9_name_42 (fx9 hS.X) ?_
    refine ex_iret dX9_name_45 rfl ?_
    exact ⟨rfl, rfl, rfl, hS1, hM1⟩
  · have hM2 : ¬ sMeta E v = 1 ∧ ¬ sMeta E v = 2 := ⟨fun q => hM (Or.inl q), fun q => hM (Or.inr q)⟩
    have hs0 := c_say (Γ := Γ) (l := l) (f := f - 1) (D := D) (E := E) (i := 0) (by omega) hS.X (by decide) hS.B.n29
    have hs1 := c_say (Γ := Γ) (l := l) (f := f - 1) (D := D) (E := E) (i := 1) (by omega) hS.X (by decide) hS.B.n29
    rw [oS_id hS.ou] at hs0 hs1
    have n0 : v = 0 → sName E v a = sSays E (xByt.getD 0 []) := fun q => by unfold sName; rw [if_pos q]; rfl
    have n1 : ¬ v = 0 → sName E v a = sSays E (xByt.getD 1 []) := fun q => by unfold sName; rw [if_neg q, if_pos hM2]; rfl
    refine al0 dX9_name_0 (by first | nofun | exact xrv_ne _) ?_
    refine il1 dX9_name_1 ?_
    refine cd9_217 (f' := f - 1) rfl dX9_name_2 (Nat.le_of_ble_eq_true rfl) (fx0 hS.X) (by omega) (c_ans_n (by omega) hS hM2) ?_
    refine as3 dX9_name_5 (by first | nofun | exact xrv_ne _) ?_
    refine al3 dX9_name_6 (by first | nofun | exact xrv_ne _) ?_
    refine ex_ifnonnullN dX9_name_7 ?_
    refine al0 dX9_name_10 (by first | nofun | exact xrv_ne _) ?_
    refine gf9_43 rfl dX9_name_11 (fr0_5 hS.X) (fx0 hS.X) ?_
    refine il1 dX9_name_14 ?_
    refine ex_if_ne 23 dX9_name_15 (by decide) (fun h15 => ?_) (fun h15 => ?_)
    · refine ex_ldcS (i := 1) dX9_name_23 rfl rfl rfl ?_
      refine cd9_239 (f' := f - 1) rfl dX9_name_25 (Nat.le_of_ble_eq_true rfl) ((fx9 hS.X)) (by omega) (by first | exact hs0 | exact hs1) ?_
      refine ex_goto 38 dX9_name_28 (by decide) ?_
      refine al0 dX9_name_38 (by first | nofun | exact xrv_ne _) ?_
      refine gf9_43 rfl dX9_name_39 (fr0_5 hS.X) (fx0 hS.X) ?_
      refine gf9_247 rfl dX9_name_42 (fx9 hS.X) ?_
      refine ex_iret dX9_name_45 rfl ?_
      first
        | (have e := n0 h15; rw [e] at hS1 hM1 ⊢; exact ⟨by rw [oS_91], rfl, rfl, hS1, hM1⟩)
        | (have e := n1 h15; rw [e] at hS1 hM1 ⊢; exact ⟨by rw [oS_91], rfl, rfl, hS1, hM1⟩)
    · refine ex_ldcS (i := 0) dX9_name_18 rfl rfl rfl ?_
      refine ex_goto 25 dX9_name_20 (by decide) ?_
      refine cd9_239 (f' := f - 1) rfl dX9_name_25 (Nat.le_of_ble_eq_true rfl) ((fx9 hS.X)) (by omega) (by first | exact hs0 | exact hs1) ?_
      refine ex_goto 38 dX9_name_28 (by decide) ?_
      refine al0 dX9_name_38 (by first | nofun | exact xrv_ne _) ?_
      refine gf9_43 rfl dX9_name_39 (fr0_5 hS.X) (fx0 hS.X) ?_
      refine gf9_247 rfl dX9_name_42 (fx9 hS.X) ?_
      refine ex_iret dX9_name_45 rfl ?_
      first
        | (have e := n0 h15; rw [e] at hS1 hM1 ⊢; exact ⟨by rw [oS_91], rfl, rfl, hS1, hM1⟩)
        | (have e := n1 h15; rw [e] at hS1 hM1 ⊢; exact ⟨by rw [oS_91], rfl, rfl, hS1, hM1⟩)
