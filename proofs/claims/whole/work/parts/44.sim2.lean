theorem sEnds_0 (r : Int32) : sEnds 0 r = false := by
  unfold sEnds
  rw [decide_eq_false (show ¬ (0 : Int32) = 12 by decide), decide_eq_false (show ¬ (0 : Int32) = 14 by decide)]
  rfl
theorem sEnds_1 (r : Int32) : sEnds 1 r = false := by
  unfold sEnds
  rw [decide_eq_false (show ¬ (1 : Int32) = 12 by decide), decide_eq_false (show ¬ (1 : Int32) = 14 by decide)]
  rfl
theorem sEnds_2 (r : Int32) : sEnds 2 r = false := by
  unfold sEnds
  rw [decide_eq_false (show ¬ (2 : Int32) = 12 by decide), decide_eq_false (show ¬ (2 : Int32) = 14 by decide)]
  rfl
theorem sEnds_3 (r : Int32) : sEnds 3 r = false := by
  unfold sEnds
  rw [decide_eq_false (show ¬ (3 : Int32) = 12 by decide), decide_eq_false (show ¬ (3 : Int32) = 14 by decide)]
  rfl
theorem sEnds_4 (r : Int32) : sEnds 4 r = false := by
  unfold sEnds
  rw [decide_eq_false (show ¬ (4 : Int32) = 12 by decide), decide_eq_false (show ¬ (4 : Int32) = 14 by decide)]
  rfl
theorem sEnds_5 (r : Int32) : sEnds 5 r = false := by
  unfold sEnds
  rw [decide_eq_false (show ¬ (5 : Int32) = 12 by decide), decide_eq_false (show ¬ (5 : Int32) = 14 by decide)]
  rfl
theorem sEnds_6 (r : Int32) : sEnds 6 r = false := by
  unfold sEnds
  rw [decide_eq_false (show ¬ (6 : Int32) = 12 by decide), decide_eq_false (show ¬ (6 : Int32) = 14 by decide)]
  rfl
theorem sEnds_7 (r : Int32) : sEnds 7 r = false := by
  unfold sEnds
  rw [decide_eq_false (show ¬ (7 : Int32) = 12 by decide), decide_eq_false (show ¬ (7 : Int32) = 14 by decide)]
  rfl
theorem sEnds_8 (r : Int32) : sEnds 8 r = false := by
  unfold sEnds
  rw [decide_eq_false (show ¬ (8 : Int32) = 12 by decide), decide_eq_false (show ¬ (8 : Int32) = 14 by decide)]
  rfl
theorem sEnds_9 (r : Int32) : sEnds 9 r = false := by
  unfold sEnds
  rw [decide_eq_false (show ¬ (9 : Int32) = 12 by decide), decide_eq_false (show ¬ (9 : Int32) = 14 by decide)]
  rfl
theorem sEnds_10 (r : Int32) : sEnds 10 r = false := by
  unfold sEnds
  rw [decide_eq_false (show ¬ (10 : Int32) = 12 by decide), decide_eq_false (show ¬ (10 : Int32) = 14 by decide)]
  rfl
theorem sEnds_11 (r : Int32) : sEnds 11 r = false := by
  unfold sEnds
  rw [decide_eq_false (show ¬ (11 : Int32) = 12 by decide), decide_eq_false (show ¬ (11 : Int32) = 14 by decide)]
  rfl
theorem sEnds_13 (r : Int32) : sEnds 13 r = false := by
  unfold sEnds
  rw [decide_eq_false (show ¬ (13 : Int32) = 12 by decide), decide_eq_false (show ¬ (13 : Int32) = 14 by decide)]
  rfl
section SIM2
variable {Γ : xGm} {l : Launch} {f : Nat} {G : xG} {D : xD} {R : xR} {Q : Option Value → xG → xD → xR → Prop}
theorem p_act_n (hX : xFix G R) (hf : 9 ≤ f) {n : Nat} (hr : PRun Γ l f G D R Q n) {S S2 E : xD} {t d : Nat} {a b q k o w r : Int32} (hI : Iv E) (hP : Pc S t d) (hn : d + 1 + n = 12) (ht : t ≤ 2 * d + 1) (hF : Fr S S2 t d q k o w r) (i : Nat) (hi : i < 15) (hc : sEnds (nI i) (sAct1 (sRun n) E (nI i) a b o w r).1 = false → ∀ S3, Fr S S3 t d q k o w (sAct1 (sRun n) E (nI i) a b o w r).1 → Gx Γ l f G D R Q S3 (sAct1 (sRun n) E (nI i) a b o w r).2) (he : sEnds (nI i) (sAct1 (sRun n) E (nI i) a b o w r).1 = true → Kx Γ l f G D R Q S t (sAct1 (sRun n) E (nI i) a b o w r)) : Gx Γ l f G D R Q (mAct S2 E t (nI i) a b).1 (mAct S2 E t (nI i) a b).2 := by
  obtain ⟨f31, f32, f39, f24, f25, f26, f27, f28, f29, fb⟩ := id hF
  match i, hi, hc, he with
  | 0, _, hc, he =>
    have hc : sEnds 0 (sAct1 (sRun n) E 0 a b o w r).1 = false → ∀ S3, Fr S S3 t d q k o w (sAct1 (sRun n) E 0 a b o w r).1 → Gx Γ l f G D R Q S3 (sAct1 (sRun n) E 0 a b o w r).2 := hc
    have he : sEnds 0 (sAct1 (sRun n) E 0 a b o w r).1 = true → Kx Γ l f G D R Q S t (sAct1 (sRun n) E 0 a b o w r) := he
    show Gx Γ l f G D R Q (mAct S2 E t 0 a b).1 (mAct S2 E t 0 a b).2
    rw [mAct_0]
    rw [sAct1_0] at hc he
    exact hc (sEnds_0 _) _ (hF.put _)
  | 1, _, hc, he =>
    have hc : sEnds 1 (sAct1 (sRun n) E 1 a b o w r).1 = false → ∀ S3, Fr S S3 t d q k o w (sAct1 (sRun n) E 1 a b o w r).1 → Gx Γ l f G D R Q S3 (sAct1 (sRun n) E 1 a b o w r).2 := hc
    have he : sEnds 1 (sAct1 (sRun n) E 1 a b o w r).1 = true → Kx Γ l f G D R Q S t (sAct1 (sRun n) E 1 a b o w r) := he
    show Gx Γ l f G D R Q (mAct S2 E t 1 a b).1 (mAct S2 E t 1 a b).2
    rw [mAct_1]
    rw [sAct1_1] at hc he
    rw [f28]
    exact hc (sEnds_1 _) _ (hF.put _)
  | 2, _, hc, he =>
    have hc : sEnds 2 (sAct1 (sRun n) E 2 a b o w r).1 = false → ∀ S3, Fr S S3 t d q k o w (sAct1 (sRun n) E 2 a b o w r).1 → Gx Γ l f G D R Q S3 (sAct1 (sRun n) E 2 a b o w r).2 := hc
    have he : sEnds 2 (sAct1 (sRun n) E 2 a b o w r).1 = true → Kx Γ l f G D R Q S t (sAct1 (sRun n) E 2 a b o w r) := he
    show Gx Γ l f G D R Q (mAct S2 E t 2 a b).1 (mAct S2 E t 2 a b).2
    rw [mAct_2]
    rw [sAct1_2] at hc he
    rw [f27]
    exact hc (sEnds_2 _) _ (hF.put _)
  | 3, _, hc, he =>
    have hc : sEnds 3 (sAct1 (sRun n) E 3 a b o w r).1 = false → ∀ S3, Fr S S3 t d q k o w (sAct1 (sRun n) E 3 a b o w r).1 → Gx Γ l f G D R Q S3 (sAct1 (sRun n) E 3 a b o w r).2 := hc
    have he : sEnds 3 (sAct1 (sRun n) E 3 a b o w r).1 = true → Kx Γ l f G D R Q S t (sAct1 (sRun n) E 3 a b o w r) := he
    show Gx Γ l f G D R Q (mAct S2 E t 3 a b).1 (mAct S2 E t 3 a b).2
    rw [mAct_3]
    rw [sAct1_3] at hc he
    rw [f29]
    exact hc (sEnds_3 _) _ (hF.put _)
  | 4, _, hc, he =>
    have hc : sEnds 4 (sAct1 (sRun n) E 4 a b o w r).1 = false → ∀ S3, Fr S S3 t d q k o w (sAct1 (sRun n) E 4 a b o w r).1 → Gx Γ l f G D R Q S3 (sAct1 (sRun n) E 4 a b o w r).2 := hc
    have he : sEnds 4 (sAct1 (sRun n) E 4 a b o w r).1 = true → Kx Γ l f G D R Q S t (sAct1 (sRun n) E 4 a b o w r) := he
    show Gx Γ l f G D R Q (mAct S2 E t 4 a b).1 (mAct S2 E t 4 a b).2
    rw [mAct_4]
    rw [sAct1_4] at hc he
    rw [f27]
    exact hc (sEnds_4 _) _ (hF.put _)
  | 5, _, hc, he =>
    have hc : sEnds 5 (sAct1 (sRun n) E 5 a b o w r).1 = false → ∀ S3, Fr S S3 t d q k o w (sAct1 (sRun n) E 5 a b o w r).1 → Gx Γ l f G D R Q S3 (sAct1 (sRun n) E 5 a b o w r).2 := hc
    have he : sEnds 5 (sAct1 (sRun n) E 5 a b o w r).1 = true → Kx Γ l f G D R Q S t (sAct1 (sRun n) E 5 a b o w r) := he
    show Gx Γ l f G D R Q (mAct S2 E t 5 a b).1 (mAct S2 E t 5 a b).2
    rw [mAct_5]
    rw [sAct1_5] at hc he
    rw [f27, f29]
    exact hc (sEnds_5 _) _ hF
  | 6, _, hc, he =>
    have hc : sEnds 6 (sAct1 (sRun n) E 6 a b o w r).1 = false → ∀ S3, Fr S S3 t d q k o w (sAct1 (sRun n) E 6 a b o w r).1 → Gx Γ l f G D R Q S3 (sAct1 (sRun n) E 6 a b o w r).2 := hc
    have he : sEnds 6 (sAct1 (sRun n) E 6 a b o w r).1 = true → Kx Γ l f G D R Q S t (sAct1 (sRun n) E 6 a b o w r) := he
    show Gx Γ l f G D R Q (mAct S2 E t 6 a b).1 (mAct S2 E t 6 a b).2
    rw [mAct_6]
    rw [sAct1_6] at hc he
    rw [f29]
    refine p_send hX hf hr hI ⟨f31, f32, f39⟩ hn (by omega) (fun S9 hs9 h9 ha9 => ?_)
    obtain ⟨b1, b2, b3⟩ := hF.back hs9
    refine g_run hX hf h9 (by omega) b1 b2 (hc (sEnds_6 _) _ ?_)
    rw [← ha9]
    exact b3
  | 7, _, hc, he =>
    have hc : sEnds 7 (sAct1 (sRun n) E 7 a b o w r).1 = false → ∀ S3, Fr S S3 t d q k o w (sAct1 (sRun n) E 7 a b o w r).1 → Gx Γ l f G D R Q S3 (sAct1 (sRun n) E 7 a b o w r).2 := hc
    have he : sEnds 7 (sAct1 (sRun n) E 7 a b o w r).1 = true → Kx Γ l f G D R Q S t (sAct1 (sRun n) E 7 a b o w r) := he
    show Gx Γ l f G D R Q (mAct S2 E t 7 a b).1 (mAct S2 E t 7 a b).2
    rw [mAct_7]
    rw [sAct1_7] at hc he
    rw [f27, f28]
    refine p_sendAs hr hI ⟨f31, f32, f39⟩ hn (by omega) (fun S9 hs9 h9 ha9 => ?_)
    obtain ⟨b1, b2, b3⟩ := hF.back hs9
    refine g_run hX hf h9 (by omega) b1 b2 (hc (sEnds_7 _) _ ?_)
    rw [← ha9]
    exact b3
  | 8, _, hc, he =>
    have hc : sEnds 8 (sAct1 (sRun n) E 8 a b o w r).1 = false → ∀ S3, Fr S S3 t d q k o w (sAct1 (sRun n) E 8 a b o w r).1 → Gx Γ l f G D R Q S3 (sAct1 (sRun n) E 8 a b o w r).2 := hc
    have he : sEnds 8 (sAct1 (sRun n) E 8 a b o w r).1 = true → Kx Γ l f G D R Q S t (sAct1 (sRun n) E 8 a b o w r) := he
    show Gx Γ l f G D R Q (mAct S2 E t 8 a b).1 (mAct S2 E t 8 a b).2
    rw [mAct_8]
    rw [sAct1_8] at hc he
    rw [f27, f29]
    exact hc (sEnds_8 _) _ hF
  | 9, _, hc, he =>
    have hc : sEnds 9 (sAct1 (sRun n) E 9 a b o w r).1 = false → ∀ S3, Fr S S3 t d q k o w (sAct1 (sRun n) E 9 a b o w r).1 → Gx Γ l f G D R Q S3 (sAct1 (sRun n) E 9 a b o w r).2 := hc
    have he : sEnds 9 (sAct1 (sRun n) E 9 a b o w r).1 = true → Kx Γ l f G D R Q S t (sAct1 (sRun n) E 9 a b o w r) := he
    show Gx Γ l f G D R Q (mAct S2 E t 9 a b).1 (mAct S2 E t 9 a b).2
    rw [mAct_9]
    rw [sAct1_9] at hc he
    rw [f29]
    exact hc (sEnds_9 _) _ (hF.put _)
  | 10, _, hc, he =>
    have hc : sEnds 10 (sAct1 (sRun n) E 10 a b o w r).1 = false → ∀ S3, Fr S S3 t d q k o w (sAct1 (sRun n) E 10 a b o w r).1 → Gx Γ l f G D R Q S3 (sAct1 (sRun n) E 10 a b o w r).2 := hc
    have he : sEnds 10 (sAct1 (sRun n) E 10 a b o w r).1 = true → Kx Γ l f G D R Q S t (sAct1 (sRun n) E 10 a b o w r) := he
    show Gx Γ l f G D R Q (mAct S2 E t 10 a b).1 (mAct S2 E t 10 a b).2
    rw [mAct_10]
    rw [sAct1_10] at hc he
    rw [f29]
    exact hc (sEnds_10 _) _ (hF.put _)
  | 11, _, hc, he =>
    have hc : sEnds 11 (sAct1 (sRun n) E 11 a b o w r).1 = false → ∀ S3, Fr S S3 t d q k o w (sAct1 (sRun n) E 11 a b o w r).1 → Gx Γ l f G D R Q S3 (sAct1 (sRun n) E 11 a b o w r).2 := hc
    have he : sEnds 11 (sAct1 (sRun n) E 11 a b o w r).1 = true → Kx Γ l f G D R Q S t (sAct1 (sRun n) E 11 a b o w r) := he
    show Gx Γ l f G D R Q (mAct S2 E t 11 a b).1 (mAct S2 E t 11 a b).2
    rw [mAct_11]
    rw [sAct1_11] at hc he
    rw [f29]
    exact hc (sEnds_11 _) _ (hF.put _)
  | 12, _, hc, he =>
    have hc : sEnds 12 (sAct1 (sRun n) E 12 a b o w r).1 = false → ∀ S3, Fr S S3 t d q k o w (sAct1 (sRun n) E 12 a b o w r).1 → Gx Γ l f G D R Q S3 (sAct1 (sRun n) E 12 a b o w r).2 := hc
    have he : sEnds 12 (sAct1 (sRun n) E 12 a b o w r).1 = true → Kx Γ l f G D R Q S t (sAct1 (sRun n) E 12 a b o w r) := he
    show Gx Γ l f G D R Q (mAct S2 E t 12 a b).1 (mAct S2 E t 12 a b).2
    rw [mAct_12]
    rw [sAct1_12] at hc he
    rw [f29]
    by_cases q : r = 0
    · rw [if_pos q]
      obtain ⟨e1, e2, e3⟩ := hF.ends hP.1 hP.2.1
      exact he (by unfold sEnds; rw [decide_eq_true (show (12 : Int32) = 12 from rfl), decide_eq_true q]; rfl) _ e1 e2 e3
    · rw [if_neg q]
      exact hc (by unfold sEnds; rw [decide_eq_false q, decide_eq_false (show ¬ (12 : Int32) = 14 by decide)]; rfl) _ hF
  | 13, _, hc, he =>
    have hc : sEnds 13 (sAct1 (sRun n) E 13 a b o w r).1 = false → ∀ S3, Fr S S3 t d q k o w (sAct1 (sRun n) E 13 a b o w r).1 → Gx Γ l f G D R Q S3 (sAct1 (sRun n) E 13 a b o w r).2 := hc
    have he : sEnds 13 (sAct1 (sRun n) E 13 a b o w r).1 = true → Kx Γ l f G D R Q S t (sAct1 (sRun n) E 13 a b o w r) := he
    show Gx Γ l f G D R Q (mAct S2 E t 13 a b).1 (mAct S2 E t 13 a b).2
    rw [mAct_13]
    rw [sAct1_13] at hc he
    rw [f29]
    exact hc (sEnds_13 _) _ hF
  | 14, _, hc, he =>
    have hc : sEnds 14 (sAct1 (sRun n) E 14 a b o w r).1 = false → ∀ S3, Fr S S3 t d q k o w (sAct1 (sRun n) E 14 a b o w r).1 → Gx Γ l f G D R Q S3 (sAct1 (sRun n) E 14 a b o w r).2 := hc
    have he : sEnds 14 (sAct1 (sRun n) E 14 a b o w r).1 = true → Kx Γ l f G D R Q S t (sAct1 (sRun n) E 14 a b o w r) := he
    show Gx Γ l f G D R Q (mAct S2 E t 14 a b).1 (mAct S2 E t 14 a b).2
    rw [mAct_14]
    rw [sAct1_14] at hc he
    rw [f29]
    by_cases q : sIsOf E r a = true
    · rw [if_pos q]
      obtain ⟨e1, e2, e3⟩ := (hF.put (bi (sIsOf E r a))).ends hP.1 hP.2.1
      exact he (by unfold sEnds; rw [q, decide_eq_false (show ¬ (14 : Int32) = 12 by decide), decide_eq_true (show (14 : Int32) = 14 from rfl)]; rfl) _ e1 e2 e3
    · rw [if_neg q]
      have q2 : sIsOf E r a = false := by simpa using q
      exact hc (by unfold sEnds; rw [q2, decide_eq_false (show ¬ (14 : Int32) = 12 by decide), decide_eq_true (show (14 : Int32) = 14 from rfl)]; rfl) _ (hF.put _)
theorem p_acts (hX : xFix G R) (hf : 9 ≤ f) {n : Nat} (hr : PRun Γ l f G D R Q n) {S : xD} {t d : Nat} {q o w : Int32} (hP : Pc S t d) (hn : d + 1 + n = 12) (ht : t ≤ 2 * d + 1) (hq : vp_in q 20) : ∀ (m k : Nat) (res : Int32) (E S3 : xD), Iv E → Fr S S3 t d q (nI k) o w res → E 4 (ix q) = nI (k + m) → k + m ≤ 8 → Kx Γ l f G D R Q S t (sActs (sRun n) E q o w (nI k) res m) → Gx Γ l f G D R Q S3 E := by
  intro m
  induction m with
  | zero =>
    intro k res E S3 hI hF h4 hk hK
    obtain ⟨f31, f32, f39, f24, f25, f26, f27, f28, f29, fb⟩ := id hF
    refine g_step hX hf hI f39 (t := t) (by omega) f31 (by rw [f31]; exact vi_of (by omega) (by decide)) (by rw [f31, nI_1]; exact vi_of (by omega) (by decide)) (by rw [f25]; exact hq) (fun z => absurd (by rw [f26, f25, h4]; rfl) z) ?_
    unfold mStep
    rw [if_pos (by rw [f26, f25, h4]; rfl)]
    obtain ⟨e1, e2, e3⟩ := hF.ends hP.1 hP.2.1
    exact hK _ e1 e2 e3
  | succ m ih =>
    intro k res E S3 hI hF h4 hk hK
    obtain ⟨f31, f32, f39, f24, f25, f26, f27, f28, f29, fb⟩ := id hF
    have hne : ¬ S3 26 t = E 4 (ix (S3 25 t)) := by
      rw [f26, f25, h4]
      exact fun z => absurd ((nI_eq (by omega) (by omega)).mp z) (by omega)
    refine g_step hX hf hI f39 (t := t) (by omega) f31 (by rw [f31]; exact vi_of (by omega) (by decide)) (by rw [f31, nI_1]; exact vi_of (by omega) (by decide)) (by rw [f25]; exact hq) (fun _ => by rw [f26]; exact vi_of (by omega) (by decide)) ?_
    unfold mStep
    rw [if_neg hne]
    rw [sActs] at hK
    by_cases h200 : E 0 41 = 200
    · rw [if_pos h200] at hK ⊢
      rw [f27]
      obtain ⟨e1, e2, e3⟩ := hF.ends hP.1 hP.2.1
      exact hK _ e1 e2 e3
    · rw [if_neg h200] at hK ⊢
      rw [f25, f26, nI_1]
      have k1 := hI.kacts h200
      have hat := vi_ln (N := 160) 8 hq (vi_of (n := k) (N := 8) (by omega) (by decide)) (by decide) (by decide) (by decide) (by decide)
      obtain ⟨ec, lc⟩ := vi_n (hI.1.a5 (vi_n hat.1 (by decide)).2) (by decide)
      have ec : E 5 (ix (8 * q + nI k)) = nI (ix (E 5 (ix (8 * q + nI k)))) := ec
      have lc : ix (E 5 (ix (8 * q + nI k))) < 15 := lc
      generalize hcn : ix (E 5 (ix (8 * q + nI k))) = i at ec lc
      rw [ec] at hK ⊢
      refine p_act_n hX hf hr k1.1 hP hn ht (hF.next (nI (k + 1))) i lc (fun he S4 hF4 => ?_) (fun he => ?_)
      · rw [if_neg (by rw [he]; decide), nI_1] at hK
        have k2 := k1.tr (ik_act1 (c := nI i) (a := E 6 (ix (8 * q + nI k))) (b := E 7 (ix (8 * q + nI k))) (o := o) (w := w) (r := res) (ik_run n) k1.1)
        exact ih (k + 1) _ _ S4 k2.1 hF4 (by rw [k2.2.1.1, h4]; congr 1; omega) (by omega) hK
      · rw [if_pos he] at hK
        exact hK
theorem p_run (hX : xFix G R) (hf : 9 ≤ f) : ∀ n, PRun Γ l f G D R Q n
  | 0, S, E, t, d, v, o, w, hI, hP, hn, ht, h4, hK => by
    unfold mRuns
    rw [if_pos (by rw [hP.2.1, show d = 12 by omega]; rfl)]
    exact hK.ans
  | n + 1, S, E, t, d, v, o, w, hI, hP, hn, ht, h4, hK => by
    unfold mRuns
    rw [if_neg (by rw [hP.2.1]; exact fun z => absurd ((nI_eq (a := d) (b := 12) (by omega) (by decide)).mp z) (by omega))]
    have hq := vi_rout hI.1 h4
    have e4 := vi_n (hI.1.a4 (vi_n hq (by decide)).2) (by decide)
    exact p_acts hX hf (p_run hX hf n) hP (by omega) ht hq (ix (E 4 (ix (v - 201)))) 0 0 E _ hI (mPush_f hP (by omega) v o w) (by rw [Nat.zero_add]; exact e4.1) (by omega) hK
end SIM2
theorem ms_id (E : xD) : ms E E = E := by
  funext j k
  unfold ms
  split <;> rfl
/-- the reference's answer: the pile is whatever it is -/
def qAns (G : xG) (D : xD) (R : xR) (r : Int32 × xD) : Option Value → xG → xD → xR → Prop := fun v G' D' R' => ∃ S', v = some (.int r.1) ∧ G' = G ∧ D' = mg D (ms S' r.2) ∧ R' = R
theorem q_goes {Γ : xGm} {l : Launch} {f : Nat} {G : xG} {D S E : xD} {R : xR} {r : Int32 × xD} (h : Gx Γ l f G D R (qAns G D R r) S E) : Cn Γ l f MX10_goes [.ref 17] G (mg D (ms S E)) R 0 0 (qAns G D R r) := by
  refine cn_of MX10_goes_ok (Nat.le_of_ble_eq_true rfl) ?_
  exact h
theorem k_top {Γ : xGm} {l : Launch} {f : Nat} {G : xG} {D S : xD} {R : xR} (hX : xFix G R) (hf : 9 ≤ f) (h31 : S 0 31 = 0) (r : Int32 × xD) : Kx Γ l f G D R (qAns G D R r) S 0 r := fun S' hs h39 ha => g_done hX hf h39 (hs.1.trans h31) ⟨S', by rw [ha], rfl, rfl, rfl⟩
theorem begin_P (S : xD) : Pc (xdu (xdu (xdu S 0 31 0) 0 32 0) 0 39 0) 0 0 := ⟨by rw [xdu_self, upd_ne _ _ (by decide), xdu_self, upd_ne _ _ (by decide), xdu_self, upd_self]; rfl, by rw [xdu_self, upd_ne _ _ (by decide), xdu_self, upd_self]; rfl, by rw [xdu_self, upd_self]⟩
theorem Iv.begin {E : xD} (h : Iv E) : Iv (sBegin E) := (h.n41 (vi_of (n := 0) (by decide) (by decide))).spent
theorem v0_40 {S : xD} {t d : Nat} (h : Pc S t d) (ht : t < 39) : vp_in (S 0 31) 40 ∧ vp_in (S 0 31 + 1) 40 := ⟨by rw [h.1]; exact vi_of (by omega) (by decide), by rw [h.1, nI_1]; exact vi_of (by omega) (by decide)⟩
set_option maxRecDepth 20000 in
set_option maxHeartbeats 1000000 in
theorem q_send {Γ : xGm} {l : Launch} {f : Nat} {G : xG} {D S E : xD} {R : xR} (hX : xFix G R) (hf : 11 ≤ f) (hI : Iv E) {o n w : Int32} : Cn Γ l f MX10_send [.ref 17, .int o, .int n, .int w] G (mg D (ms S E)) R 0 0 (qAns G D R (sSend (sRun 12) (sBegin E) o n w)) := by
  refine cn_of MX10_send_ok (Nat.le_of_ble_eq_true rfl) ?_
  show Ex Γ l f MX10_send 0 [some (.ref 17), some (.int o), some (.int n), some (.int w)] [] G (mg D (ms S E)) R 0 0 _
  refine al0 dX10_send_0 (by first | nofun | exact xrv_ne _) ?_
  refine cd10_258 (f' := f - 1) rfl dX10_send_1 (Nat.le_of_ble_eq_true rfl) (fx17 hX) (by omega) (q_begins hX) ?_
  refine al0 dX10_send_4 (by first | nofun | exact xrv_ne _) ?_
  refine il1 dX10_send_5 ?_
  refine il2 dX10_send_6 ?_
  refine il3 dX10_send_7 ?_
  refine cd10_237 (f' := f - 1) rfl dX10_send_8 (Nat.le_of_ble_eq_true rfl) (fx17 hX) (by omega) (q_sends hX (by omega) hI.begin (v0_40 (begin_P S) (by decide)).1 (v0_40 (begin_P S) (by decide)).2) ?_
  refine al0 dX10_send_11 (by first | nofun | exact xrv_ne _) ?_
  refine cs10_261 (f' := f - 1) rfl dX10_send_12 (Nat.le_of_ble_eq_true rfl) (fx17 hX) (by omega) (Nat.zero_le _) (Nat.zero_le _) (q_goes (p_send hX (by omega) (p_run hX (by omega) 12) (t := 0) (d := 0) hI.begin (begin_P S) (by decide) (by decide) (k_top hX (by omega) (begin_P S).1 _))) ?_
  rintro v G' D' R' ⟨S', rfl, rfl, rfl, rfl⟩
  refine ex_iret dX10_send_15 rfl ?_
  exact ⟨S', rfl, rfl, rfl, rfl⟩
set_option maxRecDepth 20000 in
set_option maxHeartbeats 1000000 in
theorem q_sendAs {Γ : xGm} {l : Launch} {f : Nat} {G : xG} {D S E : xD} {R : xR} (hX : xFix G R) (hf : 11 ≤ f) (hI : Iv E) {g o n w : Int32} : Cn Γ l f MX10_sendAs [.ref 17, .int g, .int o, .int n, .int w] G (mg D (ms S E)) R 0 0 (qAns G D R (sSendAs (sRun 12) (sBegin E) g o n w)) := by
  refine cn_of MX10_sendAs_ok (Nat.le_of_ble_eq_true rfl) ?_
  show Ex Γ l f MX10_sendAs 0 [some (.ref 17), some (.int g), some (.int o), some (.int n), some (.int w)] [] G (mg D (ms S E)) R 0 0 _
  refine al0 dX10_sendAs_0 (by first | nofun | exact xrv_ne _) ?_
  refine cd10_258 (f' := f - 1) rfl dX10_sendAs_1 (Nat.le_of_ble_eq_true rfl) (fx17 hX) (by omega) (q_begins hX) ?_
  refine al0 dX10_sendAs_4 (by first | nofun | exact xrv_ne _) ?_
  refine il1 dX10_sendAs_5 ?_
  refine il2 dX10_sendAs_6 ?_
  refine il3 dX10_sendAs_7 ?_
  refine il4 dX10_sendAs_8 ?_
  refine cd10_240 (f' := f - 1) rfl dX10_sendAs_10 (Nat.le_of_ble_eq_true rfl) (fx17 hX) (by omega) (q_sendsAs hX (by omega) hI.begin (v0_40 (begin_P S) (by decide)).1) ?_
  refine al0 dX10_sendAs_13 (by first | nofun | exact xrv_ne _) ?_
  refine cs10_261 (f' := f - 1) rfl dX10_sendAs_14 (Nat.le_of_ble_eq_true rfl) (fx17 hX) (by omega) (Nat.zero_le _) (Nat.zero_le _) (q_goes (p_sendAs (p_run hX (by omega) 12) (t := 0) (d := 0) hI.begin (begin_P S) (by decide) (by decide) (k_top hX (by omega) (begin_P S).1 _))) ?_
  rintro v G' D' R' ⟨S', rfl, rfl, rfl, rfl⟩
  refine ex_iret dX10_sendAs_17 rfl ?_
  exact ⟨S', rfl, rfl, rfl, rfl⟩
