theorem dJ9_max_7cf53_0 : decode cJ9_max_7cf53 0 = .ok (.iload_n 0, 1) := by decide +kernel
theorem dJ9_max_7cf53_1 : decode cJ9_max_7cf53 1 = .ok (.iload_n 1, 1) := by decide +kernel
theorem dJ9_max_7cf53_2 : decode cJ9_max_7cf53 2 = .ok (.if_icmp .lt 7, 3) := by decide +kernel
theorem dJ9_max_7cf53_5 : decode cJ9_max_7cf53 5 = .ok (.iload_n 0, 1) := by decide +kernel
theorem dJ9_max_7cf53_6 : decode cJ9_max_7cf53 6 = .ok (.goto 4, 3) := by decide +kernel
theorem dJ9_max_7cf53_9 : decode cJ9_max_7cf53 9 = .ok (.iload_n 1, 1) := by decide +kernel
theorem dJ9_max_7cf53_10 : decode cJ9_max_7cf53 10 = .ok (.ireturn, 1) := by decide +kernel
theorem dJ9_min_7cf53_0 : decode cJ9_min_7cf53 0 = .ok (.iload_n 0, 1) := by decide +kernel
theorem dJ9_min_7cf53_1 : decode cJ9_min_7cf53 1 = .ok (.iload_n 1, 1) := by decide +kernel
theorem dJ9_min_7cf53_2 : decode cJ9_min_7cf53 2 = .ok (.if_icmp .gt 7, 3) := by decide +kernel
theorem dJ9_min_7cf53_5 : decode cJ9_min_7cf53 5 = .ok (.iload_n 0, 1) := by decide +kernel
theorem dJ9_min_7cf53_6 : decode cJ9_min_7cf53 6 = .ok (.goto 4, 3) := by decide +kernel
theorem dJ9_min_7cf53_9 : decode cJ9_min_7cf53 9 = .ok (.iload_n 1, 1) := by decide +kernel
theorem dJ9_min_7cf53_10 : decode cJ9_min_7cf53 10 = .ok (.ireturn, 1) := by decide +kernel
/-! ===== THE JDK's OWN METHODS on text constants ===== -/
theorem xl_shr : ∀ i, i < 9 → nI (xLen.getD i 0) >>> ((0 : Int32) &&& 31) = nI (xLen.getD i 0) := by decide +kernel
theorem xl_lt : ∀ i, i < 9 → xLen.getD i 0 < 11 := by decide +kernel
theorem xb_c : ∀ i, i < 9 → ∀ k, k < xLen.getD i 0 → (((xByt.getD i []).getD k 0 &&& 255).toUInt32 % 65536).toInt32 = (xByt.getD i []).getD k 0 ∧ narrow .char (.int ((xByt.getD i []).getD k 0)) = .int ((xByt.getD i []).getD k 0) := by decide +kernel
set_option maxRecDepth 20000 in
set_option maxHeartbeats 1000000 in
theorem j_coder {Γ : xGm} {l : Launch} {f : Nat} {G : xG} {D : xD} {R : xR} {i : Nat} (hi : i < 9) : Cn Γ l f MJ0_coder_7d493 [.ref (1000000 + i)] G D R 0 0 (xdet (some (.int 0)) G D R) := by
  refine cn_of MJ0_coder_7d493_ok (Nat.le_of_ble_eq_true rfl) ?_
  show Ex Γ l f MJ0_coder_7d493 0 [some (.ref (1000000 + i))] [] G D R 0 0 _
  refine skz rfl dJ0_coder_7d493_0 ?_
  refine ex_if_eq 13 dJ0_coder_7d493_3 (by decide) (fun h3 => ?_) (fun h3 => ?_)
  · exact absurd h3 (by decide)
  · refine al0 dJ0_coder_7d493_6 (by first | nofun | exact xrv_ne _) ?_
    refine skc hi rfl dJ0_coder_7d493_7 ?_
    refine ex_goto 14 dJ0_coder_7d493_10 (by decide) ?_
    refine ex_zret dJ0_coder_7d493_14 rfl (by decide) ?_
    exact ⟨rfl, rfl, rfl, rfl⟩
set_option maxRecDepth 20000 in
set_option maxHeartbeats 1000000 in
theorem j_length {Γ : xGm} {l : Launch} {f : Nat} {G : xG} {D : xD} {R : xR} (hf : 1 ≤ f) {i : Nat} (hi : i < 9) : Cn Γ l f MJ0_length_8abf5 [.ref (1000000 + i)] G D R 0 0 (xdet (some (.int (nI (xLen.getD i 0)))) G D R) := by
  refine cn_of MJ0_length_8abf5_ok (Nat.le_of_ble_eq_true rfl) ?_
  show Ex Γ l f MJ0_length_8abf5 0 [some (.ref (1000000 + i))] [] G D R 0 0 _
  refine al0 dJ0_length_8abf5_0 (by first | nofun | exact xrv_ne _) ?_
  refine skv hi rfl dJ0_length_8abf5_1 ?_
  refine ex_slen hi dJ0_length_8abf5_4 ?_
  refine al0 dJ0_length_8abf5_5 (by first | nofun | exact xrv_ne _) ?_
  refine cdJ0_335 (f' := f - 1) rfl dJ0_length_8abf5_6 (Nat.le_of_ble_eq_true rfl) hi (by omega) (j_coder hi) ?_
  refine ex_ishr dJ0_length_8abf5_9 ?_
  refine ex_iret dJ0_length_8abf5_10 rfl ?_
  refine ⟨?_, rfl, rfl, rfl⟩
  rw [xl_shr i hi]
set_option maxRecDepth 20000 in
set_option maxHeartbeats 1000000 in
theorem j_isL {Γ : xGm} {l : Launch} {f : Nat} {G : xG} {D : xD} {R : xR} {i : Nat} (hi : i < 9) : Cn Γ l f MJ0_isLatin1_aae02 [.ref (1000000 + i)] G D R 0 0 (xdet (some (.int (bi true))) G D R) := by
  refine cn_of MJ0_isLatin1_aae02_ok (Nat.le_of_ble_eq_true rfl) ?_
  show Ex Γ l f MJ0_isLatin1_aae02 0 [some (.ref (1000000 + i))] [] G D R 0 0 _
  refine skz rfl dJ0_isLatin1_aae02_0 ?_
  refine ex_if_eq 17 dJ0_isLatin1_aae02_3 (by decide) (fun h3 => ?_) (fun h3 => ?_)
  · exact absurd h3 (by decide)
  · refine al0 dJ0_isLatin1_aae02_6 (by first | nofun | exact xrv_ne _) ?_
    refine skc hi rfl dJ0_isLatin1_aae02_7 ?_
    refine ex_if_ne 17 dJ0_isLatin1_aae02_10 (by decide) (fun h10 => ?_) (fun h10 => ?_)
    · exact absurd rfl h10
    · refine ex_iconst (v := 1) dJ0_isLatin1_aae02_13 (by decide) ?_
      refine ex_goto 18 dJ0_isLatin1_aae02_14 (by decide) ?_
      refine ex_zret dJ0_isLatin1_aae02_18 rfl (by decide) ?_
      exact ⟨rfl, rfl, rfl, rfl⟩
set_option maxRecDepth 20000 in
set_option maxHeartbeats 1000000 in
theorem j_ck3 {Γ : xGm} {l : Launch} {f : Nat} {G : xG} {D : xD} {R : xR} {k n : Int32} (h0 : 0 ≤ k) (hn : ¬ n ≤ k) : Cn Γ l f MJ3_checkIndex_8e157 [.int k, .int n, xfm Γ] G D R 0 0 (xdet (some (.int k)) G D R) := by
  refine cn_of MJ3_checkIndex_8e157_ok (Nat.le_of_ble_eq_true rfl) ?_
  show Ex Γ l f MJ3_checkIndex_8e157 0 [some (.int k), some (.int n), some (xfm Γ)] [] G D R 0 0 _
  refine il0 dJ3_checkIndex_8e157_0 ?_
  refine ex_if_lt 9 dJ3_checkIndex_8e157_1 (by decide) (fun h1 => ?_) (fun h1 => ?_)
  · exact absurd h0 h1
  · refine il0 dJ3_checkIndex_8e157_4 ?_
    refine il1 dJ3_checkIndex_8e157_5 ?_
    refine ex_icmp_lt 16 dJ3_checkIndex_8e157_6 (by decide) (fun h6 => ?_) (fun h6 => ?_)
    · refine il0 dJ3_checkIndex_8e157_16 ?_
      refine ex_iret dJ3_checkIndex_8e157_17 rfl ?_
      exact ⟨rfl, rfl, rfl, rfl⟩
    · exact absurd h6 hn
set_option maxRecDepth 20000 in
set_option maxHeartbeats 1000000 in
theorem j_ck0 {Γ : xGm} {l : Launch} {f : Nat} {G : xG} {D : xD} {R : xR} (hf : 1 ≤ f) {k n : Int32} (h0 : 0 ≤ k) (hn : ¬ n ≤ k) : Cn Γ l f MJ0_checkIndex_df160 [.int k, .int n] G D R 0 0 (xdet none G D R) := by
  refine cn_of MJ0_checkIndex_df160_ok (Nat.le_of_ble_eq_true rfl) ?_
  show Ex Γ l f MJ0_checkIndex_df160 0 [some (.int k), some (.int n)] [] G D R 0 0 _
  refine il0 dJ0_checkIndex_df160_0 ?_
  refine il1 dJ0_checkIndex_df160_1 ?_
  refine skf rfl dJ0_checkIndex_df160_2 ?_
  refine cdJ0_1059 (f' := f - 1) rfl dJ0_checkIndex_df160_5 (Nat.le_of_ble_eq_true rfl) (by omega) (j_ck3 h0 hn) ?_
  refine ex_pop dJ0_checkIndex_df160_8 ?_
  refine ex_vret dJ0_checkIndex_df160_9 rfl ?_
  exact ⟨rfl, rfl, rfl, rfl⟩
theorem vi_not {k : Int32} {n : Nat} (h : vp_in k n) (hn : n < 2 ^ 31) : ¬ nI n ≤ k := fun q => by
  rw [vp_in_iff] at h
  rw [i32_le, nI_toInt hn] at q
  omega
set_option maxRecDepth 20000 in
set_option maxHeartbeats 1000000 in
theorem j_cA1 {Γ : xGm} {l : Launch} {f : Nat} {G : xG} {D : xD} {R : xR} (hf : 2 ≤ f) {i : Nat} (hi : i < 9) {k : Int32} (hk : vp_in k (xLen.getD i 0)) : Cn Γ l f MJ1_charAt_3b067 [.ref (1000009 + i), .int k] G D R 0 0 (xdet (some (.int ((xByt.getD i []).getD (ix k) 0))) G D R) := by
  refine cn_of MJ1_charAt_3b067_ok (Nat.le_of_ble_eq_true rfl) ?_
  show Ex Γ l f MJ1_charAt_3b067 0 [some (.ref (1000009 + i)), some (.int k)] [] G D R 0 0 _
  refine il1 dJ1_charAt_3b067_0 ?_
  refine al0 dJ1_charAt_3b067_1 (by first | nofun | exact xrv_ne _) ?_
  refine ex_slen hi dJ1_charAt_3b067_2 ?_
  refine cdJ1_9 (f' := f - 1) rfl dJ1_charAt_3b067_3 (Nat.le_of_ble_eq_true rfl) (by omega) (j_ck0 (by omega) (vi_0le hk) (vi_not hk (by have := xl_lt i hi; omega))) ?_
  refine al0 dJ1_charAt_3b067_6 (by first | nofun | exact xrv_ne _) ?_
  refine il1 dJ1_charAt_3b067_7 ?_
  refine ex_sbyt hi dJ1_charAt_3b067_8 hk ?_
  refine ex_sipush (v := 255) dJ1_charAt_3b067_9 (by decide) ?_
  refine ex_iand dJ1_charAt_3b067_12 ?_
  refine ex_i2c dJ1_charAt_3b067_13 ?_
  have hb := xb_c i hi (ix k) (vi_n hk (by have := xl_lt i hi; omega)).2
  rw [hb.1]
  refine ex_zret dJ1_charAt_3b067_14 rfl hb.2 ?_
  exact ⟨rfl, rfl, rfl, rfl⟩
set_option maxRecDepth 20000 in
set_option maxHeartbeats 1000000 in
theorem j_cA {Γ : xGm} {l : Launch} {f : Nat} {G : xG} {D : xD} {R : xR} (hf : 3 ≤ f) {i : Nat} (hi : i < 9) {k : Int32} (hk : vp_in k (xLen.getD i 0)) : Cn Γ l f MJ0_charAt_5068e [.ref (1000000 + i), .int k] G D R 0 0 (xdet (some (.int ((xByt.getD i []).getD (ix k) 0))) G D R) := by
  refine cn_of MJ0_charAt_5068e_ok (Nat.le_of_ble_eq_true rfl) ?_
  show Ex Γ l f MJ0_charAt_5068e 0 [some (.ref (1000000 + i)), some (.int k)] [] G D R 0 0 _
  refine al0 dJ0_charAt_5068e_0 (by first | nofun | exact xrv_ne _) ?_
  refine cdJ0_492 (f' := f - 1) rfl dJ0_charAt_5068e_1 (Nat.le_of_ble_eq_true rfl) hi (by omega) (j_isL hi) ?_
  refine ex_if_eq 16 dJ0_charAt_5068e_4 (by decide) (fun h4 => ?_) (fun h4 => ?_)
  · exact absurd h4 (by decide)
  · simp only [bi_0, Bool.not_eq_false] at h4
    refine al0 dJ0_charAt_5068e_7 (by first | nofun | exact xrv_ne _) ?_
    refine skv hi rfl dJ0_charAt_5068e_8 ?_
    refine il1 dJ0_charAt_5068e_11 ?_
    refine cdJ0_495 (f' := f - 1) rfl dJ0_charAt_5068e_12 (Nat.le_of_ble_eq_true rfl) (by omega) (j_cA1 (by omega) hi hk) ?_
    refine ex_zret dJ0_charAt_5068e_15 rfl (xb_c i hi (ix k) (vi_n hk (by have := xl_lt i hi; omega)).2).2 ?_
    exact ⟨rfl, rfl, rfl, rfl⟩
set_option maxRecDepth 20000 in
set_option maxHeartbeats 1000000 in
theorem j_can {Γ : xGm} {l : Launch} {f : Nat} {G : xG} {D : xD} {R : xR} {c : Int32} (h0 : 0 ≤ c) (hn : c ≤ 255) : Cn Γ l f MJ1_canEncode_9a6ad [.int c] G D R 0 0 (xdet (some (.int (bi true))) G D R) := by
  refine cn_of MJ1_canEncode_9a6ad_ok (Nat.le_of_ble_eq_true rfl) ?_
  show Ex Γ l f MJ1_canEncode_9a6ad 0 [some (.int c)] [] G D R 0 0 _
  refine il0 dJ1_canEncode_9a6ad_0 ?_
  refine ex_if_lt 15 dJ1_canEncode_9a6ad_1 (by decide) (fun h1 => ?_) (fun h1 => ?_)
  · exact absurd h0 h1
  · refine il0 dJ1_canEncode_9a6ad_4 ?_
    refine ex_sipush (v := 255) dJ1_canEncode_9a6ad_5 (by decide) ?_
    refine ex_icmp_gt 15 dJ1_canEncode_9a6ad_8 (by decide) (fun h8 => ?_) (fun h8 => ?_)
    · exact absurd hn h8
    · refine ex_iconst (v := 1) dJ1_canEncode_9a6ad_11 (by decide) ?_
      refine ex_goto 16 dJ1_canEncode_9a6ad_12 (by decide) ?_
      refine ex_zret dJ1_canEncode_9a6ad_16 rfl (by decide) ?_
      exact ⟨rfl, rfl, rfl, rfl⟩
set_option maxRecDepth 20000 in
set_option maxHeartbeats 1000000 in
theorem j_max {Γ : xGm} {l : Launch} {f : Nat} {G : xG} {D : xD} {R : xR} : Cn Γ l f MJ9_max_7cf53 [.int 0, .int 0] G D R 0 0 (xdet (some (.int 0)) G D R) := by
  refine cn_of MJ9_max_7cf53_ok (Nat.le_of_ble_eq_true rfl) ?_
  show Ex Γ l f MJ9_max_7cf53 0 [some (.int 0), some (.int 0)] [] G D R 0 0 _
  refine il0 dJ9_max_7cf53_0 ?_
  refine il1 dJ9_max_7cf53_1 ?_
  refine ex_icmp_lt 9 dJ9_max_7cf53_2 (by decide) (fun h2 => ?_) (fun h2 => ?_)
  · exact absurd (by decide) h2
  · refine il0 dJ9_max_7cf53_5 ?_
    refine ex_goto 10 dJ9_max_7cf53_6 (by decide) ?_
    refine ex_iret dJ9_max_7cf53_10 rfl ?_
    exact ⟨rfl, rfl, rfl, rfl⟩
set_option maxRecDepth 20000 in
set_option maxHeartbeats 1000000 in
theorem j_min {Γ : xGm} {l : Launch} {f : Nat} {G : xG} {D : xD} {R : xR} {n : Int32} : Cn Γ l f MJ9_min_7cf53 [.int n, .int n] G D R 0 0 (xdet (some (.int n)) G D R) := by
  refine cn_of MJ9_min_7cf53_ok (Nat.le_of_ble_eq_true rfl) ?_
  show Ex Γ l f MJ9_min_7cf53 0 [some (.int n), some (.int n)] [] G D R 0 0 _
  refine il0 dJ9_min_7cf53_0 ?_
  refine il1 dJ9_min_7cf53_1 ?_
  refine ex_icmp_gt 9 dJ9_min_7cf53_2 (by decide) (fun h2 => ?_) (fun h2 => ?_)
  · exact absurd (Int32.le_refl n) h2
  · refine il0 dJ9_min_7cf53_5 ?_
    refine ex_goto 10 dJ9_min_7cf53_6 (by decide) ?_
    refine ex_iret dJ9_min_7cf53_10 rfl ?_
    exact ⟨rfl, rfl, rfl, rfl⟩
def ixF (c : Int32) : List Int32 → Nat → Int32
  | [], _ => -1
  | b :: l, k => if b = c then nI k else ixF c l (k + 1)
theorem ixF_ge {c : Int32} : ∀ (l : List Int32) (k : Nat), k + l.length < 2 ^ 31 → (0 ≤ ixF c l k ↔ c ∈ l)
  | [], k, _ => by simp [ixF]
  | b :: l, k, h => by
    rw [ixF]
    split
    next e => simp [e]; exact nI_le (a := 0) (by omega) (by simp at h; omega)
    next e =>
      rw [ixF_ge l (k + 1) (by simp at h; omega)]
      simp
      exact fun q => absurd q.symm e
theorem xb_drop : ∀ k, k < 10 → (xByt.getD 4 []).drop k = (xByt.getD 4 []).getD k 0 :: (xByt.getD 4 []).drop (k + 1) := by decide +kernel
set_option maxRecDepth 20000 in
set_option maxHeartbeats 1000000 in
theorem j_ixC_lp {Γ : xGm} {l : Launch} {f : Nat} {G : xG} {D : xD} {R : xR} {c z : Int32} : ∀ (n k : Nat), k + n = 10 → Ex Γ l f MJ1_indexOfChar_4cfef 7 [some (.ref (1000009 + 4)), some (.int z), some (.int 0), some (.int (nI 10)), some (.int c), some (.int (nI k))] [] G D R 0 0 (xdet (some (.int (ixF c ((xByt.getD 4 []).drop k) k))) G D R) := by
  have hi : (4 : Nat) < 9 := by decide
  intro n
  induction n with
  | zero =>
    intro k hk
    have hk : k = 10 := by omega
    subst hk
    rw [show ixF c ((xByt.getD 4 []).drop 10) 10 = -1 from rfl]
    refine il5 dJ1_indexOfChar_4cfef_7 ?_
    refine il3 dJ1_indexOfChar_4cfef_9 ?_
    refine ex_icmp_ge 31 dJ1_indexOfChar_4cfef_10 (by decide) (fun h10 => ?_) (fun h10 => ?_)
    · refine ex_iconst (v := (-1)) dJ1_indexOfChar_4cfef_31 (by decide) ?_
      refine ex_iret dJ1_indexOfChar_4cfef_32 rfl ?_
      exact ⟨rfl, rfl, rfl, rfl⟩
    · exact absurd (by decide) h10
  | succ n ih =>
    intro k hk
    rw [xb_drop k (by omega), ixF]
    refine il5 dJ1_indexOfChar_4cfef_7 ?_
    refine il3 dJ1_indexOfChar_4cfef_9 ?_
    refine ex_icmp_ge 31 dJ1_indexOfChar_4cfef_10 (by decide) (fun h10 => ?_) (fun h10 => ?_)
    · exact absurd h10 (nI_ge (a := k) (b := 10) (by omega) (by decide))
    · refine al0 dJ1_indexOfChar_4cfef_13 (by first | nofun | exact xrv_ne _) ?_
      refine il5 dJ1_indexOfChar_4cfef_14 ?_
      refine ex_sbyt hi dJ1_indexOfChar_4cfef_16 (vi_of (n := k) (N := xLen.getD 4 0) (show k < 10 by omega) (by decide)) ?_
      rw [ix_nI (show k < 2 ^ 31 by omega)]
      refine il4 dJ1_indexOfChar_4cfef_17 ?_
      refine ex_icmp_ne 25 dJ1_indexOfChar_4cfef_19 (by decide) (fun h19 => ?_) (fun h19 => ?_)
      · refine ic5 (nI (k + 1)) dJ1_indexOfChar_4cfef_25 (nI_1 k) ?_
        refine ex_goto 7 dJ1_indexOfChar_4cfef_28 (by decide) ?_
        rw [if_neg h19]
        exact ih (k + 1) (by omega)
      · refine il5 dJ1_indexOfChar_4cfef_22 ?_
        refine ex_iret dJ1_indexOfChar_4cfef_24 rfl ?_
        refine ⟨?_, rfl, rfl, rfl⟩
        rw [if_pos h19]
set_option maxRecDepth 20000 in
set_option maxHeartbeats 1000000 in
theorem j_ixC {Γ : xGm} {l : Launch} {f : Nat} {G : xG} {D : xD} {R : xR} {c : Int32} (hc : c.toInt8.toInt32 = c) : Cn Γ l f MJ1_indexOfChar_4cfef [.ref (1000009 + 4), .int c, .int 0, .int (nI 10)] G D R 0 0 (xdet (some (.int (ixF c (xByt.getD 4 []) 0))) G D R) := by
  refine cn_of MJ1_indexOfChar_4cfef_ok (Nat.le_of_ble_eq_true rfl) ?_
  show Ex Γ l f MJ1_indexOfChar_4cfef 0 [some (.ref (1000009 + 4)), some (.int c), some (.int 0), some (.int (nI 10)), none, none] [] G D R 0 0 _
  refine il1 dJ1_indexOfChar_4cfef_0 ?_
  refine ex_i2b dJ1_indexOfChar_4cfef_1 ?_
  rw [hc]
  refine is4 dJ1_indexOfChar_4cfef_2 ?_
  refine il2 dJ1_indexOfChar_4cfef_4 ?_
  refine is5 dJ1_indexOfChar_4cfef_5 ?_
  exact j_ixC_lp 10 0 rfl
set_option maxRecDepth 20000 in
set_option maxHeartbeats 1000000 in
theorem j_ix1 {Γ : xGm} {l : Launch} {f : Nat} {G : xG} {D : xD} {R : xR} (hf : 1 ≤ f) {c : Int32} (hc : c.toInt8.toInt32 = c) (h0 : 0 ≤ c) (hn : c ≤ 255) : Cn Γ l f MJ1_indexOf_4cfef [.ref (1000009 + 4), .int c, .int 0, .int (nI 10)] G D R 0 0 (xdet (some (.int (ixF c (xByt.getD 4 []) 0))) G D R) := by
  have hi : (4 : Nat) < 9 := by decide
  refine cn_of MJ1_indexOf_4cfef_ok (Nat.le_of_ble_eq_true rfl) ?_
  show Ex Γ l f MJ1_indexOf_4cfef 0 [some (.ref (1000009 + 4)), some (.int c), some (.int 0), some (.int (nI 10))] [] G D R 0 0 _
  refine il1 dJ1_indexOf_4cfef_0 ?_
  refine cdJ1_88 (f' := f - 1) rfl dJ1_indexOf_4cfef_1 (Nat.le_of_ble_eq_true rfl) (by omega) (j_can h0 hn) ?_
  refine ex_if_ne 9 dJ1_indexOf_4cfef_4 (by decide) (fun h4 => ?_) (fun h4 => ?_)
  · simp only [bi_0, Bool.not_eq_false] at h4
    refine il2 dJ1_indexOf_4cfef_9 ?_
    refine ex_iconst (v := 0) dJ1_indexOf_4cfef_10 (by decide) ?_
    refine cdJ1_92 (f' := f - 1) rfl dJ1_indexOf_4cfef_11 (Nat.le_of_ble_eq_true rfl) (by omega) (j_max) ?_
    refine is2 dJ1_indexOf_4cfef_14 ?_
    refine il3 dJ1_indexOf_4cfef_15 ?_
    refine al0 dJ1_indexOf_4cfef_16 (by first | nofun | exact xrv_ne _) ?_
    refine ex_slen hi dJ1_indexOf_4cfef_17 ?_
    refine cdJ1_38 (f' := f - 1) rfl dJ1_indexOf_4cfef_18 (Nat.le_of_ble_eq_true rfl) (by omega) (j_min) ?_
    refine is3 dJ1_indexOf_4cfef_21 ?_
    refine il2 dJ1_indexOf_4cfef_22 ?_
    refine il3 dJ1_indexOf_4cfef_23 ?_
    refine ex_icmp_lt 29 dJ1_indexOf_4cfef_24 (by decide) (fun h24 => ?_) (fun h24 => ?_)
    · refine al0 dJ1_indexOf_4cfef_29 (by first | nofun | exact xrv_ne _) ?_
      refine il1 dJ1_indexOf_4cfef_30 ?_
      refine il2 dJ1_indexOf_4cfef_31 ?_
      refine il3 dJ1_indexOf_4cfef_32 ?_
      refine cdJ1_95 (f' := f - 1) rfl dJ1_indexOf_4cfef_33 (Nat.le_of_ble_eq_true rfl) (by omega) (j_ixC hc) ?_
      refine ex_iret dJ1_indexOf_4cfef_36 rfl ?_
      exact ⟨rfl, rfl, rfl, rfl⟩
    · exact absurd h24 (by decide)
  · exact absurd h4 (by decide)
set_option maxRecDepth 20000 in
set_option maxHeartbeats 1000000 in
theorem j_ix2 {Γ : xGm} {l : Launch} {f : Nat} {G : xG} {D : xD} {R : xR} (hf : 2 ≤ f) {c : Int32} (hc : c.toInt8.toInt32 = c) (h0 : 0 ≤ c) (hn : c ≤ 255) : Cn Γ l f MJ0_indexOf_7cf53 [.ref (1000000 + 4), .int c, .int 0] G D R 0 0 (xdet (some (.int (ixF c (xByt.getD 4 []) 0))) G D R) := by
  have hi : (4 : Nat) < 9 := by decide
  refine cn_of MJ0_indexOf_7cf53_ok (Nat.le_of_ble_eq_true rfl) ?_
  show Ex Γ l f MJ0_indexOf_7cf53 0 [some (.ref (1000000 + 4)), some (.int c), some (.int 0)] [] G D R 0 0 _
  refine al0 dJ0_indexOf_7cf53_0 (by first | nofun | exact xrv_ne _) ?_
  refine cdJ0_492 (f' := f - 1) rfl dJ0_indexOf_7cf53_1 (Nat.le_of_ble_eq_true rfl) hi (by omega) (j_isL hi) ?_
  refine ex_if_eq 23 dJ0_indexOf_7cf53_4 (by decide) (fun h4 => ?_) (fun h4 => ?_)
  · exact absurd h4 (by decide)
  · simp only [bi_0, Bool.not_eq_false] at h4
    refine al0 dJ0_indexOf_7cf53_7 (by first | nofun | exact xrv_ne _) ?_
    refine skv hi rfl dJ0_indexOf_7cf53_8 ?_
    refine il1 dJ0_indexOf_7cf53_11 ?_
    refine il2 dJ0_indexOf_7cf53_12 ?_
    refine al0 dJ0_indexOf_7cf53_13 (by first | nofun | exact xrv_ne _) ?_
    refine cdJ0_505 (f' := f - 1) rfl dJ0_indexOf_7cf53_14 (Nat.le_of_ble_eq_true rfl) hi (by omega) (j_length (by omega) hi) ?_
    refine cdJ0_637 (f' := f - 1) rfl dJ0_indexOf_7cf53_17 (Nat.le_of_ble_eq_true rfl) (by omega) (j_ix1 (by omega) hc h0 hn) ?_
    refine ex_goto 36 dJ0_indexOf_7cf53_20 (by decide) ?_
    refine ex_iret dJ0_indexOf_7cf53_36 rfl ?_
    exact ⟨rfl, rfl, rfl, rfl⟩
set_option maxRecDepth 20000 in
set_option maxHeartbeats 1000000 in
theorem j_ix {Γ : xGm} {l : Launch} {f : Nat} {G : xG} {D : xD} {R : xR} (hf : 3 ≤ f) {c : Int32} (hc : c.toInt8.toInt32 = c) (h0 : 0 ≤ c) (hn : c ≤ 255) : Cn Γ l f MJ0_indexOf_0f7a4 [.ref (1000000 + 4), .int c] G D R 0 0 (xdet (some (.int (ixF c (xByt.getD 4 []) 0))) G D R) := by
  have hi : (4 : Nat) < 9 := by decide
  refine cn_of MJ0_indexOf_0f7a4_ok (Nat.le_of_ble_eq_true rfl) ?_
  show Ex Γ l f MJ0_indexOf_0f7a4 0 [some (.ref (1000000 + 4)), some (.int c)] [] G D R 0 0 _
  refine al0 dJ0_indexOf_0f7a4_0 (by first | nofun | exact xrv_ne _) ?_
  refine il1 dJ0_indexOf_0f7a4_1 ?_
  refine ex_iconst (v := 0) dJ0_indexOf_0f7a4_2 (by decide) ?_
  refine cdJ0_633 (f' := f - 1) rfl dJ0_indexOf_0f7a4_3 (Nat.le_of_ble_eq_true rfl) hi (by omega) (j_ix2 (by omega) hc h0 hn) ?_
  refine ex_iret dJ0_indexOf_0f7a4_6 rfl ?_
  exact ⟨rfl, rfl, rfl, rfl⟩
theorem ix_vow {c : Int32} : 0 ≤ ixF c (xByt.getD 4 []) 0 ↔ sVowel c = true := by
  rw [ixF_ge _ _ (by decide)]
  show c ∈ [97, 101, 105, 111, 117, 65, 69, 73, 79, 85] ↔ _
  simp only [sVowel, Bool.or_eq_true, decide_eq_true_eq, List.mem_cons, List.not_mem_nil, or_false]
  constructor
  · rintro (h | h | h | h | h | h | h | h | h | h) <;> simp [h]
  · rintro (((((((((h | h) | h) | h) | h) | h) | h) | h) | h) | h) <;> simp [h]
def xfz (D : xD) (q n : Nat) : xD := fun p => if p = q then (fun j => if j < n then 0 else D q j) else D p
theorem xfz_0 (D : xD) (q : Nat) : xfz D q 0 = D := by
  funext p
  unfold xfz
  split
  next e => rw [e]; rfl
  next => rfl
theorem xfz_s (D : xD) (q k : Nat) : xdu (xfz D q k) q k 0 = xfz D q (k + 1) := by
  funext p
  by_cases h : p = q
  · subst h
    rw [xdu_self]
    unfold xfz
    rw [if_pos rfl, if_pos rfl]
    funext j
    unfold upd
    by_cases h2 : j = k
    · rw [if_pos h2, if_pos (by omega)]
    · rw [if_neg h2]
      by_cases h3 : j < k
      · simp [h3, show j < k + 1 by omega]
      · simp [h3, show ¬ j < k + 1 by omega]
  · rw [xdu_ne _ _ _ h]
    unfold xfz
    rw [if_neg h, if_neg h]
theorem xfz_ne {D : xD} {q n p : Nat} (h : p ≠ q) : xfz D q n p = D p := by unfold xfz; rw [if_neg h]
theorem xfz_self {D : xD} {q n j : Nat} (h : j < n) : xfz D q n q j = 0 := by unfold xfz; rw [if_pos rfl, if_pos h]
set_option maxRecDepth 20000 in
set_option maxHeartbeats 1000000 in
theorem j_fill_lp {Γ : xGm} {l : Launch} {f : Nat} {G : xG} {D : xD} {R : xR} {q N : Nat} (hq : xia G q 0 N) (hN : N < 2 ^ 31) : ∀ (n k : Nat), k + n = N → Ex Γ l f MJ7_fill_53178 5 [some (.ref q), some (.int 0), some (.int (nI k)), some (.int (nI N))] [] G (xfz D q k) R 0 0 (xdet none G (xfz D q N) R) := by
  intro n
  induction n with
  | zero =>
    intro k hk
    have hk : k = N := by omega
    subst hk
    refine il2 dJ7_fill_53178_5 ?_
    refine il3 dJ7_fill_53178_6 ?_
    refine ex_icmp_ge 20 dJ7_fill_53178_7 (by decide) (fun h7 => ?_) (fun h7 => ?_)
    · refine ex_vret dJ7_fill_53178_20 rfl ?_
      exact ⟨rfl, rfl, rfl, rfl⟩
    · exact absurd (Int32.le_refl _) h7
  | succ n ih =>
    intro k hk
    refine il2 dJ7_fill_53178_5 ?_
    refine il3 dJ7_fill_53178_6 ?_
    refine ex_icmp_ge 20 dJ7_fill_53178_7 (by decide) (fun h7 => ?_) (fun h7 => ?_)
    · exact absurd h7 (nI_ge (a := k) (b := N) (by omega) (by omega))
    · refine al0 dJ7_fill_53178_10 (by first | nofun | exact xrv_ne _) ?_
      refine il2 dJ7_fill_53178_11 ?_
      refine il1 dJ7_fill_53178_12 ?_
      refine ey_iast dJ7_fill_53178_13 hq (vi_of (n := k) (N := N) (by omega) hN) ?_
      rw [ix_nI (show k < 2 ^ 31 by omega), xfz_s]
      refine ic2 (nI (k + 1)) dJ7_fill_53178_14 (nI_1 k) ?_
      refine ex_goto 5 dJ7_fill_53178_17 (by decide) ?_
      exact ih (k + 1) (by omega)
set_option maxRecDepth 20000 in
set_option maxHeartbeats 1000000 in
theorem j_fill {Γ : xGm} {l : Launch} {f : Nat} {G : xG} {D : xD} {R : xR} {q N : Nat} (hq : xia G q 0 N) (hN : N < 2 ^ 31) : Cn Γ l f MJ7_fill_53178 [.ref q, .int 0] G D R 0 0 (xdet none G (xfz D q N) R) := by
  refine cn_of MJ7_fill_53178_ok (Nat.le_of_ble_eq_true rfl) ?_
  show Ex Γ l f MJ7_fill_53178 0 [some (.ref q), some (.int 0), none, none] [] G D R 0 0 _
  refine ex_iconst (v := 0) dJ7_fill_53178_0 (by decide) ?_
  refine is2 dJ7_fill_53178_1 ?_
  refine al0 dJ7_fill_53178_2 (by first | nofun | exact xrv_ne _) ?_
  refine ex_alen dJ7_fill_53178_3 (hq) (by decide) ?_
  refine is3 dJ7_fill_53178_4 ?_
  have h := j_fill_lp (Γ := Γ) (l := l) (f := f) (D := D) (R := R) hq hN N 0 (by omega)
  rw [xfz_0] at h
  exact h
theorem xor4 (i : Int32) : 0 ≤ i ^^^ 4 ↔ 0 ≤ i := by
  have h : ∀ x : Int32, 0 ≤ x ↔ x.toBitVec.msb = false := fun x => by
    rw [i32_le]
    show (0 : Int) ≤ x.toBitVec.toInt ↔ _
    rw [BitVec.msb_eq_toInt]
    simp
  rw [h, h, Int32.toBitVec_xor, BitVec.msb_xor]
  rw [show (4 : Int32).toBitVec.msb = false from rfl, Bool.xor_false]
def cDiv (i : Int32) : Int32 := if 0 ≤ i then i / 4 else if i / 4 * 4 = i then i / 4 else i / 4 - 1
def cMod (i : Int32) : Int32 := if 0 ≤ i then i - i / 4 * 4 else if i - i / 4 * 4 = 0 then i - i / 4 * 4 else i - i / 4 * 4 + 4
set_option maxRecDepth 20000 in
set_option maxHeartbeats 1000000 in
theorem j_fdiv {Γ : xGm} {l : Launch} {f : Nat} {G : xG} {D : xD} {R : xR} {i : Int32} : Cn Γ l f MJ9_floorDiv_7cf53 [.int i, .int 4] G D R 0 0 (xdet (some (.int (cDiv i))) G D R) := by
  refine cn_of MJ9_floorDiv_7cf53_ok (Nat.le_of_ble_eq_true rfl) ?_
  show Ex Γ l f MJ9_floorDiv_7cf53 0 [some (.int i), some (.int 4), none] [] G D R 0 0 _
  refine il0 dJ9_floorDiv_7cf53_0 ?_
  refine il1 dJ9_floorDiv_7cf53_1 ?_
  refine ex_idiv dJ9_floorDiv_7cf53_2 (by decide) ?_
  refine is2 dJ9_floorDiv_7cf53_3 ?_
  refine il0 dJ9_floorDiv_7cf53_4 ?_
  refine il1 dJ9_floorDiv_7cf53_5 ?_
  refine ex_ixor dJ9_floorDiv_7cf53_6 ?_
  refine ex_if_ge 21 dJ9_floorDiv_7cf53_7 (by decide) (fun h7 => ?_) (fun h7 => ?_)
  · rw [xor4] at h7
    refine il2 dJ9_floorDiv_7cf53_21 ?_
    refine ex_iret dJ9_floorDiv_7cf53_22 rfl ?_
    refine ⟨?_, rfl, rfl, rfl⟩
    simp [cDiv, *]
  · rw [xor4] at h7
    refine il2 dJ9_floorDiv_7cf53_10 ?_
    refine il1 dJ9_floorDiv_7cf53_11 ?_
    refine ex_imul dJ9_floorDiv_7cf53_12 ?_
    refine il0 dJ9_floorDiv_7cf53_13 ?_
    refine ex_icmp_eq 21 dJ9_floorDiv_7cf53_14 (by decide) (fun h14 => ?_) (fun h14 => ?_)
    · refine il2 dJ9_floorDiv_7cf53_21 ?_
      refine ex_iret dJ9_floorDiv_7cf53_22 rfl ?_
      refine ⟨?_, rfl, rfl, rfl⟩
      simp [cDiv, *]
    · refine il2 dJ9_floorDiv_7cf53_17 ?_
      refine ex_iconst (v := 1) dJ9_floorDiv_7cf53_18 (by decide) ?_
      refine ex_isub dJ9_floorDiv_7cf53_19 ?_
      refine ex_iret dJ9_floorDiv_7cf53_20 rfl ?_
      refine ⟨?_, rfl, rfl, rfl⟩
      simp [cDiv, *]
set_option maxRecDepth 20000 in
set_option maxHeartbeats 1000000 in
theorem j_fmod {Γ : xGm} {l : Launch} {f : Nat} {G : xG} {D : xD} {R : xR} {i : Int32} : Cn Γ l f MJ9_floorMod_7cf53 [.int i, .int 4] G D R 0 0 (xdet (some (.int (cMod i))) G D R) := by
  refine cn_of MJ9_floorMod_7cf53_ok (Nat.le_of_ble_eq_true rfl) ?_
  show Ex Γ l f MJ9_floorMod_7cf53 0 [some (.int i), some (.int 4), none] [] G D R 0 0 _
  refine il0 dJ9_floorMod_7cf53_0 ?_
  refine il1 dJ9_floorMod_7cf53_1 ?_
  refine ex_irem dJ9_floorMod_7cf53_2 (by decide) ?_
  refine is2 dJ9_floorMod_7cf53_3 ?_
  refine il0 dJ9_floorMod_7cf53_4 ?_
  refine il1 dJ9_floorMod_7cf53_5 ?_
  refine ex_ixor dJ9_floorMod_7cf53_6 ?_
  refine ex_if_ge 18 dJ9_floorMod_7cf53_7 (by decide) (fun h7 => ?_) (fun h7 => ?_)
  · rw [xor4] at h7
    refine il2 dJ9_floorMod_7cf53_18 ?_
    refine ex_iret dJ9_floorMod_7cf53_19 rfl ?_
    refine ⟨?_, rfl, rfl, rfl⟩
    simp [cMod, *]
  · rw [xor4] at h7
    refine il2 dJ9_floorMod_7cf53_10 ?_
    refine ex_if_eq 18 dJ9_floorMod_7cf53_11 (by decide) (fun h11 => ?_) (fun h11 => ?_)
    · refine il2 dJ9_floorMod_7cf53_18 ?_
      refine ex_iret dJ9_floorMod_7cf53_19 rfl ?_
      refine ⟨?_, rfl, rfl, rfl⟩
      simp [cMod, *]
    · refine il2 dJ9_floorMod_7cf53_14 ?_
      refine il1 dJ9_floorMod_7cf53_15 ?_
      refine ex_iadd dJ9_floorMod_7cf53_16 ?_
      refine ex_iret dJ9_floorMod_7cf53_17 rfl ?_
      refine ⟨?_, rfl, rfl, rfl⟩
      simp [cMod, *]
