section KS
variable {Γ : xGm} {l : Launch} {f f' : Nat} {μ μ' : xMt} {pc : Nat} {L : List (Option Value)} {st rest : List Value} {G : xG} {D : xD} {R : xR} {kc kw kc' kw' n idx : Nat} {Q Q' : Option Value → xG → xD → xR → Prop}
def xfm (Γ : xGm) : Value := if Γ.2.2.2 0 = 0 then .null else .ref 1000018
theorem xfm_ne : ∀ x : Int32, xfm Γ ≠ .int x := by
  intro x
  unfold xfm
  split <;> nofun
theorem xfm_ok : xok G (xfm Γ) := by
  unfold xfm
  split
  · trivial
  · exact Or.inr (by decide)
theorem ex_sval {i : Nat} (hi : i < 9) (hd : decode μ.2.1 pc = .ok (.getfield idx, 3)) (hl : Cond.fieldLink μ.1.cls idx "java/lang/String" "value" "[B" ∈ xT) (kk : Ex Γ l f μ (pc + 3) L (.ref (1000009 + i) :: st) G D R kc kw Q) : Ex Γ l f μ pc L (.ref (1000000 + i) :: st) G D R kc kw Q := by
  intro p e s m args below meth c0 A Qc H locs ls cells slots C0 S ad hF hS hQ
  obtain ⟨hx, hb, hml, hown, hts, hlk, hrt, hnm, hK, hE, hA⟩ := id hF
  have hk := kk p e s m args below meth c0 A Qc H locs ls cells slots C0 S ad hF (hS.ps (xo_c (show xok G (.ref (1000009 + i)) from Or.inr (show 1000000 ≤ 1000009 + i by omega)) (xo_t hS.ok))) hQ
  have e1 : ad (1000000 + i) = Γ.2.2.1 i := hS.2.1 i
  have e2 : ad (1000009 + i) = Γ.2.2.1 (9 + i) := by
    have := hS.2.1 (9 + i)
    rwa [show 1000000 + (9 + i) = 1000009 + i by omega] at this
  rw [List.map_cons, show xtv ad (.ref (1000009 + i)) = .ref (Γ.2.2.1 (9 + i)) from by rw [← e2]; rfl] at hk
  rw [List.map_cons, show xtv ad (.ref (1000000 + i)) = .ref (Γ.2.2.1 i) from by rw [← e1]; rfl]
  exact vk_getf hx hb (hE.2.2.2.1.1 i hi).2.2.1 hS.1.2.2 hown (hts _ hl) (fun x h => h) hd hk
theorem ex_scod {i : Nat} (hi : i < 9) (hd : decode μ.2.1 pc = .ok (.getfield idx, 3)) (hl : Cond.fieldLink μ.1.cls idx "java/lang/String" "coder" "B" ∈ xT) (kk : Ex Γ l f μ (pc + 3) L (.int 0 :: st) G D R kc kw Q) : Ex Γ l f μ pc L (.ref (1000000 + i) :: st) G D R kc kw Q := by
  intro p e s m args below meth c0 A Qc H locs ls cells slots C0 S ad hF hS hQ
  obtain ⟨hx, hb, hml, hown, hts, hlk, hrt, hnm, hK, hE, hA⟩ := id hF
  have hk := kk p e s m args below meth c0 A Qc H locs ls cells slots C0 S ad hF (hS.ps (xo_i (xo_t hS.ok))) hQ
  have e1 : ad (1000000 + i) = Γ.2.2.1 i := hS.2.1 i
  rw [List.map_cons, show xtv ad (.ref (1000000 + i)) = .ref (Γ.2.2.1 i) from by rw [← e1]; rfl]
  exact vk_getf hx hb (hE.2.2.2.1.1 i hi).2.1 hS.1.2.2 hown (hts _ hl) (fun x h => h) hd hk
theorem ex_scom (hd : decode μ.2.1 pc = .ok (.getstatic idx, 3)) (hl : Cond.fieldLink μ.1.cls idx "java/lang/String" "COMPACT_STRINGS" "Z" ∈ xT) (kk : Ex Γ l f μ (pc + 3) L (.int 1 :: st) G D R kc kw Q) : Ex Γ l f μ pc L st G D R kc kw Q := by
  intro p e s m args below meth c0 A Qc H locs ls cells slots C0 S ad hF hS hQ
  obtain ⟨hx, hb, hml, hown, hts, hlk, hrt, hnm, hK, hE, hA⟩ := id hF
  have hk := kk p e s m args below meth c0 A Qc H locs ls cells slots C0 S ad hF (hS.ps (xo_i hS.ok)) hQ
  exact va_gets hx hb hE.2.2.2.2.1 hS.1.2.2 hown (hts _ hl) (fun x h => h) hd hk
theorem ex_sfmt (hd : decode μ.2.1 pc = .ok (.getstatic idx, 3)) (hl : Cond.fieldLink μ.1.cls idx "jdk/internal/util/Preconditions" "SIOOBE_FORMATTER" "Ljava/util/function/BiFunction;" ∈ xT) (kk : Ex Γ l f μ (pc + 3) L (xfm Γ :: st) G D R kc kw Q) : Ex Γ l f μ pc L st G D R kc kw Q := by
  intro p e s m args below meth c0 A Qc H locs ls cells slots C0 S ad hF hS hQ
  obtain ⟨hx, hb, hml, hown, hts, hlk, hrt, hnm, hK, hE, hA⟩ := id hF
  have hk := kk p e s m args below meth c0 A Qc H locs ls cells slots C0 S ad hF (hS.ps (xo_c xfm_ok hS.ok)) hQ
  have e1 : xtv ad (xfm Γ) = (if Γ.2.2.2 0 = 0 then .null else .ref (Γ.2.2.1 18)) := by
    unfold xfm
    split
    · rfl
    · show Value.ref (ad 1000018) = _
      rw [← hS.2.1 18]
  rw [List.map_cons, e1] at hk
  exact va_gets hx hb hE.2.2.2.2.2.1 hS.1.2.2 hown (hts _ hl) (fun x h => h) hd hk
theorem ex_slen {i : Nat} (hi : i < 9) (hd : decode μ.2.1 pc = .ok (.arraylength, 1)) (kk : Ex Γ l f μ (pc + 1) L (.int (nI (xLen.getD i 0)) :: st) G D R kc kw Q) : Ex Γ l f μ pc L (.ref (1000009 + i) :: st) G D R kc kw Q := by
  intro p e s m args below meth c0 A Qc H locs ls cells slots C0 S ad hF hS hQ
  obtain ⟨hx, hb, hml, hown, hts, hlk, hrt, hnm, hK, hE, hA⟩ := id hF
  have hk := kk p e s m args below meth c0 A Qc H locs ls cells slots C0 S ad hF (hS.ps (xo_i (xo_t hS.ok))) hQ
  have e2 : ad (1000009 + i) = Γ.2.2.1 (9 + i) := by
    have := hS.2.1 (9 + i)
    rwa [show 1000000 + (9 + i) = 1000009 + i by omega] at this
  rw [List.map_cons, show xtv ad (.ref (1000009 + i)) = .ref (Γ.2.2.1 (9 + i)) from by rw [← e2]; rfl]
  exact va_tlen hx hb (hE.2.2.2.1.1 i hi).2.2.2 hS.1.2.2 rfl hd hk
theorem ex_sbyt {i : Nat} {k : Int32} (hi : i < 9) (hd : decode μ.2.1 pc = .ok (.baload, 1)) (hk0 : vp_in k (xLen.getD i 0)) (kk : Ex Γ l f μ (pc + 1) L (.int ((xByt.getD i []).getD (ix k) 0) :: st) G D R kc kw Q) : Ex Γ l f μ pc L (.int k :: .ref (1000009 + i) :: st) G D R kc kw Q := by
  intro p e s m args below meth c0 A Qc H locs ls cells slots C0 S ad hF hS hQ
  obtain ⟨hx, hb, hml, hown, hts, hlk, hrt, hnm, hK, hE, hA⟩ := id hF
  have hk := kk p e s m args below meth c0 A Qc H locs ls cells slots C0 S ad hF (hS.ps (xo_i (xo_t (xo_t hS.ok)))) hQ
  have e2 : ad (1000009 + i) = Γ.2.2.1 (9 + i) := by
    have := hS.2.1 (9 + i)
    rwa [show 1000000 + (9 + i) = 1000009 + i by omega] at this
  rw [List.map_cons, List.map_cons, show xtv ad (.ref (1000009 + i)) = .ref (Γ.2.2.1 (9 + i)) from by rw [← e2]; rfl]
  exact va_tb hx hb (hE.2.2.2.1.1 i hi).2.2.2 hS.1.2.2 hk0 rfl hd hk
/-- invokevirtual on a text constant -/
theorem ex_callK (As : List Value) (rest : List Value) {i : Nat} (hi9 : i < 9) (hd : decode μ.2.1 pc = .ok (.invokevirtual idx, 3)) (hok : xOk μ' n) (hi : Cond.instanceMethod μ'.1 ∈ xT) (hs : Cond.selects μ'.1.cls μ'.1 μ'.1 ∈ xT) (hl : Cond.methodLink μ.1.cls idx μ'.1 ∈ xT) (hst : st = As.reverse ++ .ref (1000000 + i) :: rest) (hn : As.length = n) (hrest : rest.length ≤ 8) (hr : μ'.1.cls = "java/lang/String") (hf : f' + 1 ≤ f) (hkc : kc' ≤ kc) (hkw : kw' ≤ kw) (hC : Cn Γ l f' μ' (.ref (1000000 + i) :: As) G D R kc' kw' Q')
    (kk : ∀ (v : Option Value) (G' : xG) (D' : xD) (R' : xR), Q' v G' D' R' → Ex Γ l f μ (pc + 3) L (v.toList ++ rest) G' D' R' (kc - kc') (kw - kw') Q) : Ex Γ l f μ pc L st G D R kc kw Q := by
  intro p e s m args below meth c0 A Qc H locs ls cells slots C0 S ad hF hS hQ
  obtain ⟨hx, hb, hml, hown, hts, hlk, hrt, hnm, hK, hE, hA⟩ := id hF
  have hbd := hS.2.2.2.2.2.2
  have hoks := xrest (rest := rest) (by rw [← hst]; exact hS.ok)
  have hM := hC (by omega) hS.2.2.1 hoks.2 ad H.size hS.2.1
  obtain ⟨-, hpr⟩ := xpre (vs := .ref (1000000 + i) :: As) hF hS
  have hcw : CallW (xRm f C0 S) s args μ.1.cls μ'.1.cls idx μ'.1 μ'.2.1 μ'.2.2.1 μ'.2.2.2 (xWs μ') (xRm f' kc' kw') kc' kw' n := ⟨callB_of n hts (xgood hok.1) rfl rfl rfl (hts _ hok.2.1) (hts _ hl) hok.2.2.2.1 ⟨hf, by have := hok.2.2.2.2; show 8 + (_ + 11) + 100 * f' ≤ 100 * f; omega⟩, hts _ hi, hts _ hs⟩
  have hrec := vk_recv hE.2.2.2.1 hi9 hS.1.2.2
  rw [← hS.2.1 i, ← hr] at hrec
  exact xback hF hS hQ hoks.1 hkc hkw (va_runV (As := As.map (xtv ad)) (b := ad (1000000 + i)) (rest := rest.map (xtv ad)) ⟨hx, hb, hml, hown, hts⟩ hM hcw ⟨xblind, hrec, hpr⟩ rfl (by rw [List.length_map]; exact hn) hS.2.2.2.1.1 (xstk hst) (lv_room (by rw [xcats hoks.1]; exact hrest)) hd ⟨by show _ ≤ C0; omega, by show _ ≤ S; omega⟩) kk
end KS
theorem xw3_75 : Cond.methodLink RX2 19 yJ0_length_8abf5 ∈ xT := xwk3 75 (by decide +kernel) rfl
theorem xw3_76 : Cond.instanceMethod yJ0_length_8abf5 ∈ xT := xwk3 76 (by decide +kernel) rfl
theorem xw3_77 : Cond.selects RJ0 yJ0_length_8abf5 yJ0_length_8abf5 ∈ xT := xwk3 77 (by decide +kernel) rfl
abbrev MJ0_coder_7d493 : xMt := (yJ0_coder_7d493, cJ0_coder_7d493, 1, (some .byte))
theorem xw3_82 : Cond.code yJ0_coder_7d493 cJ0_coder_7d493 1 (some .byte) ∈ xT := xwk3 82 rfl rfl
theorem MJ0_coder_7d493_ok : xOk MJ0_coder_7d493 0 := ⟨xw3_82, xw1_13, plainFor_of_name (by decide +kernel), ⟨by decide +kernel, by decide +kernel, by decide +kernel⟩, by decide⟩
theorem xw3_79 : Cond.methodLink RJ0 335 yJ0_coder_7d493 ∈ xT := xwk3 79 (by decide +kernel) rfl
theorem xw3_80 : Cond.instanceMethod yJ0_coder_7d493 ∈ xT := xwk3 80 (by decide +kernel) rfl
theorem xw3_81 : Cond.selects RJ0 yJ0_coder_7d493 yJ0_coder_7d493 ∈ xT := xwk3 81 (by decide +kernel) rfl
theorem xw3_83 : Cond.fieldLink RJ0 38 "java/lang/String" "COMPACT_STRINGS" "Z" ∈ xT := xwk3 83 (by decide +kernel) rfl
theorem xw3_85 : Cond.methodLink RX2 24 yJ0_charAt_5068e ∈ xT := xwk3 85 (by decide +kernel) rfl
theorem xw3_86 : Cond.instanceMethod yJ0_charAt_5068e ∈ xT := xwk3 86 (by decide +kernel) rfl
theorem xw3_87 : Cond.selects RJ0 yJ0_charAt_5068e yJ0_charAt_5068e ∈ xT := xwk3 87 (by decide +kernel) rfl
abbrev MJ0_isLatin1_aae02 : xMt := (yJ0_isLatin1_aae02, cJ0_isLatin1_aae02, 1, (some .boolean))
theorem xw3_92 : Cond.code yJ0_isLatin1_aae02 cJ0_isLatin1_aae02 1 (some .boolean) ∈ xT := xwk3 92 rfl rfl
theorem MJ0_isLatin1_aae02_ok : xOk MJ0_isLatin1_aae02 0 := ⟨xw3_92, xw1_13, plainFor_of_name (by decide +kernel), ⟨by decide +kernel, by decide +kernel, by decide +kernel⟩, by decide⟩
theorem xw3_89 : Cond.methodLink RJ0 492 yJ0_isLatin1_aae02 ∈ xT := xwk3 89 (by decide +kernel) rfl
theorem xw3_90 : Cond.instanceMethod yJ0_isLatin1_aae02 ∈ xT := xwk3 90 (by decide +kernel) rfl
theorem xw3_91 : Cond.selects RJ0 yJ0_isLatin1_aae02 yJ0_isLatin1_aae02 ∈ xT := xwk3 91 (by decide +kernel) rfl
abbrev MJ1_charAt_3b067 : xMt := (yJ1_charAt_3b067, cJ1_charAt_3b067, 2, (some .char))
theorem xw3_95 : Cond.code yJ1_charAt_3b067 cJ1_charAt_3b067 2 (some .char) ∈ xT := xwk3 95 rfl rfl
theorem xw1_14 : Cond.initialized RJ1 ∈ xT := xwk1 14 (by decide +kernel) rfl
theorem MJ1_charAt_3b067_ok : xOk MJ1_charAt_3b067 2 := ⟨xw3_95, xw1_14, plainFor_of_name (by decide +kernel), ⟨by decide +kernel, by decide +kernel, by decide +kernel⟩, by decide⟩
theorem xw3_93 : Cond.methodLink RJ0 495 yJ1_charAt_3b067 ∈ xT := xwk3 93 (by decide +kernel) rfl
theorem xw3_94 : Cond.static yJ1_charAt_3b067 ∈ xT := xwk3 94 (by decide +kernel) rfl
abbrev MJ0_checkIndex_df160 : xMt := (yJ0_checkIndex_df160, cJ0_checkIndex_df160, 2, none)
theorem xw3_98 : Cond.code yJ0_checkIndex_df160 cJ0_checkIndex_df160 2 none ∈ xT := xwk3 98 rfl rfl
theorem MJ0_checkIndex_df160_ok : xOk MJ0_checkIndex_df160 2 := ⟨xw3_98, xw1_13, plainFor_of_name (by decide +kernel), ⟨by decide +kernel, by decide +kernel, by decide +kernel⟩, by decide⟩
theorem xw3_96 : Cond.methodLink RJ1 9 yJ0_checkIndex_df160 ∈ xT := xwk3 96 (by decide +kernel) rfl
theorem xw3_97 : Cond.static yJ0_checkIndex_df160 ∈ xT := xwk3 97 (by decide +kernel) rfl
theorem xw3_99 : Cond.fieldLink RJ0 1053 "jdk/internal/util/Preconditions" "SIOOBE_FORMATTER" "Ljava/util/function/BiFunction;" ∈ xT := xwk3 99 (by decide +kernel) rfl
abbrev MJ3_checkIndex_8e157 : xMt := (yJ3_checkIndex_8e157, cJ3_checkIndex_8e157, 3, (some .int))
theorem xw3_103 : Cond.code yJ3_checkIndex_8e157 cJ3_checkIndex_8e157 3 (some .int) ∈ xT := xwk3 103 rfl rfl
theorem xw1_15 : Cond.initialized RJ3 ∈ xT := xwk1 15 (by decide +kernel) rfl
theorem MJ3_checkIndex_8e157_ok : xOk MJ3_checkIndex_8e157 3 := ⟨xw3_103, xw1_15, plainFor_of_name (by decide +kernel), ⟨by decide +kernel, by decide +kernel, by decide +kernel⟩, by decide⟩
theorem xw3_101 : Cond.methodLink RJ0 1059 yJ3_checkIndex_8e157 ∈ xT := xwk3 101 (by decide +kernel) rfl
theorem xw3_102 : Cond.static yJ3_checkIndex_8e157 ∈ xT := xwk3 102 (by decide +kernel) rfl
theorem xw3_142 : Cond.methodLink RX5 25 yJ0_indexOf_0f7a4 ∈ xT := xwk3 142 (by decide +kernel) rfl
theorem xw3_143 : Cond.instanceMethod yJ0_indexOf_0f7a4 ∈ xT := xwk3 143 (by decide +kernel) rfl
theorem xw3_144 : Cond.selects RJ0 yJ0_indexOf_0f7a4 yJ0_indexOf_0f7a4 ∈ xT := xwk3 144 (by decide +kernel) rfl
abbrev MJ0_indexOf_7cf53 : xMt := (yJ0_indexOf_7cf53, cJ0_indexOf_7cf53, 3, (some .int))
theorem xw3_149 : Cond.code yJ0_indexOf_7cf53 cJ0_indexOf_7cf53 3 (some .int) ∈ xT := xwk3 149 rfl rfl
theorem MJ0_indexOf_7cf53_ok : xOk MJ0_indexOf_7cf53 2 := ⟨xw3_149, xw1_13, plainFor_of_name (by decide +kernel), ⟨by decide +kernel, by decide +kernel, by decide +kernel⟩, by decide⟩
theorem xw3_146 : Cond.methodLink RJ0 633 yJ0_indexOf_7cf53 ∈ xT := xwk3 146 (by decide +kernel) rfl
theorem xw3_147 : Cond.instanceMethod yJ0_indexOf_7cf53 ∈ xT := xwk3 147 (by decide +kernel) rfl
theorem xw3_148 : Cond.selects RJ0 yJ0_indexOf_7cf53 yJ0_indexOf_7cf53 ∈ xT := xwk3 148 (by decide +kernel) rfl
theorem xw3_150 : Cond.methodLink RJ0 505 yJ0_length_8abf5 ∈ xT := xwk3 150 (by decide +kernel) rfl
abbrev MJ1_indexOf_4cfef : xMt := (yJ1_indexOf_4cfef, cJ1_indexOf_4cfef, 4, (some .int))
theorem xw3_153 : Cond.code yJ1_indexOf_4cfef cJ1_indexOf_4cfef 4 (some .int) ∈ xT := xwk3 153 rfl rfl
theorem MJ1_indexOf_4cfef_ok : xOk MJ1_indexOf_4cfef 4 := ⟨xw3_153, xw1_14, plainFor_of_name (by decide +kernel), ⟨by decide +kernel, by decide +kernel, by decide +kernel⟩, by decide⟩
theorem xw3_151 : Cond.methodLink RJ0 637 yJ1_indexOf_4cfef ∈ xT := xwk3 151 (by decide +kernel) rfl
theorem xw3_152 : Cond.static yJ1_indexOf_4cfef ∈ xT := xwk3 152 (by decide +kernel) rfl
abbrev MJ1_canEncode_9a6ad : xMt := (yJ1_canEncode_9a6ad, cJ1_canEncode_9a6ad, 1, (some .boolean))
theorem xw3_156 : Cond.code yJ1_canEncode_9a6ad cJ1_canEncode_9a6ad 1 (some .boolean) ∈ xT := xwk3 156 rfl rfl
theorem MJ1_canEncode_9a6ad_ok : xOk MJ1_canEncode_9a6ad 1 := ⟨xw3_156, xw1_14, plainFor_of_name (by decide +kernel), ⟨by decide +kernel, by decide +kernel, by decide +kernel⟩, by decide⟩
theorem xw3_154 : Cond.methodLink RJ1 88 yJ1_canEncode_9a6ad ∈ xT := xwk3 154 (by decide +kernel) rfl
theorem xw3_155 : Cond.static yJ1_canEncode_9a6ad ∈ xT := xwk3 155 (by decide +kernel) rfl
abbrev MJ9_max_7cf53 : xMt := (yJ9_max_7cf53, cJ9_max_7cf53, 2, (some .int))
theorem xw3_159 : Cond.code yJ9_max_7cf53 cJ9_max_7cf53 2 (some .int) ∈ xT := xwk3 159 rfl rfl
theorem MJ9_max_7cf53_ok : xOk MJ9_max_7cf53 2 := ⟨xw3_159, xw1_17, by decide +kernel, ⟨by decide +kernel, by decide +kernel, by decide +kernel⟩, by decide⟩
theorem xw3_157 : Cond.methodLink RJ1 92 yJ9_max_7cf53 ∈ xT := xwk3 157 (by decide +kernel) rfl
theorem xw3_158 : Cond.static yJ9_max_7cf53 ∈ xT := xwk3 158 (by decide +kernel) rfl
abbrev MJ9_min_7cf53 : xMt := (yJ9_min_7cf53, cJ9_min_7cf53, 2, (some .int))
theorem xw3_162 : Cond.code yJ9_min_7cf53 cJ9_min_7cf53 2 (some .int) ∈ xT := xwk3 162 rfl rfl
theorem MJ9_min_7cf53_ok : xOk MJ9_min_7cf53 2 := ⟨xw3_162, xw1_17, by decide +kernel, ⟨by decide +kernel, by decide +kernel, by decide +kernel⟩, by decide⟩
theorem xw3_160 : Cond.methodLink RJ1 38 yJ9_min_7cf53 ∈ xT := xwk3 160 (by decide +kernel) rfl
theorem xw3_161 : Cond.static yJ9_min_7cf53 ∈ xT := xwk3 161 (by decide +kernel) rfl
abbrev MJ1_indexOfChar_4cfef : xMt := (yJ1_indexOfChar_4cfef, cJ1_indexOfChar_4cfef, 6, (some .int))
theorem xw3_165 : Cond.code yJ1_indexOfChar_4cfef cJ1_indexOfChar_4cfef 6 (some .int) ∈ xT := xwk3 165 rfl rfl
theorem MJ1_indexOfChar_4cfef_ok : xOk MJ1_indexOfChar_4cfef 4 := ⟨xw3_165, xw1_14, plainFor_of_name (by decide +kernel), ⟨by decide +kernel, by decide +kernel, by decide +kernel⟩, by decide⟩
theorem xw3_163 : Cond.methodLink RJ1 95 yJ1_indexOfChar_4cfef ∈ xT := xwk3 163 (by decide +kernel) rfl
theorem xw3_164 : Cond.static yJ1_indexOfChar_4cfef ∈ xT := xwk3 164 (by decide +kernel) rfl
theorem xw5_183 : Cond.fieldLink RJ0 9 "java/lang/String" "value" "[B" ∈ xT := xwk5 183 (by decide +kernel) rfl
theorem xw5_184 : Cond.fieldLink RJ0 15 "java/lang/String" "coder" "B" ∈ xT := xwk5 184 (by decide +kernel) rfl
abbrev MJ0_checkBoundsBeginEnd_23922 : xMt := (yJ0_checkBoundsBeginEnd_23922, cJ0_checkBoundsBeginEnd_23922, 3, none)
theorem xw3_180 : Cond.code yJ0_checkBoundsBeginEnd_23922 cJ0_checkBoundsBeginEnd_23922 3 none ∈ xT := xwk3 180 rfl rfl
theorem MJ0_checkBoundsBeginEnd_23922_ok : xOk MJ0_checkBoundsBeginEnd_23922 3 := ⟨xw3_180, xw1_13, plainFor_of_name (by decide +kernel), ⟨by decide +kernel, by decide +kernel, by decide +kernel⟩, by decide⟩
abbrev MJ3_checkFromToIndex_8c36e : xMt := (yJ3_checkFromToIndex_8c36e, cJ3_checkFromToIndex_8c36e, 4, (some .int))
theorem xw3_183 : Cond.code yJ3_checkFromToIndex_8c36e cJ3_checkFromToIndex_8c36e 4 (some .int) ∈ xT := xwk3 183 rfl rfl
theorem MJ3_checkFromToIndex_8c36e_ok : xOk MJ3_checkFromToIndex_8c36e 4 := ⟨xw3_183, xw1_15, plainFor_of_name (by decide +kernel), ⟨by decide +kernel, by decide +kernel, by decide +kernel⟩, by decide⟩
theorem cd2_19 {Γ : xGm} {l : Launch} {f f' : Nat} {μ : xMt} {pc : Nat} {L : List (Option Value)} {st : List Value} {G : xG} {D : xD} {R : xR} {kc kw : Nat} {Q : Option Value → xG → xD → xR → Prop} {i : Nat} {x : Int32} {G1 : xG} {D1 : xD} {R1 : xR} (hμ : μ.1.cls = RX2) (hd : decode μ.2.1 pc = .ok (.invokevirtual 19, 3)) (hrest : st.length ≤ 8) (hq : i < 9) (hf : f' + 1 ≤ f) (hC : Cn Γ l f' MJ0_length_8abf5 [.ref (1000000 + i)] G D R 0 0 (xdet (some (.int x)) G1 D1 R1)) (kk : Ex Γ l f μ (pc + 3) L (.int x :: st) G1 D1 R1 kc kw Q) : Ex Γ l f μ pc L (.ref (1000000 + i) :: st) G D R kc kw Q := by
  have hkc := Nat.zero_le kc
  have hkw := Nat.zero_le kw
  exact ex_callK [] st hq hd MJ0_length_8abf5_ok xw3_76 xw3_77 (by rw [hμ]; exact xw3_75) rfl rfl hrest rfl hf hkc hkw hC (fun v G' D' R' h => by obtain ⟨rfl, rfl, rfl, rfl⟩ := h; exact kk)
theorem cdJ0_335 {Γ : xGm} {l : Launch} {f f' : Nat} {μ : xMt} {pc : Nat} {L : List (Option Value)} {st : List Value} {G : xG} {D : xD} {R : xR} {kc kw : Nat} {Q : Option Value → xG → xD → xR → Prop} {i : Nat} {x : Int32} {G1 : xG} {D1 : xD} {R1 : xR} (hμ : μ.1.cls = RJ0) (hd : decode μ.2.1 pc = .ok (.invokevirtual 335, 3)) (hrest : st.length ≤ 8) (hq : i < 9) (hf : f' + 1 ≤ f) (hC : Cn Γ l f' MJ0_coder_7d493 [.ref (1000000 + i)] G D R 0 0 (xdet (some (.int x)) G1 D1 R1)) (kk : Ex Γ l f μ (pc + 3) L (.int x :: st) G1 D1 R1 kc kw Q) : Ex Γ l f μ pc L (.ref (1000000 + i) :: st) G D R kc kw Q := by
  have hkc := Nat.zero_le kc
  have hkw := Nat.zero_le kw
  exact ex_callK [] st hq hd MJ0_coder_7d493_ok xw3_80 xw3_81 (by rw [hμ]; exact xw3_79) rfl rfl hrest rfl hf hkc hkw hC (fun v G' D' R' h => by obtain ⟨rfl, rfl, rfl, rfl⟩ := h; exact kk)
theorem skz {Γ : xGm} {l : Launch} {f : Nat} {μ : xMt} {pc : Nat} {L : List (Option Value)} {st : List Value} {G : xG} {D : xD} {R : xR} {kc kw : Nat} {Q : Option Value → xG → xD → xR → Prop} (hμ : μ.1.cls = RJ0) (hd : decode μ.2.1 pc = .ok (.getstatic 38, 3)) (kk : Ex Γ l f μ (pc + 3) L (.int 1 :: st) G D R kc kw Q) : Ex Γ l f μ pc L (st) G D R kc kw Q := ex_scom hd (by rw [hμ]; exact xw3_83) kk
theorem cd2_24 {Γ : xGm} {l : Launch} {f f' : Nat} {μ : xMt} {pc : Nat} {L : List (Option Value)} {st : List Value} {G : xG} {D : xD} {R : xR} {kc kw : Nat} {Q : Option Value → xG → xD → xR → Prop} {a1 : Value} {i : Nat} {x : Int32} {G1 : xG} {D1 : xD} {R1 : xR} (hμ : μ.1.cls = RX2) (hd : decode μ.2.1 pc = .ok (.invokevirtual 24, 3)) (hrest : st.length ≤ 8) (hq : i < 9) (hf : f' + 1 ≤ f) (hC : Cn Γ l f' MJ0_charAt_5068e [.ref (1000000 + i), a1] G D R 0 0 (xdet (some (.int x)) G1 D1 R1)) (kk : Ex Γ l f μ (pc + 3) L (.int x :: st) G1 D1 R1 kc kw Q) : Ex Γ l f μ pc L (a1 :: .ref (1000000 + i) :: st) G D R kc kw Q := by
  have hkc := Nat.zero_le kc
  have hkw := Nat.zero_le kw
  exact ex_callK [a1] st hq hd MJ0_charAt_5068e_ok xw3_86 xw3_87 (by rw [hμ]; exact xw3_85) rfl rfl hrest rfl hf hkc hkw hC (fun v G' D' R' h => by obtain ⟨rfl, rfl, rfl, rfl⟩ := h; exact kk)
theorem cdJ0_492 {Γ : xGm} {l : Launch} {f f' : Nat} {μ : xMt} {pc : Nat} {L : List (Option Value)} {st : List Value} {G : xG} {D : xD} {R : xR} {kc kw : Nat} {Q : Option Value → xG → xD → xR → Prop} {i : Nat} {x : Int32} {G1 : xG} {D1 : xD} {R1 : xR} (hμ : μ.1.cls = RJ0) (hd : decode μ.2.1 pc = .ok (.invokevirtual 492, 3)) (hrest : st.length ≤ 8) (hq : i < 9) (hf : f' + 1 ≤ f) (hC : Cn Γ l f' MJ0_isLatin1_aae02 [.ref (1000000 + i)] G D R 0 0 (xdet (some (.int x)) G1 D1 R1)) (kk : Ex Γ l f μ (pc + 3) L (.int x :: st) G1 D1 R1 kc kw Q) : Ex Γ l f μ pc L (.ref (1000000 + i) :: st) G D R kc kw Q := by
  have hkc := Nat.zero_le kc
  have hkw := Nat.zero_le kw
  exact ex_callK [] st hq hd MJ0_isLatin1_aae02_ok xw3_90 xw3_91 (by rw [hμ]; exact xw3_89) rfl rfl hrest rfl hf hkc hkw hC (fun v G' D' R' h => by obtain ⟨rfl, rfl, rfl, rfl⟩ := h; exact kk)
theorem cdJ0_495 {Γ : xGm} {l : Launch} {f f' : Nat} {μ : xMt} {pc : Nat} {L : List (Option Value)} {st : List Value} {G : xG} {D : xD} {R : xR} {kc kw : Nat} {Q : Option Value → xG → xD → xR → Prop} {a1 a2 : Value} {x : Int32} {G1 : xG} {D1 : xD} {R1 : xR} (hμ : μ.1.cls = RJ0) (hd : decode μ.2.1 pc = .ok (.invokestatic 495, 3)) (hrest : st.length ≤ 8) (hf : f' + 1 ≤ f) (hC : Cn Γ l f' MJ1_charAt_3b067 [a1, a2] G D R 0 0 (xdet (some (.int x)) G1 D1 R1)) (kk : Ex Γ l f μ (pc + 3) L (.int x :: st) G1 D1 R1 kc kw Q) : Ex Γ l f μ pc L (a2 :: a1 :: st) G D R kc kw Q := by
  have hkc := Nat.zero_le kc
  have hkw := Nat.zero_le kw
  exact ex_callS [a1, a2] st hd MJ1_charAt_3b067_ok xw3_94 (by rw [hμ]; exact xw3_93) rfl rfl hrest hf hkc hkw hC (fun v G' D' R' h => by obtain ⟨rfl, rfl, rfl, rfl⟩ := h; exact kk)
theorem cdJ1_9 {Γ : xGm} {l : Launch} {f f' : Nat} {μ : xMt} {pc : Nat} {L : List (Option Value)} {st : List Value} {G : xG} {D : xD} {R : xR} {kc kw : Nat} {Q : Option Value → xG → xD → xR → Prop} {a1 a2 : Value} {G1 : xG} {D1 : xD} {R1 : xR} (hμ : μ.1.cls = RJ1) (hd : decode μ.2.1 pc = .ok (.invokestatic 9, 3)) (hrest : st.length ≤ 8) (hf : f' + 1 ≤ f) (hC : Cn Γ l f' MJ0_checkIndex_df160 [a1, a2] G D R 0 0 (xdet none G1 D1 R1)) (kk : Ex Γ l f μ (pc + 3) L st G1 D1 R1 kc kw Q) : Ex Γ l f μ pc L (a2 :: a1 :: st) G D R kc kw Q := by
  have hkc := Nat.zero_le kc
  have hkw := Nat.zero_le kw
  exact ex_callS [a1, a2] st hd MJ0_checkIndex_df160_ok xw3_97 (by rw [hμ]; exact xw3_96) rfl rfl hrest hf hkc hkw hC (fun v G' D' R' h => by obtain ⟨rfl, rfl, rfl, rfl⟩ := h; exact kk)
theorem skf {Γ : xGm} {l : Launch} {f : Nat} {μ : xMt} {pc : Nat} {L : List (Option Value)} {st : List Value} {G : xG} {D : xD} {R : xR} {kc kw : Nat} {Q : Option Value → xG → xD → xR → Prop} (hμ : μ.1.cls = RJ0) (hd : decode μ.2.1 pc = .ok (.getstatic 1053, 3)) (kk : Ex Γ l f μ (pc + 3) L (xfm Γ :: st) G D R kc kw Q) : Ex Γ l f μ pc L (st) G D R kc kw Q := ex_sfmt hd (by rw [hμ]; exact xw3_99) kk
theorem cdJ0_1059 {Γ : xGm} {l : Launch} {f f' : Nat} {μ : xMt} {pc : Nat} {L : List (Option Value)} {st : List Value} {G : xG} {D : xD} {R : xR} {kc kw : Nat} {Q : Option Value → xG → xD → xR → Prop} {a1 a2 a3 : Value} {x : Int32} {G1 : xG} {D1 : xD} {R1 : xR} (hμ : μ.1.cls = RJ0) (hd : decode μ.2.1 pc = .ok (.invokestatic 1059, 3)) (hrest : st.length ≤ 8) (hf : f' + 1 ≤ f) (hC : Cn Γ l f' MJ3_checkIndex_8e157 [a1, a2, a3] G D R 0 0 (xdet (some (.int x)) G1 D1 R1)) (kk : Ex Γ l f μ (pc + 3) L (.int x :: st) G1 D1 R1 kc kw Q) : Ex Γ l f μ pc L (a3 :: a2 :: a1 :: st) G D R kc kw Q := by
  have hkc := Nat.zero_le kc
  have hkw := Nat.zero_le kw
  exact ex_callS [a1, a2, a3] st hd MJ3_checkIndex_8e157_ok xw3_102 (by rw [hμ]; exact xw3_101) rfl rfl hrest hf hkc hkw hC (fun v G' D' R' h => by obtain ⟨rfl, rfl, rfl, rfl⟩ := h; exact kk)
theorem cd5_25 {Γ : xGm} {l : Launch} {f f' : Nat} {μ : xMt} {pc : Nat} {L : List (Option Value)} {st : List Value} {G : xG} {D : xD} {R : xR} {kc kw : Nat} {Q : Option Value → xG → xD → xR → Prop} {a1 : Value} {i : Nat} {x : Int32} {G1 : xG} {D1 : xD} {R1 : xR} (hμ : μ.1.cls = RX5) (hd : decode μ.2.1 pc = .ok (.invokevirtual 25, 3)) (hrest : st.length ≤ 8) (hq : i < 9) (hf : f' + 1 ≤ f) (hC : Cn Γ l f' MJ0_indexOf_0f7a4 [.ref (1000000 + i), a1] G D R 0 0 (xdet (some (.int x)) G1 D1 R1)) (kk : Ex Γ l f μ (pc + 3) L (.int x :: st) G1 D1 R1 kc kw Q) : Ex Γ l f μ pc L (a1 :: .ref (1000000 + i) :: st) G D R kc kw Q := by
  have hkc := Nat.zero_le kc
  have hkw := Nat.zero_le kw
  exact ex_callK [a1] st hq hd MJ0_indexOf_0f7a4_ok xw3_143 xw3_144 (by rw [hμ]; exact xw3_142) rfl rfl hrest rfl hf hkc hkw hC (fun v G' D' R' h => by obtain ⟨rfl, rfl, rfl, rfl⟩ := h; exact kk)
theorem cdJ0_633 {Γ : xGm} {l : Launch} {f f' : Nat} {μ : xMt} {pc : Nat} {L : List (Option Value)} {st : List Value} {G : xG} {D : xD} {R : xR} {kc kw : Nat} {Q : Option Value → xG → xD → xR → Prop} {a1 a2 : Value} {i : Nat} {x : Int32} {G1 : xG} {D1 : xD} {R1 : xR} (hμ : μ.1.cls = RJ0) (hd : decode μ.2.1 pc = .ok (.invokevirtual 633, 3)) (hrest : st.length ≤ 8) (hq : i < 9) (hf : f' + 1 ≤ f) (hC : Cn Γ l f' MJ0_indexOf_7cf53 [.ref (1000000 + i), a1, a2] G D R 0 0 (xdet (some (.int x)) G1 D1 R1)) (kk : Ex Γ l f μ (pc + 3) L (.int x :: st) G1 D1 R1 kc kw Q) : Ex Γ l f μ pc L (a2 :: a1 :: .ref (1000000 + i) :: st) G D R kc kw Q := by
  have hkc := Nat.zero_le kc
  have hkw := Nat.zero_le kw
  exact ex_callK [a1, a2] st hq hd MJ0_indexOf_7cf53_ok xw3_147 xw3_148 (by rw [hμ]; exact xw3_146) rfl rfl hrest rfl hf hkc hkw hC (fun v G' D' R' h => by obtain ⟨rfl, rfl, rfl, rfl⟩ := h; exact kk)
theorem cdJ0_505 {Γ : xGm} {l : Launch} {f f' : Nat} {μ : xMt} {pc : Nat} {L : List (Option Value)} {st : List Value} {G : xG} {D : xD} {R : xR} {kc kw : Nat} {Q : Option Value → xG → xD → xR → Prop} {i : Nat} {x : Int32} {G1 : xG} {D1 : xD} {R1 : xR} (hμ : μ.1.cls = RJ0) (hd : decode μ.2.1 pc = .ok (.invokevirtual 505, 3)) (hrest : st.length ≤ 8) (hq : i < 9) (hf : f' + 1 ≤ f) (hC : Cn Γ l f' MJ0_length_8abf5 [.ref (1000000 + i)] G D R 0 0 (xdet (some (.int x)) G1 D1 R1)) (kk : Ex Γ l f μ (pc + 3) L (.int x :: st) G1 D1 R1 kc kw Q) : Ex Γ l f μ pc L (.ref (1000000 + i) :: st) G D R kc kw Q := by
  have hkc := Nat.zero_le kc
  have hkw := Nat.zero_le kw
  exact ex_callK [] st hq hd MJ0_length_8abf5_ok xw3_76 xw3_77 (by rw [hμ]; exact xw3_150) rfl rfl hrest rfl hf hkc hkw hC (fun v G' D' R' h => by obtain ⟨rfl, rfl, rfl, rfl⟩ := h; exact kk)
theorem cdJ0_637 {Γ : xGm} {l : Launch} {f f' : Nat} {μ : xMt} {pc : Nat} {L : List (Option Value)} {st : List Value} {G : xG} {D : xD} {R : xR} {kc kw : Nat} {Q : Option Value → xG → xD → xR → Prop} {a1 a2 a3 a4 : Value} {x : Int32} {G1 : xG} {D1 : xD} {R1 : xR} (hμ : μ.1.cls = RJ0) (hd : decode μ.2.1 pc = .ok (.invokestatic 637, 3)) (hrest : st.length ≤ 8) (hf : f' + 1 ≤ f) (hC : Cn Γ l f' MJ1_indexOf_4cfef [a1, a2, a3, a4] G D R 0 0 (xdet (some (.int x)) G1 D1 R1)) (kk : Ex Γ l f μ (pc + 3) L (.int x :: st) G1 D1 R1 kc kw Q) : Ex Γ l f μ pc L (a4 :: a3 :: a2 :: a1 :: st) G D R kc kw Q := by
  have hkc := Nat.zero_le kc
  have hkw := Nat.zero_le kw
  exact ex_callS [a1, a2, a3, a4] st hd MJ1_indexOf_4cfef_ok xw3_152 (by rw [hμ]; exact xw3_151) rfl rfl hrest hf hkc hkw hC (fun v G' D' R' h => by obtain ⟨rfl, rfl, rfl, rfl⟩ := h; exact kk)
theorem cdJ1_88 {Γ : xGm} {l : Launch} {f f' : Nat} {μ : xMt} {pc : Nat} {L : List (Option Value)} {st : List Value} {G : xG} {D : xD} {R : xR} {kc kw : Nat} {Q : Option Value → xG → xD → xR → Prop} {a1 : Value} {x : Int32} {G1 : xG} {D1 : xD} {R1 : xR} (hμ : μ.1.cls = RJ1) (hd : decode μ.2.1 pc = .ok (.invokestatic 88, 3)) (hrest : st.length ≤ 8) (hf : f' + 1 ≤ f) (hC : Cn Γ l f' MJ1_canEncode_9a6ad [a1] G D R 0 0 (xdet (some (.int x)) G1 D1 R1)) (kk : Ex Γ l f μ (pc + 3) L (.int x :: st) G1 D1 R1 kc kw Q) : Ex Γ l f μ pc L (a1 :: st) G D R kc kw Q := by
  have hkc := Nat.zero_le kc
  have hkw := Nat.zero_le kw
  exact ex_callS [a1] st hd MJ1_canEncode_9a6ad_ok xw3_155 (by rw [hμ]; exact xw3_154) rfl rfl hrest hf hkc hkw hC (fun v G' D' R' h => by obtain ⟨rfl, rfl, rfl, rfl⟩ := h; exact kk)
theorem cdJ1_92 {Γ : xGm} {l : Launch} {f f' : Nat} {μ : xMt} {pc : Nat} {L : List (Option Value)} {st : List Value} {G : xG} {D : xD} {R : xR} {kc kw : Nat} {Q : Option Value → xG → xD → xR → Prop} {a1 a2 : Value} {x : Int32} {G1 : xG} {D1 : xD} {R1 : xR} (hμ : μ.1.cls = RJ1) (hd : decode μ.2.1 pc = .ok (.invokestatic 92, 3)) (hrest : st.length ≤ 8) (hf : f' + 1 ≤ f) (hC : Cn Γ l f' MJ9_max_7cf53 [a1, a2] G D R 0 0 (xdet (some (.int x)) G1 D1 R1)) (kk : Ex Γ l f μ (pc + 3) L (.int x :: st) G1 D1 R1 kc kw Q) : Ex Γ l f μ pc L (a2 :: a1 :: st) G D R kc kw Q := by
  have hkc := Nat.zero_le kc
  have hkw := Nat.zero_le kw
  exact ex_callS [a1, a2] st hd MJ9_max_7cf53_ok xw3_158 (by rw [hμ]; exact xw3_157) rfl rfl hrest hf hkc hkw hC (fun v G' D' R' h => by obtain ⟨rfl, rfl, rfl, rfl⟩ := h; exact kk)
theorem cdJ1_38 {Γ : xGm} {l : Launch} {f f' : Nat} {μ : xMt} {pc : Nat} {L : List (Option Value)} {st : List Value} {G : xG} {D : xD} {R : xR} {kc kw : Nat} {Q : Option Value → xG → xD → xR → Prop} {a1 a2 : Value} {x : Int32} {G1 : xG} {D1 : xD} {R1 : xR} (hμ : μ.1.cls = RJ1) (hd : decode μ.2.1 pc = .ok (.invokestatic 38, 3)) (hrest : st.length ≤ 8) (hf : f' + 1 ≤ f) (hC : Cn Γ l f' MJ9_min_7cf53 [a1, a2] G D R 0 0 (xdet (some (.int x)) G1 D1 R1)) (kk : Ex Γ l f μ (pc + 3) L (.int x :: st) G1 D1 R1 kc kw Q) : Ex Γ l f μ pc L (a2 :: a1 :: st) G D R kc kw Q := by
  have hkc := Nat.zero_le kc
  have hkw := Nat.zero_le kw
  exact ex_callS [a1, a2] st hd MJ9_min_7cf53_ok xw3_161 (by rw [hμ]; exact xw3_160) rfl rfl hrest hf hkc hkw hC (fun v G' D' R' h => by obtain ⟨rfl, rfl, rfl, rfl⟩ := h; exact kk)
theorem cdJ1_95 {Γ : xGm} {l : Launch} {f f' : Nat} {μ : xMt} {pc : Nat} {L : List (Option Value)} {st : List Value} {G : xG} {D : xD} {R : xR} {kc kw : Nat} {Q : Option Value → xG → xD → xR → Prop} {a1 a2 a3 a4 : Value} {x : Int32} {G1 : xG} {D1 : xD} {R1 : xR} (hμ : μ.1.cls = RJ1) (hd : decode μ.2.1 pc = .ok (.invokestatic 95, 3)) (hrest : st.length ≤ 8) (hf : f' + 1 ≤ f) (hC : Cn Γ l f' MJ1_indexOfChar_4cfef [a1, a2, a3, a4] G D R 0 0 (xdet (some (.int x)) G1 D1 R1)) (kk : Ex Γ l f μ (pc + 3) L (.int x :: st) G1 D1 R1 kc kw Q) : Ex Γ l f μ pc L (a4 :: a3 :: a2 :: a1 :: st) G D R kc kw Q := by
  have hkc := Nat.zero_le kc
  have hkw := Nat.zero_le kw
  exact ex_callS [a1, a2, a3, a4] st hd MJ1_indexOfChar_4cfef_ok xw3_164 (by rw [hμ]; exact xw3_163) rfl rfl hrest hf hkc hkw hC (fun v G' D' R' h => by obtain ⟨rfl, rfl, rfl, rfl⟩ := h; exact kk)
theorem skv {Γ : xGm} {l : Launch} {f : Nat} {μ : xMt} {pc : Nat} {L : List (Option Value)} {st : List Value} {G : xG} {D : xD} {R : xR} {kc kw : Nat} {Q : Option Value → xG → xD → xR → Prop} {i : Nat} (hi : i < 9) (hμ : μ.1.cls = RJ0) (hd : decode μ.2.1 pc = .ok (.getfield 9, 3)) (kk : Ex Γ l f μ (pc + 3) L (.ref (1000009 + i) :: st) G D R kc kw Q) : Ex Γ l f μ pc L (.ref (1000000 + i) :: st) G D R kc kw Q := ex_sval hi hd (by rw [hμ]; exact xw5_183) kk
theorem skc {Γ : xGm} {l : Launch} {f : Nat} {μ : xMt} {pc : Nat} {L : List (Option Value)} {st : List Value} {G : xG} {D : xD} {R : xR} {kc kw : Nat} {Q : Option Value → xG → xD → xR → Prop} {i : Nat} (hi : i < 9) (hμ : μ.1.cls = RJ0) (hd : decode μ.2.1 pc = .ok (.getfield 15, 3)) (kk : Ex Γ l f μ (pc + 3) L (.int 0 :: st) G D R kc kw Q) : Ex Γ l f μ pc L (.ref (1000000 + i) :: st) G D R kc kw Q := ex_scod hi hd (by rw [hμ]; exact xw5_184) kk
