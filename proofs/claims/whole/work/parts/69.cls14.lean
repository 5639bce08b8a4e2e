theorem in15 {c : Int32} (h : vp_in c 15) (h0 : ¬ c = 0) (h1 : ¬ c = 1) (h2 : ¬ c = 2) (h3 : ¬ c = 3) (h4 : ¬ c = 4) (h5 : ¬ c = 5) (h6 : ¬ c = 6) (h7 : ¬ c = 7) (h8 : ¬ c = 8) (h9 : ¬ c = 9) (h10 : ¬ c = 10) (h11 : ¬ c = 11) (h12 : ¬ c = 12) (h13 : ¬ c = 13) (h14 : ¬ c = 14) : False := by
  obtain ⟨e, l⟩ := vi_n h (by decide)
  have : ix c = 0 ∨ ix c = 1 ∨ ix c = 2 ∨ ix c = 3 ∨ ix c = 4 ∨ ix c = 5 ∨ ix c = 6 ∨ ix c = 7 ∨ ix c = 8 ∨ ix c = 9 ∨ ix c = 10 ∨ ix c = 11 ∨ ix c = 12 ∨ ix c = 13 ∨ ix c = 14 := by omega
  rcases this with q | q | q | q | q | q | q | q | q | q | q | q | q | q | q
  · exact h0 (by rw [e, q]; rfl)
  · exact h1 (by rw [e, q]; rfl)
  · exact h2 (by rw [e, q]; rfl)
  · exact h3 (by rw [e, q]; rfl)
  · exact h4 (by rw [e, q]; rfl)
  · exact h5 (by rw [e, q]; rfl)
  · exact h6 (by rw [e, q]; rfl)
  · exact h7 (by rw [e, q]; rfl)
  · exact h8 (by rw [e, q]; rfl)
  · exact h9 (by rw [e, q]; rfl)
  · exact h10 (by rw [e, q]; rfl)
  · exact h11 (by rw [e, q]; rfl)
  · exact h12 (by rw [e, q]; rfl)
  · exact h13 (by rw [e, q]; rfl)
  · exact h14 (by rw [e, q]; rfl)
theorem sActC_0 {rn : xRn} {E : xD} {c a b o w r : Int32} (q : c = 0) : sAct1 rn E c a b o w r = (a, E) := by
  unfold sAct1
  rw [if_pos q]
theorem sActC_1 {rn : xRn} {E : xD} {c a b o w r : Int32} (q : c = 1) : sAct1 rn E c a b o w r = (w, E) := by
  unfold sAct1
  rw [if_neg (by rw [q]; decide), if_pos q]
theorem sActC_2 {rn : xRn} {E : xD} {c a b o w r : Int32} (q : c = 2) : sAct1 rn E c a b o w r = (o, E) := by
  unfold sAct1
  rw [if_neg (by rw [q]; decide), if_neg (by rw [q]; decide), if_pos q]
theorem sActC_3 {rn : xRn} {E : xD} {c a b o w r : Int32} (q : c = 3) : sAct1 rn E c a b o w r = (r + a, E) := by
  unfold sAct1
  rw [if_neg (by rw [q]; decide), if_neg (by rw [q]; decide), if_neg (by rw [q]; decide), if_pos q]
theorem sActC_4 {rn : xRn} {E : xD} {c a b o w r : Int32} (q : c = 4) : sAct1 rn E c a b o w r = sRead E o a b := by
  unfold sAct1
  rw [if_neg (by rw [q]; decide), if_neg (by rw [q]; decide), if_neg (by rw [q]; decide), if_neg (by rw [q]; decide), if_pos q]
theorem sActC_5 {rn : xRn} {E : xD} {c a b o w r : Int32} (q : c = 5) : sAct1 rn E c a b o w r = (r, (sWrite E o a b r).2) := by
  unfold sAct1
  rw [if_neg (by rw [q]; decide), if_neg (by rw [q]; decide), if_neg (by rw [q]; decide), if_neg (by rw [q]; decide), if_neg (by rw [q]; decide), if_pos q]
theorem sActC_6 {rn : xRn} {E : xD} {c a b o w r : Int32} (q : c = 6) : sAct1 rn E c a b o w r = sSend rn E r a b := by
  unfold sAct1
  rw [if_neg (by rw [q]; decide), if_neg (by rw [q]; decide), if_neg (by rw [q]; decide), if_neg (by rw [q]; decide), if_neg (by rw [q]; decide), if_neg (by rw [q]; decide), if_pos q]
theorem sActC_7 {rn : xRn} {E : xD} {c a b o w r : Int32} (q : c = 7) : sAct1 rn E c a b o w r = sSendAs rn E b o a w := by
  unfold sAct1
  rw [if_neg (by rw [q]; decide), if_neg (by rw [q]; decide), if_neg (by rw [q]; decide), if_neg (by rw [q]; decide), if_neg (by rw [q]; decide), if_neg (by rw [q]; decide), if_neg (by rw [q]; decide), if_pos q]
theorem sActC_8 {rn : xRn} {E : xD} {c a b o w r : Int32} (q : c = 8) : sAct1 rn E c a b o w r = (r, (sMove E o r).2) := by
  unfold sAct1
  rw [if_neg (by rw [q]; decide), if_neg (by rw [q]; decide), if_neg (by rw [q]; decide), if_neg (by rw [q]; decide), if_neg (by rw [q]; decide), if_neg (by rw [q]; decide), if_neg (by rw [q]; decide), if_neg (by rw [q]; decide), if_pos q]
theorem sActC_9 {rn : xRn} {E : xD} {c a b o w r : Int32} (q : c = 9) : sAct1 rn E c a b o w r = sTree E r 0 := by
  unfold sAct1
  rw [if_neg (by rw [q]; decide), if_neg (by rw [q]; decide), if_neg (by rw [q]; decide), if_neg (by rw [q]; decide), if_neg (by rw [q]; decide), if_neg (by rw [q]; decide), if_neg (by rw [q]; decide), if_neg (by rw [q]; decide), if_neg (by rw [q]; decide), if_pos q]
theorem sActC_10 {rn : xRn} {E : xD} {c a b o w r : Int32} (q : c = 10) : sAct1 rn E c a b o w r = sTree E r 1 := by
  unfold sAct1
  rw [if_neg (by rw [q]; decide), if_neg (by rw [q]; decide), if_neg (by rw [q]; decide), if_neg (by rw [q]; decide), if_neg (by rw [q]; decide), if_neg (by rw [q]; decide), if_neg (by rw [q]; decide), if_neg (by rw [q]; decide), if_neg (by rw [q]; decide), if_neg (by rw [q]; decide), if_pos q]
theorem sActC_11 {rn : xRn} {E : xD} {c a b o w r : Int32} (q : c = 11) : sAct1 rn E c a b o w r = sTree E r 2 := by
  unfold sAct1
  rw [if_neg (by rw [q]; decide), if_neg (by rw [q]; decide), if_neg (by rw [q]; decide), if_neg (by rw [q]; decide), if_neg (by rw [q]; decide), if_neg (by rw [q]; decide), if_neg (by rw [q]; decide), if_neg (by rw [q]; decide), if_neg (by rw [q]; decide), if_neg (by rw [q]; decide), if_neg (by rw [q]; decide), if_pos q]
theorem sActC_12 {rn : xRn} {E : xD} {c a b o w r : Int32} (q : c = 12) : sAct1 rn E c a b o w r = (r, E) := by
  unfold sAct1
  rw [if_neg (by rw [q]; decide), if_neg (by rw [q]; decide), if_neg (by rw [q]; decide), if_neg (by rw [q]; decide), if_neg (by rw [q]; decide), if_neg (by rw [q]; decide), if_neg (by rw [q]; decide), if_neg (by rw [q]; decide), if_neg (by rw [q]; decide), if_neg (by rw [q]; decide), if_neg (by rw [q]; decide), if_neg (by rw [q]; decide), if_pos q]
theorem sActC_13 {rn : xRn} {E : xD} {c a b o w r : Int32} (q : c = 13) : sAct1 rn E c a b o w r = (r, sName E r a) := by
  unfold sAct1
  rw [if_neg (by rw [q]; decide), if_neg (by rw [q]; decide), if_neg (by rw [q]; decide), if_neg (by rw [q]; decide), if_neg (by rw [q]; decide), if_neg (by rw [q]; decide), if_neg (by rw [q]; decide), if_neg (by rw [q]; decide), if_neg (by rw [q]; decide), if_neg (by rw [q]; decide), if_neg (by rw [q]; decide), if_neg (by rw [q]; decide), if_neg (by rw [q]; decide), if_pos q]
theorem sActC_14 {rn : xRn} {E : xD} {c a b o w r : Int32} (q : c = 14) : sAct1 rn E c a b o w r = (bi (sIsOf E r a), E) := by
  unfold sAct1
  rw [if_neg (by rw [q]; decide), if_neg (by rw [q]; decide), if_neg (by rw [q]; decide), if_neg (by rw [q]; decide), if_neg (by rw [q]; decide), if_neg (by rw [q]; decide), if_neg (by rw [q]; decide), if_neg (by rw [q]; decide), if_neg (by rw [q]; decide), if_neg (by rw [q]; decide), if_neg (by rw [q]; decide), if_neg (by rw [q]; decide), if_neg (by rw [q]; decide), if_neg (by rw [q]; decide)]
set_option maxRecDepth 20000 in
set_option maxHeartbeats 1000000 in
theorem c_perform {Γ : xGm} {l : Launch} {f : Nat} {G : xG} {D E : xD} {R : xR}  {N : Nat} {rn : xRn} {wi : Int32} (hN : 10 ≤ N) (hr : IKr rn) (hrun : Prun Γ l G R N rn wi) (hf : N + 7 ≤ f) (hS : Sim D R G E) {br q k : Nat} {r o w : Int32} (hro : ro D R G br E q) (q20 : q < 20) (hk : k < ix (E 4 q)) : Cn Γ l f MX9_perform [.ref 0, .ref br, .int (nI k), .int r, .int o, .int w, .int wi] G D R 0 0 (Sq G R D (some (.int (sAct1 rn E (E 5 (8 * q + k)) (E 6 (8 * q + k)) (E 7 (8 * q + k)) o w r).1)) (sAct1 rn E (E 5 (8 * q + k)) (E 6 (8 * q + k)) (E 7 (8 * q + k)) o w r).2) := by
  refine cn_of MX9_perform_ok (Nat.le_of_ble_eq_true rfl) ?_
  show Ex Γ l f MX9_perform 0 [some (.ref 0), some (.ref br), some (.int (nI k)), some (.int r), some (.int o), some (.int w), some (.int wi), none, none] [] G D R 0 0 _
  have h4 := hS.B.a4 q20
  have l4 := (vi_n h4 (by decide)).2
  have hkv : vp_in (nI k) (ix (E 4 q)) := vi_of hk (by omega)
  have ek : ix (nI k) = k := ix_nI (by omega)
  have hf6 := c_rfirstAt (Γ := Γ) (l := l) (f := f - 1) (by omega) hro h4 hkv
  have hf7 := c_rsecondAt (Γ := Γ) (l := l) (f := f - 1) (by omega) hro h4 hkv
  have hf5 := c_ropAt (Γ := Γ) (l := l) (f := f - 1) (by omega) hro h4 hkv
  rw [ek] at hf5 hf6 hf7
  have h5 := hS.B.a5 (t := 8 * q + k) (by omega)
  generalize E 5 (8 * q + k) = c at *
  generalize E 6 (8 * q + k) = a at *
  generalize E 7 (8 * q + k) = b at *
  refine al1 dX9_perform_0 (by first | nofun | exact xrv_ne _) ?_
  refine il2 dX9_perform_1 ?_
  refine cd9_326 (f' := f - 1) rfl dX9_perform_2 (Nat.le_of_ble_eq_true rfl) hro.1 (by omega) (hf6) ?_
  refine is7 dX9_perform_5 ?_
  refine al1 dX9_perform_7 (by first | nofun | exact xrv_ne _) ?_
  refine il2 dX9_perform_8 ?_
  refine cd9_329 (f' := f - 1) rfl dX9_perform_9 (Nat.le_of_ble_eq_true rfl) hro.1 (by omega) (hf7) ?_
  refine is8 dX9_perform_12 ?_
  refine al1 dX9_perform_14 (by first | nofun | exact xrv_ne _) ?_
  refine il2 dX9_perform_15 ?_
  refine cd9_320 (f' := f - 1) rfl dX9_perform_16 (Nat.le_of_ble_eq_true rfl) hro.1 (by omega) (hf5) ?_
  refine ex_table 0 207 [92, 95, 98, 101, 106, 117, 131, 143, 158, 168, 175, 182, 207, 189, 199] dX9_perform_19 (by decide) (by decide) (by decide) (by decide) (by decide) ⟨fun h19 => ?_, fun h19 => ?_, fun h19 => ?_, fun h19 => ?_, fun h19 => ?_, fun h19 => ?_, fun h19 => ?_, fun h19 => ?_, fun h19 => ?_, fun h19 => ?_, fun h19 => ?_, fun h19 => ?_, fun h19 => ?_, fun h19 => ?_, fun h19 => ?_, trivial⟩ (fun h19 => ?_)
  · change _ = (0 : Int32) at h19
    rw [sActC_0 h19]
    refine il7 dX9_perform_92 ?_
    refine ex_iret dX9_perform_94 rfl ?_
    exact ⟨rfl, rfl, rfl, hS, Sam.rf⟩
  · change _ = (1 : Int32) at h19
    rw [sActC_1 h19]
    refine il5 dX9_perform_95 ?_
    refine ex_iret dX9_perform_97 rfl ?_
    exact ⟨rfl, rfl, rfl, hS, Sam.rf⟩
  · change _ = (2 : Int32) at h19
    rw [sActC_2 h19]
    refine il4 dX9_perform_98 ?_
    refine ex_iret dX9_perform_100 rfl ?_
    exact ⟨rfl, rfl, rfl, hS, Sam.rf⟩
  · change _ = (3 : Int32) at h19
    rw [sActC_3 h19]
    refine il3 dX9_perform_101 ?_
    refine il7 dX9_perform_102 ?_
    refine ex_iadd dX9_perform_104 ?_
    refine ex_iret dX9_perform_105 rfl ?_
    exact ⟨rfl, rfl, rfl, hS, Sam.rf⟩
  · change _ = (4 : Int32) at h19
    rw [sActC_4 h19]
    refine al0 dX9_perform_106 (by first | nofun | exact xrv_ne _) ?_
    refine il4 dX9_perform_107 ?_
    refine il7 dX9_perform_109 ?_
    refine il8 dX9_perform_111 ?_
    refine cs9_332 (f' := f - 1) rfl dX9_perform_113 (Nat.le_of_ble_eq_true rfl) (fx0 hS.X) (by omega) (Nat.zero_le _) (Nat.zero_le _) (c_read (f := f - 1) (by omega) hS) ?_
    refine sq_k (fun D1 hS1 hM1 => ?_)
    refine ex_iret dX9_perform_116 rfl ?_
    exact ⟨rfl, rfl, rfl, hS1, hM1⟩
  · change _ = (5 : Int32) at h19
    rw [sActC_5 h19]
    refine al0 dX9_perform_117 (by first | nofun | exact xrv_ne _) ?_
    refine il4 dX9_perform_118 ?_
    refine il7 dX9_perform_120 ?_
    refine il8 dX9_perform_122 ?_
    refine il3 dX9_perform_124 ?_
    refine cs9_335 (f' := f - 1) rfl dX9_perform_125 (Nat.le_of_ble_eq_true rfl) (fx0 hS.X) (by omega) (Nat.zero_le _) (Nat.zero_le _) (c_write (f := f - 1) (by omega) hS) ?_
    refine sq_k (fun D1 hS1 hM1 => ?_)
    refine ex_pop dX9_perform_128 ?_
    refine il3 dX9_perform_129 ?_
    refine ex_iret dX9_perform_130 rfl ?_
    exact ⟨rfl, rfl, rfl, hS1, hM1⟩
  · change _ = (6 : Int32) at h19
    rw [sActC_6 h19]
    refine al0 dX9_perform_131 (by first | nofun | exact xrv_ne _) ?_
    refine il3 dX9_perform_132 ?_
    refine il7 dX9_perform_133 ?_
    refine il8 dX9_perform_135 ?_
    refine il6 dX9_perform_137 ?_
    refine cs9_156 (f' := f - 1) rfl dX9_perform_139 (Nat.le_of_ble_eq_true rfl) (fx0 hS.X) (by omega) (Nat.zero_le _) (Nat.zero_le _) (c_sendTo (f := f - 1) hN hr hrun (by omega) hS) ?_
    refine sq_k (fun D1 hS1 hM1 => ?_)
    refine ex_iret dX9_perform_142 rfl ?_
    exact ⟨rfl, rfl, rfl, hS1, hM1⟩
  · change _ = (7 : Int32) at h19
    rw [sActC_7 h19]
    refine al0 dX9_perform_143 (by first | nofun | exact xrv_ne _) ?_
    refine il8 dX9_perform_144 ?_
    refine il4 dX9_perform_146 ?_
    refine il7 dX9_perform_148 ?_
    refine il5 dX9_perform_150 ?_
    refine il6 dX9_perform_152 ?_
    refine cs9_160 (f' := f - 1) rfl dX9_perform_154 (Nat.le_of_ble_eq_true rfl) (fx0 hS.X) (by omega) (Nat.zero_le _) (Nat.zero_le _) (c_sendToAs (f := f - 1) hN hr hrun (by omega) hS) ?_
    refine sq_k (fun D1 hS1 hM1 => ?_)
    refine ex_iret dX9_perform_157 rfl ?_
    exact ⟨rfl, rfl, rfl, hS1, hM1⟩
  · change _ = (8 : Int32) at h19
    rw [sActC_8 h19]
    refine al0 dX9_perform_158 (by first | nofun | exact xrv_ne _) ?_
    refine il4 dX9_perform_159 ?_
    refine il3 dX9_perform_161 ?_
    refine cs9_338 (f' := f - 1) rfl dX9_perform_162 (Nat.le_of_ble_eq_true rfl) (fx0 hS.X) (by omega) (Nat.zero_le _) (Nat.zero_le _) (c_move (f := f - 1) (by omega) hS) ?_
    refine sq_k (fun D1 hS1 hM1 => ?_)
    refine ex_pop dX9_perform_165 ?_
    refine il3 dX9_perform_166 ?_
    refine ex_iret dX9_perform_167 rfl ?_
    exact ⟨rfl, rfl, rfl, hS1, hM1⟩
  · change _ = (9 : Int32) at h19
    rw [sActC_9 h19]
    refine al0 dX9_perform_168 (by first | nofun | exact xrv_ne _) ?_
    refine il3 dX9_perform_169 ?_
    refine ex_iconst (v := 0) dX9_perform_170 (by decide) ?_
    refine cs9_341 (f' := f - 1) rfl dX9_perform_171 (Nat.le_of_ble_eq_true rfl) (fx0 hS.X) (by omega) (Nat.zero_le _) (Nat.zero_le _) (c_tree (f := f - 1) (by omega) hS) ?_
    refine sq_k (fun D1 hS1 hM1 => ?_)
    refine ex_iret dX9_perform_174 rfl ?_
    exact ⟨rfl, rfl, rfl, hS1, hM1⟩
  · change _ = (10 : Int32) at h19
    rw [sActC_10 h19]
    refine al0 dX9_perform_175 (by first | nofun | exact xrv_ne _) ?_
    refine il3 dX9_perform_176 ?_
    refine ex_iconst (v := 1) dX9_perform_177 (by decide) ?_
    refine cs9_341 (f' := f - 1) rfl dX9_perform_178 (Nat.le_of_ble_eq_true rfl) (fx0 hS.X) (by omega) (Nat.zero_le _) (Nat.zero_le _) (c_tree (f := f - 1) (by omega) hS) ?_
    refine sq_k (fun D1 hS1 hM1 => ?_)
    refine ex_iret dX9_perform_181 rfl ?_
    exact ⟨rfl, rfl, rfl, hS1, hM1⟩
  · change _ = (11 : Int32) at h19
    rw [sActC_11 h19]
    refine al0 dX9_perform_182 (by first | nofun | exact xrv_ne _) ?_
    refine il3 dX9_perform_183 ?_
    refine ex_iconst (v := 2) dX9_perform_184 (by decide) ?_
    refine cs9_341 (f' := f - 1) rfl dX9_perform_185 (Nat.le_of_ble_eq_true rfl) (fx0 hS.X) (by omega) (Nat.zero_le _) (Nat.zero_le _) (c_tree (f := f - 1) (by omega) hS) ?_
    refine sq_k (fun D1 hS1 hM1 => ?_)
    refine ex_iret dX9_perform_188 rfl ?_
    exact ⟨rfl, rfl, rfl, hS1, hM1⟩
  · change _ = (12 : Int32) at h19
    rw [sActC_12 h19]
    refine il3 dX9_perform_207 ?_
    refine ex_iret dX9_perform_208 rfl ?_
    exact ⟨rfl, rfl, rfl, hS, Sam.rf⟩
  · change _ = (13 : Int32) at h19
    rw [sActC_13 h19]
    refine al0 dX9_perform_189 (by first | nofun | exact xrv_ne _) ?_
    refine il3 dX9_perform_190 ?_
    refine il7 dX9_perform_191 ?_
    refine cs9_344 (f' := f - 1) rfl dX9_perform_193 (Nat.le_of_ble_eq_true rfl) (fx0 hS.X) (by omega) (Nat.zero_le _) (Nat.zero_le _) (c_name (f := f - 1) (by omega) hS) ?_
    refine sq_k (fun D1 hS1 hM1 => ?_)
    refine ex_pop dX9_perform_196 ?_
    refine il3 dX9_perform_197 ?_
    refine ex_iret dX9_perform_198 rfl ?_
    exact ⟨rfl, rfl, rfl, hS1, hM1⟩
  · change _ = (14 : Int32) at h19
    rw [sActC_14 h19]
    refine al0 dX9_perform_199 (by first | nofun | exact xrv_ne _) ?_
    refine il3 dX9_perform_200 ?_
    refine il7 dX9_perform_201 ?_
    refine cd9_290 (f' := f - 1) rfl dX9_perform_203 (Nat.le_of_ble_eq_true rfl) (fx0 hS.X) (by omega) (c_isOf (by omega) hS) ?_
    refine ex_iret dX9_perform_206 rfl ?_
    exact ⟨rfl, rfl, rfl, hS, Sam.rf⟩
  · obtain ⟨h19_0, h19_1, h19_2, h19_3, h19_4, h19_5, h19_6, h19_7, h19_8, h19_9, h19_10, h19_11, h19_12, h19_13, h19_14, -⟩ := h19
    change ¬ _ = (0 : Int32) at h19_0
    change ¬ _ = (1 : Int32) at h19_1
    change ¬ _ = (2 : Int32) at h19_2
    change ¬ _ = (3 : Int32) at h19_3
    change ¬ _ = (4 : Int32) at h19_4
    change ¬ _ = (5 : Int32) at h19_5
    change ¬ _ = (6 : Int32) at h19_6
    change ¬ _ = (7 : Int32) at h19_7
    change ¬ _ = (8 : Int32) at h19_8
    change ¬ _ = (9 : Int32) at h19_9
    change ¬ _ = (10 : Int32) at h19_10
    change ¬ _ = (11 : Int32) at h19_11
    change ¬ _ = (12 : Int32) at h19_12
    change ¬ _ = (13 : Int32) at h19_13
    change ¬ _ = (14 : Int32) at h19_14
    have h19x : c = 12 := (in15 h5 h19_0 h19_1 h19_2 h19_3 h19_4 h19_5 h19_6 h19_7 h19_8 h19_9 h19_10 h19_11 h19_12 h19_13 h19_14).elim
    rw [sActC_12 h19x]
    refine il3 dX9_perform_207 ?_
    refine ex_iret dX9_perform_208 rfl ?_
    exact ⟨rfl, rfl, rfl, hS, Sam.rf⟩
theorem sActC_14' {rn : xRn} {E : xD} {c a b o w r : Int32} (q : c = 14) : (sAct1 rn E c a b o w r).1 = 0 ∨ (sAct1 rn E c a b o w r).1 = 1 := by
  rw [sActC_14 q]
  exact bi_01 _
set_option maxRecDepth 20000 in
set_option maxHeartbeats 1000000 in
theorem c_run_lp {Γ : xGm} {l : Launch} {f : Nat} {G : xG} {D0 : xD} {R : xR} {N : Nat} {rn : xRn} {wi wj : Int32} (hN : 10 ≤ N) (hr : IKr rn) (hrun : Prun Γ l G R N rn wj) (hwi : wi + 1 = wj) (hf : N + 8 ≤ f) {q br : Nat} {v o w : Int32} (q20 : q < 20) (hbr : R 3 q = some br) : ∀ (m k : Nat) (r : Int32) (D E : xD), Sim D R G E → Sam D0 D → q < ix (E 0 6) → k + m = ix (E 4 q) → Ex Γ l f MX9_run 32 [some (.ref 0), some (.int v), some (.int o), some (.int w), some (.int wi), some (.ref br), some (.int r), some (.int (nI k))] [] G D R 0 0 (Sq G R D0 (some (.int (sActs rn E (nI q) o w (nI k) r m).1)) (sActs rn E (nI q) o w (nI k) r m).2) := by
  intro m
  induction m with
  | zero =>
    intro k r D E hS hM hq6 hk
    have hk : k = ix (E 4 q) := by omega
    obtain ⟨c, hc, hro⟩ := hS.ro.1 q hq6
    rw [hbr] at hc
    cases hc
    have h4 := hS.B.a4 q20
    have e4 := vi_n h4 (by decide)
    refine al5 dX9_run_32 (by first | nofun | exact xrv_ne _) ?_
    refine ex_ifnull dX9_run_34 ?_
    refine il7 dX9_run_37 ?_
    refine al5 dX9_run_39 (by first | nofun | exact xrv_ne _) ?_
    refine gf9_80 rfl dX9_run_41 hro.1 ?_
    rw [hro.2.2.2.1]
    refine ex_icmp_ge 97 dX9_run_44 (by decide) (fun h44 => ?_) (fun h44 => ?_)
    · refine il6 dX9_run_97 ?_
      refine ex_iret dX9_run_99 rfl ?_
      exact ⟨rfl, rfl, rfl, hS, hM⟩
    · exact absurd (by rw [hk, ← e4.1]; exact Int32.le_refl _) h44
  | succ m ih =>
    intro k r D E hS hM hq6 hk
    obtain ⟨c, hc, hro⟩ := hS.ro.1 q hq6
    rw [hbr] at hc
    cases hc
    have h4 := hS.B.a4 q20
    have e4 := vi_n h4 (by decide)
    have ek8 : ix (8 * nI q + nI k) = 8 * q + k := by
      rw [show (8 : Int32) = nI 8 from rfl, pk_mul, nI_add, ix_nI (by omega)]
    rw [sActs, ek8]
    by_cases h200 : E 0 41 = 200
    · rw [if_pos h200]
      obtain ⟨hS1, hM1⟩ := Sim_spend (o := o) hS
      refine al5 dX9_run_32 (by first | nofun | exact xrv_ne _) ?_
      refine ex_ifnull dX9_run_34 ?_
      refine il7 dX9_run_37 ?_
      refine al5 dX9_run_39 (by first | nofun | exact xrv_ne _) ?_
      refine gf9_80 rfl dX9_run_41 hro.1 ?_
      rw [hro.2.2.2.1]
      refine ex_icmp_ge 97 dX9_run_44 (by decide) (fun h44 => ?_) (fun h44 => ?_)
      · exact absurd (by rw [e4.1] at h44; exact h44) (nI_ge (a := k) (b := ix (E 4 q)) (by omega) (by omega))
      · refine al0 dX9_run_47 (by first | nofun | exact xrv_ne _) ?_
        refine il2 dX9_run_48 ?_
        refine cd9_313 (f' := f - 1) rfl dX9_run_49 (Nat.le_of_ble_eq_true rfl) (fx0 hS.X) (by omega) (c_may_n (by omega) hS h200) ?_
        refine ex_if_eq 97 dX9_run_52 (by decide) (fun h52 => ?_) (fun h52 => ?_)
        · skip
          refine il6 dX9_run_97 ?_
          refine ex_iret dX9_run_99 rfl ?_
          exact ⟨rfl, rfl, rfl, hS1, hM.tr hM1⟩
        · exact absurd rfl h52
    · rw [if_neg h200]
      obtain ⟨hSa, hMa⟩ := Sim_act hS h200
      have hIK := (hS.I.kacts h200).tr (ik_act1 (c := E 5 (8 * q + k)) (a := E 6 (8 * q + k)) (b := E 7 (8 * q + k)) (o := o) (w := w) (r := r) hr (hS.I.kacts h200).1)
      have e5 : ∀ j, j ≠ 0 → xdu E 0 41 (E 0 41 + 1) j = E j := fun j hj => xdu_ne _ _ _ hj
      have e06 : xdu E 0 41 (E 0 41 + 1) 0 6 = E 0 6 := by rw [xdu_self, upd_ne _ _ (by decide)]
      obtain ⟨c, hc, hroa⟩ := hSa.ro.1 q (by rw [e06]; exact hq6)
      rw [hbr] at hc
      cases hc
      have hpf := c_perform (f := f - 1) (r := r) (o := o) (w := w) (k := k) hN hr hrun (by omega) hSa hroa q20 (by rw [e5 4 (by decide)]; omega)
      rw [e5 5 (by decide), e5 6 (by decide), e5 7 (by decide)] at hpf
      have h14 : E 5 (8 * q + k) = 14 → (sAct1 rn (xdu E 0 41 (E 0 41 + 1)) (E 5 (8 * q + k)) (E 6 (8 * q + k)) (E 7 (8 * q + k)) o w r).1 = 0 ∨ (sAct1 rn (xdu E 0 41 (E 0 41 + 1)) (E 5 (8 * q + k)) (E 6 (8 * q + k)) (E 7 (8 * q + k)) o w r).1 = 1 := fun z => sActC_14' z
      generalize hA : sAct1 rn (xdu E 0 41 (E 0 41 + 1)) (E 5 (8 * q + k)) (E 6 (8 * q + k)) (E 7 (8 * q + k)) o w r = A at *
      rw [show nI k + 1 = nI (k + 1) from nI_1 k]
      refine al5 dX9_run_32 (by first | nofun | exact xrv_ne _) ?_
      refine ex_ifnull dX9_run_34 ?_
      refine il7 dX9_run_37 ?_
      refine al5 dX9_run_39 (by first | nofun | exact xrv_ne _) ?_
      refine gf9_80 rfl dX9_run_41 hro.1 ?_
      rw [hro.2.2.2.1]
      refine ex_icmp_ge 97 dX9_run_44 (by decide) (fun h44 => ?_) (fun h44 => ?_)
      · exact absurd (by rw [e4.1] at h44; exact h44) (nI_ge (a := k) (b := ix (E 4 q)) (by omega) (by omega))
      · refine al0 dX9_run_47 (by first | nofun | exact xrv_ne _) ?_
        refine il2 dX9_run_48 ?_
        refine cd9_313 (f' := f - 1) rfl dX9_run_49 (Nat.le_of_ble_eq_true rfl) (fx0 hS.X) (by omega) (c_may_y (by omega) hS h200) ?_
        refine ex_if_eq 97 dX9_run_52 (by decide) (fun h52 => ?_) (fun h52 => ?_)
        · exact absurd h52 (by decide)
        · skip
          refine al0 dX9_run_55 (by first | nofun | exact xrv_ne _) ?_
          refine al5 dX9_run_56 (by first | nofun | exact xrv_ne _) ?_
          refine il7 dX9_run_58 ?_
          refine il6 dX9_run_60 ?_
          refine il2 dX9_run_62 ?_
          refine il3 dX9_run_63 ?_
          refine il4 dX9_run_64 ?_
          refine ex_iconst (v := 1) dX9_run_66 (by decide) ?_
          refine ex_iadd dX9_run_67 ?_
          rw [hwi]
          refine cs9_316 (f' := f - 1) rfl dX9_run_68 (Nat.le_of_ble_eq_true rfl) (fx0 hS.X) (by omega) (Nat.zero_le _) (Nat.zero_le _) (hpf) ?_
          refine sq_k (fun D1 hS1 hM1 => ?_)
          have hM2 := (hM.tr hMa).tr hM1
          obtain ⟨⟨k4, k5⟩, -, -, k0⟩ := hIK.2
          have q6 : q < ix (A.2 0 6) := by rw [k0 6 (by decide) (by decide) (by decide) (by decide)]; exact hq6
          obtain ⟨c, hc, hro1⟩ := hS1.ro.1 q q6
          rw [hbr] at hc
          cases hc
          have hop := c_ropAt (Γ := Γ) (l := l) (f := f - 1) (k := nI k) (by omega) hro1 (hS1.B.a4 q20) (by rw [k4]; exact vi_of (by omega) (by omega))
          rw [k5, ix_nI (show k < 2 ^ 31 by omega)] at hop
          refine is6 dX9_run_71 ?_
          refine al5 dX9_run_73 (by first | nofun | exact xrv_ne _) ?_
          refine il7 dX9_run_75 ?_
          refine cd9_320 (f' := f - 1) rfl dX9_run_77 (Nat.le_of_ble_eq_true rfl) hro.1 (by omega) (hop) ?_
          refine il6 dX9_run_80 ?_
          refine cd9_323 (f' := f - 1) rfl dX9_run_82 (Nat.le_of_ble_eq_true rfl) (by omega) (c_ends h14) ?_
          refine ex_if_eq 91 dX9_run_85 (by decide) (fun h85 => ?_) (fun h85 => ?_)
          · simp only [bi_0, Bool.not_eq_false] at h85
            refine ic7 (nI (k + 1)) dX9_run_91 (nI_1 k) ?_
            refine ex_goto 32 dX9_run_94 (by decide) ?_
            rw [if_neg (by rw [h85]; decide)]
            exact ih (k + 1) _ D1 _ hS1 hM2 q6 (by rw [k4]; omega)
          · simp only [bi_0, Bool.not_eq_false] at h85
            refine il6 dX9_run_88 ?_
            refine ex_iret dX9_run_90 rfl ?_
            rw [if_pos h85]
            exact ⟨rfl, rfl, rfl, hS1, hM2⟩
set_option maxRecDepth 20000 in
set_option maxHeartbeats 1000000 in
theorem c_run_0 {Γ : xGm} {l : Launch} {G : xG} {R : xR} : Prun Γ l G R 10 (sRun 0) 12 := by
  intro f D E v o w hf hS hM
  refine cn_of MX9_run_ok (Nat.le_of_ble_eq_true rfl) ?_
  show Ex Γ l f MX9_run 0 [some (.ref 0), some (.int v), some (.int o), some (.int w), some (.int 12), none, none, none] [] G D R 0 0 _
  rw [show sRun 0 E v o w = (0, sFails E 9 o 0) from rfl]
  refine il4 dX9_run_0 ?_
  refine ex_bipush (v := 12) dX9_run_2 (by decide) ?_
  refine ex_icmp_lt 19 dX9_run_4 (by decide) (fun h4 => ?_) (fun h4 => ?_)
  · exact absurd (by decide) h4
  · refine al0 dX9_run_7 (by first | nofun | exact xrv_ne _) ?_
    refine gf9_57 rfl dX9_run_8 (fr0_6 hS.X) (fx0 hS.X) ?_
    refine ex_bipush (v := 9) dX9_run_11 (by decide) ?_
    refine il2 dX9_run_13 ?_
    refine ex_iconst (v := 0) dX9_run_14 (by decide) ?_
    refine cd9_175 (f' := f - 1) rfl dX9_run_15 (Nat.le_of_ble_eq_true rfl) (fx13 hS.X) (by omega) (c_tell hS.X hS.n13) ?_
    refine ex_iret dX9_run_18 rfl ?_
    exact ⟨rfl, rfl, rfl, (Sim_tell hS _ _ _).1, (Sim_tell hS _ _ _).2⟩
set_option maxRecDepth 20000 in
set_option maxHeartbeats 1000000 in
theorem c_run_s {Γ : xGm} {l : Launch} {G : xG} {R : xR} {n N : Nat} {wi wj : Int32} (hN : 10 ≤ N) (h : Prun Γ l G R N (sRun n) wj) (hwi : wi + 1 = wj) (h12 : ¬ 12 ≤ wi) : Prun Γ l G R (N + 8) (sRun (n + 1)) wi := by
  intro f D E v o w hf hS hM
  have hv3 := (meta_4 hS.B).mp hM
  obtain ⟨br, hb, hro, r20, hv20⟩ := sim_ro hS hv3
  have hlt := (sIn_b (b := 200) hv3 hS.B.n6 (by decide) (by decide)).2.1
  obtain ⟨ev, -⟩ := vi_n hv20 (by decide)
  refine cn_of MX9_run_ok (Nat.le_of_ble_eq_true rfl) ?_
  show Ex Γ l f MX9_run 0 [some (.ref 0), some (.int v), some (.int o), some (.int w), some (.int wi), none, none, none] [] G D R 0 0 _
  rw [show sRun (n + 1) E v o w = sActs (sRun n) E (v - 201) o w 0 0 (ix (E 4 (ix (v - 201)))) from rfl]
  rw [show sActs (sRun n) E (v - 201) o w 0 0 (ix (E 4 (ix (v - 201)))) = sActs (sRun n) E (nI (ix (v - 201))) o w (nI 0) 0 (ix (E 4 (ix (v - 201)))) from by rw [← ev]; rfl]
  refine il4 dX9_run_0 ?_
  refine ex_bipush (v := 12) dX9_run_2 (by decide) ?_
  refine ex_icmp_lt 19 dX9_run_4 (by decide) (fun h4 => ?_) (fun h4 => ?_)
  · refine al0 dX9_run_19 (by first | nofun | exact xrv_ne _) ?_
    refine il1 dX9_run_20 ?_
    refine cd9_76 (f' := f - 1) rfl dX9_run_21 (Nat.le_of_ble_eq_true rfl) (fx0 hS.X) (by omega) (c_routine_y hS.X hS.n10 (by rw [hS.A.2.2.1]; exact hv3) hb) ?_
    refine as5 dX9_run_24 (by first | nofun | exact xrv_ne _) ?_
    refine ex_iconst (v := 0) dX9_run_26 (by decide) ?_
    refine is6 dX9_run_27 ?_
    refine ex_iconst (v := 0) dX9_run_29 (by decide) ?_
    refine is7 dX9_run_30 ?_
    exact c_run_lp hN (ik_run n) h hwi (by omega) r20 hb (ix (E 4 (ix (v - 201)))) 0 0 D E hS Sam.rf hlt (by omega)
  · exact absurd h4 h12
theorem c_run_n {Γ : xGm} {l : Launch} {G : xG} {R : xR} : ∀ n, n ≤ 12 → Prun Γ l G R (10 + 8 * n) (sRun n) (nI (12 - n))
  | 0, _ => c_run_0
  | n + 1, h => by
    have := c_run_s (wi := nI (12 - (n + 1))) (by omega) (c_run_n (Γ := Γ) (l := l) (G := G) (R := R) n (by omega)) (by rw [show nI (12 - (n + 1)) + 1 = nI (12 - (n + 1) + 1) from nI_1 _]; congr 1; omega) (nI_ge (a := 12 - (n + 1)) (b := 12) (by omega) (by decide))
    rw [show 10 + 8 * (n + 1) = 10 + 8 * n + 8 by omega]
    exact this
theorem c_run_12 {Γ : xGm} {l : Launch} {G : xG} {R : xR} : Prun Γ l G R 106 (sRun 12) 0 := c_run_n 12 (Nat.le_refl _)
set_option maxRecDepth 20000 in
set_option maxHeartbeats 1000000 in
theorem c_send {Γ : xGm} {l : Launch} {f : Nat} {G : xG} {D E : xD} {R : xR} (hf : 113 ≤ f) (hS : Sim D R G E) {o n w : Int32} : Cn Γ l f MX9_send [.ref 0, .int o, .int n, .int w] G D R 0 0 (Sq G R D (some (.int (sSend (sRun 12) (sBegin E) o n w).1)) (sSend (sRun 12) (sBegin E) o n w).2) := by
  refine cn_of MX9_send_ok (Nat.le_of_ble_eq_true rfl) ?_
  show Ex Γ l f MX9_send 0 [some (.ref 0), some (.int o), some (.int n), some (.int w)] [] G D R 0 0 _
  obtain ⟨hSb, hMb⟩ := Sim_begin hS
  refine al0 dX9_send_0 (by first | nofun | exact xrv_ne _) ?_
  refine cd9_153 (f' := f - 1) rfl dX9_send_1 (Nat.le_of_ble_eq_true rfl) (fx0 hS.X) (by omega) (c_start hS.X) ?_
  refine al0 dX9_send_4 (by first | nofun | exact xrv_ne _) ?_
  refine il1 dX9_send_5 ?_
  refine il2 dX9_send_6 ?_
  refine il3 dX9_send_7 ?_
  refine ex_iconst (v := 0) dX9_send_8 (by decide) ?_
  refine cs9_156 (f' := f - 1) rfl dX9_send_9 (Nat.le_of_ble_eq_true rfl) (fx0 hS.X) (by omega) (Nat.zero_le _) (Nat.zero_le _) (c_sendTo (f := f - 1) (N := 106) (by decide) (ik_run 12) c_run_12 (by omega) hSb) ?_
  refine sq_k (fun D1 hS1 hM1 => ?_)
  refine ex_iret dX9_send_12 rfl ?_
  exact ⟨rfl, rfl, rfl, hS1, hMb.tr hM1⟩
set_option maxRecDepth 20000 in
set_option maxHeartbeats 1000000 in
theorem c_sendAs {Γ : xGm} {l : Launch} {f : Nat} {G : xG} {D E : xD} {R : xR} (hf : 113 ≤ f) (hS : Sim D R G E) {g o n w : Int32} : Cn Γ l f MX9_sendAs [.ref 0, .int g, .int o, .int n, .int w] G D R 0 0 (Sq G R D (some (.int (sSendAs (sRun 12) (sBegin E) g o n w).1)) (sSendAs (sRun 12) (sBegin E) g o n w).2) := by
  refine cn_of MX9_sendAs_ok (Nat.le_of_ble_eq_true rfl) ?_
  show Ex Γ l f MX9_sendAs 0 [some (.ref 0), some (.int g), some (.int o), some (.int n), some (.int w)] [] G D R 0 0 _
  obtain ⟨hSb, hMb⟩ := Sim_begin hS
  refine al0 dX9_sendAs_0 (by first | nofun | exact xrv_ne _) ?_
  refine cd9_153 (f' := f - 1) rfl dX9_sendAs_1 (Nat.le_of_ble_eq_true rfl) (fx0 hS.X) (by omega) (c_start hS.X) ?_
  refine al0 dX9_sendAs_4 (by first | nofun | exact xrv_ne _) ?_
  refine il1 dX9_sendAs_5 ?_
  refine il2 dX9_sendAs_6 ?_
  refine il3 dX9_sendAs_7 ?_
  refine il4 dX9_sendAs_8 ?_
  refine ex_iconst (v := 0) dX9_sendAs_10 (by decide) ?_
  refine cs9_160 (f' := f - 1) rfl dX9_sendAs_11 (Nat.le_of_ble_eq_true rfl) (fx0 hS.X) (by omega) (Nat.zero_le _) (Nat.zero_le _) (c_sendToAs (f := f - 1) (N := 106) (by decide) (ik_run 12) c_run_12 (by omega) hSb) ?_
  refine sq_k (fun D1 hS1 hM1 => ?_)
  refine ex_iret dX9_sendAs_14 rfl ?_
  exact ⟨rfl, rfl, rfl, hS1, hMb.tr hM1⟩
