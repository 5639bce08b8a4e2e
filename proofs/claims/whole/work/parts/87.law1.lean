/-! ===== THE LAW ===== -/
abbrev ML (nm : String) : xMt := (⟨RL, nm, "([I)Z"⟩, cL_law, 4, some .boolean)
def lwQ : Option Value → xG → xD → xR → Prop := fun v _ _ _ => v = some (.int 1)
theorem ms_same {E : xD} : ms E E = E := by
  funext j k
  unfold ms
  split <;> rfl
theorem mg_mg {D E : xD} : mg D E = mg (mg D E) E := by
  funext q
  unfold mg
  split <;> rfl
theorem Sim_mgF {D E F : xD} {R : xR} {G : xG} (h : Sim D R G E) : Sim (mg D F) R G E := Sim_mg h (fun p hp => by unfold mg; rw [if_neg (by omega)])
theorem mg_sam {D D1 E : xD} (hD : D = mg D E) (hM : Sam D D1) : D1 = mg D1 E := by
  funext q
  unfold mg
  by_cases h : 17 ≤ q ∧ q < 47
  · rw [if_pos h, hM q h.1 h.2]
    have := congrFun hD q
    unfold mg at this
    rw [if_pos h] at this
    exact this
  · rw [if_neg h]
section L1
variable {Γ : xGm} {l : Launch} {f : Nat} {G : xG} {D E : xD} {R : xR}
theorem q1_send (hX : xFix G R) (hf : 11 ≤ f) (hI : Iv E) {o n w : Int32} : Cn Γ l f MX10_send [.ref 17, .int o, .int n, .int w] G (mg D E) R 0 0 (qAns G D R (sSend (sRun 12) (sBegin E) o n w)) := by
  have z := q_send (Γ := Γ) (l := l) (D := D) (S := E) hX hf hI (o := o) (n := n) (w := w)
  rw [ms_same] at z
  exact z
theorem q1_sendAs (hX : xFix G R) (hf : 11 ≤ f) (hI : Iv E) {g o n w : Int32} : Cn Γ l f MX10_sendAs [.ref 17, .int g, .int o, .int n, .int w] G (mg D E) R 0 0 (qAns G D R (sSendAs (sRun 12) (sBegin E) g o n w)) := by
  have z := q_sendAs (Γ := Γ) (l := l) (D := D) (S := E) hX hf hI (g := g) (o := o) (n := n) (w := w)
  rw [ms_same] at z
  exact z
theorem q1_loop (hX : xFix G R) (hf : 11 ≤ f) (hI : Iv E) {o r : Int32} : Cn Γ l f MX10_loop [.ref 17, .int o, .int r] G (mg D E) R 0 0 (qAns G D R (sLoopT E o r)) := by
  have z := q_loop (Γ := Γ) (l := l) (D := D) (S := E) hX hf hI (o := o) (r := r)
  rw [ms_same] at z
  exact z
theorem q1_move (hX : xFix G R) (hf : 2 ≤ f) (hI : Iv E) {a b : Int32} : Cn Γ l f MX10_move [.ref 17, .int a, .int b] G (mg D E) R 0 0 (xdet (some (.int (sMove E a b).1)) G (mg D (ms E (sMove E a b).2)) R) := by
  have z := q_move (Γ := Γ) (l := l) (D := D) (S := E) hX hf (a := a) (b := b) hI
  rw [ms_same] at z
  exact z
theorem q1_tree (hX : xFix G R) (hf : 2 ≤ f) (hI : Iv E) {v w : Int32} : Cn Γ l f MX10_tree [.ref 17, .int v, .int w] G (mg D E) R 0 0 (xdet (some (.int (sTree E v w).1)) G (mg D (ms E (sTree E v w).2)) R) := by
  have z := q_tree (Γ := Γ) (l := l) (D := D) (S := E) hX hf (v := v) (w := w) hI
  rw [ms_same] at z
  exact z
end L1
/-- what comes behind a call -/
def LwI (Γ : xGm) (l : Launch) (f : Nat) (nm : String) (i kc kw : Nat) : Prop := ∀ (G : xG) (D : xD) (R : xR) (E : xD) (kc' kw' : Nat), Sim D R G E → D = mg D E → kc ≤ kc' → kw ≤ kw' → Ex Γ l f (ML nm) 1091 [some (.ref 1000019), some (.ref 0), some (.ref 17), some (.int (nI i))] [] G D R kc' kw' lwQ
theorem sc_v {i k N : Nat} (h : i + k < N) (hN : N ≤ 2561) : vp_in (nI i + nI k) N := by
  rw [nI_add]
  exact vi_of h (by omega)
theorem sc_le {i N : Nat} (hi : i ≤ 5000) (hN : N ≤ 2561) (h : nI i ≤ nI N - 5) : i + 5 ≤ N := by
  by_cases q : 5 ≤ N
  · rw [show (5 : Int32) = nI 5 from rfl, pk_sub q, nI_leI (by omega) (by omega)] at h
    omega
  · have h0 : (0 : Int32) ≤ nI N - 5 := Int32.le_trans (nI_le (a := 0) (by omega) (by omega)) h
    rcases (show N = 0 ∨ N = 1 ∨ N = 2 ∨ N = 3 ∨ N = 4 by omega) with rfl | rfl | rfl | rfl | rfl <;> exact absurd h0 (by decide)
def sc0 (Γ : xGm) : Int32 := if scN Γ = 0 then 0 else sc Γ 0
set_option maxRecDepth 20000 in
set_option maxHeartbeats 1000000 in
theorem c_cell {Γ : xGm} {l : Launch} {f : Nat} {G : xG} {D : xD} {R : xR} (hN : scN Γ ≤ 2561) : Cn Γ l f ML_cell [.ref 1000019, .int 0] G D R 0 0 (xdet (some (.int (sc0 Γ))) G D R) := by
  refine cn_of ML_cell_ok (Nat.le_of_ble_eq_true rfl) ?_
  show Ex Γ l f ML_cell 0 [some (.ref 1000019), some (.int 0)] [] G D R 0 0 _
  refine il1 dL_cell_0 ?_
  refine al0 dL_cell_1 (by first | nofun | exact xrv_ne _) ?_
  refine ex_sclen dL_cell_2 ?_
  refine ex_icmp_ge 12 dL_cell_3 (by decide) (fun h3 => ?_) (fun h3 => ?_)
  · have z : scN Γ = 0 := by
      have q := (nI_leI (b := 0) (by omega) (by decide)).mp h3
      omega
    refine ex_iconst (v := 0) dL_cell_12 (by decide) ?_
    refine ex_iret dL_cell_13 rfl ?_
    refine ⟨?_, rfl, rfl, rfl⟩
    unfold sc0
    first | rw [if_pos z] | rw [if_neg z]
  · have z : ¬ scN Γ = 0 := fun q => h3 (by rw [q]; decide)
    refine al0 dL_cell_6 (by first | nofun | exact xrv_ne _) ?_
    refine il1 dL_cell_7 ?_
    refine ex_scld dL_cell_8 (vi_of (n := 0) (by omega) (by omega)) ?_
    refine ex_goto 13 dL_cell_9 (by decide) ?_
    refine ex_iret dL_cell_13 rfl ?_
    refine ⟨?_, rfl, rfl, rfl⟩
    unfold sc0
    first | rw [if_pos z] | rw [if_neg z]
set_option maxRecDepth 20000 in
set_option maxHeartbeats 1000000 in
theorem lw_c0 {Γ : xGm} {l : Launch} {f : Nat} {nm : String} (hf : 130 ≤ f) {i kc kw kc0 kw0 : Nat} (hn : LwI Γ l f nm i kc kw) (hi : i + 5 ≤ scN Γ) (hN : scN Γ ≤ 2561) {G : xG} {D E : xD} {R : xR} (hS : Sim D R G E) (hD : D = mg D E) (h30 : kc + 30 ≤ kc0) (h525 : kw + 525 ≤ kw0) : Ex Γ l f (ML nm) 164 [some (.ref 1000019), some (.ref 0), some (.ref 17), some (.int (nI i))] [] G D R kc0 kw0 lwQ := by
  refine al1 dL_law_164 (by first | nofun | exact xrv_ne _) ?_
  refine al0 dL_law_165 (by first | nofun | exact xrv_ne _) ?_
  refine il3 dL_law_166 ?_
  refine ex_iconst (v := 1) dL_law_167 (by decide) ?_
  refine ex_iadd dL_law_168 ?_
  refine ex_scld dL_law_169 (sc_v (k := 1) (by omega) hN) ?_
  refine csL_21 (f' := f - 1) rfl dL_law_170 (Nat.le_of_ble_eq_true rfl) (fx0 hS.X) (by omega) (Nat.zero_le _) (Nat.zero_le _) (c_letter (by omega) hS) ?_
  refine sq_k (fun D1 hS1 hM1 => ?_)
  have e1 := mg_sam hD hM1
  rw [e1]
  refine al2 dL_law_173 (by first | nofun | exact xrv_ne _) ?_
  refine al0 dL_law_174 (by first | nofun | exact xrv_ne _) ?_
  refine il3 dL_law_175 ?_
  refine ex_iconst (v := 1) dL_law_176 (by decide) ?_
  refine ex_iadd dL_law_177 ?_
  refine ex_scld dL_law_178 (sc_v (k := 1) (by omega) hN) ?_
  refine cdL_25 (f' := f - 1) rfl dL_law_179 (Nat.le_of_ble_eq_true rfl) (fx17 hS1.X) (by omega) (r_letter hS1.X (by omega) hS.B) ?_
  refine ex_icmp_eq 1091 dL_law_182 (by decide) (fun h182 => ?_) (fun h182 => ?_)
  · exact hn _ _ _ _ _ _ (Sim_mgF hS1) mg_mg (by omega) (by omega)
  · exact absurd rfl h182
set_option maxRecDepth 20000 in
set_option maxHeartbeats 1000000 in
theorem lw_c1 {Γ : xGm} {l : Launch} {f : Nat} {nm : String} (hf : 130 ≤ f) {i kc kw kc0 kw0 : Nat} (hn : LwI Γ l f nm i kc kw) (hi : i + 5 ≤ scN Γ) (hN : scN Γ ≤ 2561) {G : xG} {D E : xD} {R : xR} (hS : Sim D R G E) (hD : D = mg D E) (h30 : kc + 30 ≤ kc0) (h525 : kw + 525 ≤ kw0) : Ex Γ l f (ML nm) 187 [some (.ref 1000019), some (.ref 0), some (.ref 17), some (.int (nI i))] [] G D R kc0 kw0 lwQ := by
  refine al1 dL_law_187 (by first | nofun | exact xrv_ne _) ?_
  refine csL_26 (f' := f - 1) rfl dL_law_188 (Nat.le_of_ble_eq_true rfl) (fx0 hS.X) (by omega) (by omega) (by omega) (c_text (by omega) hS) ?_
  rintro v1 G1 D1 R1 ⟨rfl, hS1, hM1⟩
  have e1 := mg_sam hD hM1
  rw [e1]
  refine al2 dL_law_191 (by first | nofun | exact xrv_ne _) ?_
  refine cdL_30 (f' := f - 1) rfl dL_law_192 (Nat.le_of_ble_eq_true rfl) (fx17 hS1.X) (by omega) (r_text hS1.X hS.B) ?_
  refine ex_icmp_eq 1091 dL_law_195 (by decide) (fun h195 => ?_) (fun h195 => ?_)
  · exact hn _ _ _ _ _ _ (Sim_mgF hS1) mg_mg (by omega) (by omega)
  · exact absurd rfl h195
set_option maxRecDepth 20000 in
set_option maxHeartbeats 1000000 in
theorem lw_c2 {Γ : xGm} {l : Launch} {f : Nat} {nm : String} (hf : 130 ≤ f) {i kc kw kc0 kw0 : Nat} (hn : LwI Γ l f nm i kc kw) (hi : i + 5 ≤ scN Γ) (hN : scN Γ ≤ 2561) {G : xG} {D E : xD} {R : xR} (hS : Sim D R G E) (hD : D = mg D E) (h30 : kc + 30 ≤ kc0) (h525 : kw + 525 ≤ kw0) : Ex Γ l f (ML nm) 200 [some (.ref 1000019), some (.ref 0), some (.ref 17), some (.int (nI i))] [] G D R kc0 kw0 lwQ := by
  refine al1 dL_law_200 (by first | nofun | exact xrv_ne _) ?_
  refine csL_31 (f' := f - 1) rfl dL_law_201 (Nat.le_of_ble_eq_true rfl) (fx0 hS.X) (by omega) (by omega) (by omega) (c_routine (by omega) hS) ?_
  rintro v1 G1 D1 R1 ⟨rfl, hS1, hM1⟩
  have e1 := mg_sam hD hM1
  rw [e1]
  refine al2 dL_law_204 (by first | nofun | exact xrv_ne _) ?_
  refine cdL_34 (f' := f - 1) rfl dL_law_205 (Nat.le_of_ble_eq_true rfl) (fx17 hS1.X) (by omega) (r_routine hS1.X) ?_
  refine ex_icmp_eq 1091 dL_law_208 (by decide) (fun h208 => ?_) (fun h208 => ?_)
  · exact hn _ _ _ _ _ _ (Sim_mgF hS1) mg_mg (by omega) (by omega)
  · exact absurd rfl h208
set_option maxRecDepth 20000 in
set_option maxHeartbeats 1000000 in
theorem lw_c3 {Γ : xGm} {l : Launch} {f : Nat} {nm : String} (hf : 130 ≤ f) {i kc kw kc0 kw0 : Nat} (hn : LwI Γ l f nm i kc kw) (hi : i + 5 ≤ scN Γ) (hN : scN Γ ≤ 2561) {G : xG} {D E : xD} {R : xR} (hS : Sim D R G E) (hD : D = mg D E) (h30 : kc + 30 ≤ kc0) (h525 : kw + 525 ≤ kw0) : Ex Γ l f (ML nm) 213 [some (.ref 1000019), some (.ref 0), some (.ref 17), some (.int (nI i))] [] G D R kc0 kw0 lwQ := by
  refine al1 dL_law_213 (by first | nofun | exact xrv_ne _) ?_
  refine al0 dL_law_214 (by first | nofun | exact xrv_ne _) ?_
  refine il3 dL_law_215 ?_
  refine ex_iconst (v := 1) dL_law_216 (by decide) ?_
  refine ex_iadd dL_law_217 ?_
  refine ex_scld dL_law_218 (sc_v (k := 1) (by omega) hN) ?_
  refine al0 dL_law_219 (by first | nofun | exact xrv_ne _) ?_
  refine il3 dL_law_220 ?_
  refine ex_iconst (v := 2) dL_law_221 (by decide) ?_
  refine ex_iadd dL_law_222 ?_
  refine ex_scld dL_law_223 (sc_v (k := 2) (by omega) hN) ?_
  refine al0 dL_law_224 (by first | nofun | exact xrv_ne _) ?_
  refine il3 dL_law_225 ?_
  refine ex_iconst (v := 3) dL_law_226 (by decide) ?_
  refine ex_iadd dL_law_227 ?_
  refine ex_scld dL_law_228 (sc_v (k := 3) (by omega) hN) ?_
  refine al0 dL_law_229 (by first | nofun | exact xrv_ne _) ?_
  refine il3 dL_law_230 ?_
  refine ex_iconst (v := 4) dL_law_231 (by decide) ?_
  refine ex_iadd dL_law_232 ?_
  refine ex_scld dL_law_233 (sc_v (k := 4) (by omega) hN) ?_
  refine csL_35 (f' := f - 1) rfl dL_law_234 (Nat.le_of_ble_eq_true rfl) (fx0 hS.X) (by omega) (Nat.zero_le _) (Nat.zero_le _) (c_act (by omega) hS) ?_
  refine sq_k (fun D1 hS1 hM1 => ?_)
  have e1 := mg_sam hD hM1
  rw [e1]
  refine al2 dL_law_237 (by first | nofun | exact xrv_ne _) ?_
  refine al0 dL_law_238 (by first | nofun | exact xrv_ne _) ?_
  refine il3 dL_law_239 ?_
  refine ex_iconst (v := 1) dL_law_240 (by decide) ?_
  refine ex_iadd dL_law_241 ?_
  refine ex_scld dL_law_242 (sc_v (k := 1) (by omega) hN) ?_
  refine al0 dL_law_243 (by first | nofun | exact xrv_ne _) ?_
  refine il3 dL_law_244 ?_
  refine ex_iconst (v := 2) dL_law_245 (by decide) ?_
  refine ex_iadd dL_law_246 ?_
  refine ex_scld dL_law_247 (sc_v (k := 2) (by omega) hN) ?_
  refine al0 dL_law_248 (by first | nofun | exact xrv_ne _) ?_
  refine il3 dL_law_249 ?_
  refine ex_iconst (v := 3) dL_law_250 (by decide) ?_
  refine ex_iadd dL_law_251 ?_
  refine ex_scld dL_law_252 (sc_v (k := 3) (by omega) hN) ?_
  refine al0 dL_law_253 (by first | nofun | exact xrv_ne _) ?_
  refine il3 dL_law_254 ?_
  refine ex_iconst (v := 4) dL_law_255 (by decide) ?_
  refine ex_iadd dL_law_256 ?_
  refine ex_scld dL_law_257 (sc_v (k := 4) (by omega) hN) ?_
  refine cdL_39 (f' := f - 1) rfl dL_law_258 (Nat.le_of_ble_eq_true rfl) (fx17 hS1.X) (by omega) (r_act hS1.X (by omega) hS.B) ?_
  refine ex_icmp_eq 1091 dL_law_261 (by decide) (fun h261 => ?_) (fun h261 => ?_)
  · exact hn _ _ _ _ _ _ (Sim_mgF hS1) mg_mg (by omega) (by omega)
  · exact absurd rfl h261
set_option maxRecDepth 20000 in
set_option maxHeartbeats 1000000 in
theorem lw_c4 {Γ : xGm} {l : Launch} {f : Nat} {nm : String} (hf : 130 ≤ f) {i kc kw kc0 kw0 : Nat} (hn : LwI Γ l f nm i kc kw) (hi : i + 5 ≤ scN Γ) (hN : scN Γ ≤ 2561) {G : xG} {D E : xD} {R : xR} (hS : Sim D R G E) (hD : D = mg D E) (h30 : kc + 30 ≤ kc0) (h525 : kw + 525 ≤ kw0) : Ex Γ l f (ML nm) 266 [some (.ref 1000019), some (.ref 0), some (.ref 17), some (.int (nI i))] [] G D R kc0 kw0 lwQ := by
  refine al1 dL_law_266 (by first | nofun | exact xrv_ne _) ?_
  refine al0 dL_law_267 (by first | nofun | exact xrv_ne _) ?_
  refine il3 dL_law_268 ?_
  refine ex_iconst (v := 1) dL_law_269 (by decide) ?_
  refine ex_iadd dL_law_270 ?_
  refine ex_scld dL_law_271 (sc_v (k := 1) (by omega) hN) ?_
  refine al0 dL_law_272 (by first | nofun | exact xrv_ne _) ?_
  refine il3 dL_law_273 ?_
  refine ex_iconst (v := 2) dL_law_274 (by decide) ?_
  refine ex_iadd dL_law_275 ?_
  refine ex_scld dL_law_276 (sc_v (k := 2) (by omega) hN) ?_
  refine al0 dL_law_277 (by first | nofun | exact xrv_ne _) ?_
  refine il3 dL_law_278 ?_
  refine ex_iconst (v := 3) dL_law_279 (by decide) ?_
  refine ex_iadd dL_law_280 ?_
  refine ex_scld dL_law_281 (sc_v (k := 3) (by omega) hN) ?_
  refine csL_40 (f' := f - 1) rfl dL_law_282 (Nat.le_of_ble_eq_true rfl) (fx0 hS.X) (by omega) (by omega) (by omega) (c_group (by omega) hS) ?_
  rintro v1 G1 D1 R1 ⟨rfl, hS1, hM1⟩
  have e1 := mg_sam hD hM1
  rw [e1]
  refine al2 dL_law_285 (by first | nofun | exact xrv_ne _) ?_
  refine al0 dL_law_286 (by first | nofun | exact xrv_ne _) ?_
  refine il3 dL_law_287 ?_
  refine ex_iconst (v := 1) dL_law_288 (by decide) ?_
  refine ex_iadd dL_law_289 ?_
  refine ex_scld dL_law_290 (sc_v (k := 1) (by omega) hN) ?_
  refine al0 dL_law_291 (by first | nofun | exact xrv_ne _) ?_
  refine il3 dL_law_292 ?_
  refine ex_iconst (v := 2) dL_law_293 (by decide) ?_
  refine ex_iadd dL_law_294 ?_
  refine ex_scld dL_law_295 (sc_v (k := 2) (by omega) hN) ?_
  refine al0 dL_law_296 (by first | nofun | exact xrv_ne _) ?_
  refine il3 dL_law_297 ?_
  refine ex_iconst (v := 3) dL_law_298 (by decide) ?_
  refine ex_iadd dL_law_299 ?_
  refine ex_scld dL_law_300 (sc_v (k := 3) (by omega) hN) ?_
  refine cdL_44 (f' := f - 1) rfl dL_law_301 (Nat.le_of_ble_eq_true rfl) (fx17 hS1.X) (by omega) (r_group hS1.X (by omega) hS.B hS.I.2.1) ?_
  refine ex_icmp_eq 1091 dL_law_304 (by decide) (fun h304 => ?_) (fun h304 => ?_)
  · exact hn _ _ _ _ _ _ (Sim_mgF hS1) mg_mg (by omega) (by omega)
  · exact absurd rfl h304
set_option maxRecDepth 20000 in
set_option maxHeartbeats 1000000 in
theorem lw_c5 {Γ : xGm} {l : Launch} {f : Nat} {nm : String} (hf : 130 ≤ f) {i kc kw kc0 kw0 : Nat} (hn : LwI Γ l f nm i kc kw) (hi : i + 5 ≤ scN Γ) (hN : scN Γ ≤ 2561) {G : xG} {D E : xD} {R : xR} (hS : Sim D R G E) (hD : D = mg D E) (h30 : kc + 30 ≤ kc0) (h525 : kw + 525 ≤ kw0) : Ex Γ l f (ML nm) 309 [some (.ref 1000019), some (.ref 0), some (.ref 17), some (.int (nI i))] [] G D R kc0 kw0 lwQ := by
  refine al1 dL_law_309 (by first | nofun | exact xrv_ne _) ?_
  refine al0 dL_law_310 (by first | nofun | exact xrv_ne _) ?_
  refine il3 dL_law_311 ?_
  refine ex_iconst (v := 1) dL_law_312 (by decide) ?_
  refine ex_iadd dL_law_313 ?_
  refine ex_scld dL_law_314 (sc_v (k := 1) (by omega) hN) ?_
  refine al0 dL_law_315 (by first | nofun | exact xrv_ne _) ?_
  refine il3 dL_law_316 ?_
  refine ex_iconst (v := 2) dL_law_317 (by decide) ?_
  refine ex_iadd dL_law_318 ?_
  refine ex_scld dL_law_319 (sc_v (k := 2) (by omega) hN) ?_
  refine csL_45 (f' := f - 1) rfl dL_law_320 (Nat.le_of_ble_eq_true rfl) (fx0 hS.X) (by omega) (by omega) (by omega) (c_object (by omega) hS) ?_
  rintro v1 G1 D1 R1 ⟨rfl, hS1, hM1⟩
  have e1 := mg_sam hD hM1
  rw [e1]
  refine al2 dL_law_323 (by first | nofun | exact xrv_ne _) ?_
  refine al0 dL_law_324 (by first | nofun | exact xrv_ne _) ?_
  refine il3 dL_law_325 ?_
  refine ex_iconst (v := 1) dL_law_326 (by decide) ?_
  refine ex_iadd dL_law_327 ?_
  refine ex_scld dL_law_328 (sc_v (k := 1) (by omega) hN) ?_
  refine al0 dL_law_329 (by first | nofun | exact xrv_ne _) ?_
  refine il3 dL_law_330 ?_
  refine ex_iconst (v := 2) dL_law_331 (by decide) ?_
  refine ex_iadd dL_law_332 ?_
  refine ex_scld dL_law_333 (sc_v (k := 2) (by omega) hN) ?_
  refine cdL_49 (f' := f - 1) rfl dL_law_334 (Nat.le_of_ble_eq_true rfl) (fx17 hS1.X) (by omega) (r_object hS1.X (by omega) hS.B hS.I.2.1) ?_
  refine ex_icmp_eq 1091 dL_law_337 (by decide) (fun h337 => ?_) (fun h337 => ?_)
  · exact hn _ _ _ _ _ _ (Sim_mgF hS1) mg_mg (by omega) (by omega)
  · exact absurd rfl h337
set_option maxRecDepth 20000 in
set_option maxHeartbeats 1000000 in
theorem lw_c6 {Γ : xGm} {l : Launch} {f : Nat} {nm : String} (hf : 130 ≤ f) {i kc kw kc0 kw0 : Nat} (hn : LwI Γ l f nm i kc kw) (hi : i + 5 ≤ scN Γ) (hN : scN Γ ≤ 2561) {G : xG} {D E : xD} {R : xR} (hS : Sim D R G E) (hD : D = mg D E) (h30 : kc + 30 ≤ kc0) (h525 : kw + 525 ≤ kw0) : Ex Γ l f (ML nm) 342 [some (.ref 1000019), some (.ref 0), some (.ref 17), some (.int (nI i))] [] G D R kc0 kw0 lwQ := by
  refine al1 dL_law_342 (by first | nofun | exact xrv_ne _) ?_
  refine al0 dL_law_343 (by first | nofun | exact xrv_ne _) ?_
  refine il3 dL_law_344 ?_
  refine ex_iconst (v := 1) dL_law_345 (by decide) ?_
  refine ex_iadd dL_law_346 ?_
  refine ex_scld dL_law_347 (sc_v (k := 1) (by omega) hN) ?_
  refine al0 dL_law_348 (by first | nofun | exact xrv_ne _) ?_
  refine il3 dL_law_349 ?_
  refine ex_iconst (v := 2) dL_law_350 (by decide) ?_
  refine ex_iadd dL_law_351 ?_
  refine ex_scld dL_law_352 (sc_v (k := 2) (by omega) hN) ?_
  refine al0 dL_law_353 (by first | nofun | exact xrv_ne _) ?_
  refine il3 dL_law_354 ?_
  refine ex_iconst (v := 3) dL_law_355 (by decide) ?_
  refine ex_iadd dL_law_356 ?_
  refine ex_scld dL_law_357 (sc_v (k := 3) (by omega) hN) ?_
  refine al0 dL_law_358 (by first | nofun | exact xrv_ne _) ?_
  refine il3 dL_law_359 ?_
  refine ex_iconst (v := 4) dL_law_360 (by decide) ?_
  refine ex_iadd dL_law_361 ?_
  refine ex_scld dL_law_362 (sc_v (k := 4) (by omega) hN) ?_
  refine csL_50 (f' := f - 1) rfl dL_law_363 (Nat.le_of_ble_eq_true rfl) (fx0 hS.X) (by omega) (Nat.zero_le _) (Nat.zero_le _) (c_value (by omega) hS) ?_
  refine sq_k (fun D1 hS1 hM1 => ?_)
  have e1 := mg_sam hD hM1
  rw [e1]
  refine al2 dL_law_366 (by first | nofun | exact xrv_ne _) ?_
  refine al0 dL_law_367 (by first | nofun | exact xrv_ne _) ?_
  refine il3 dL_law_368 ?_
  refine ex_iconst (v := 1) dL_law_369 (by decide) ?_
  refine ex_iadd dL_law_370 ?_
  refine ex_scld dL_law_371 (sc_v (k := 1) (by omega) hN) ?_
  refine al0 dL_law_372 (by first | nofun | exact xrv_ne _) ?_
  refine il3 dL_law_373 ?_
  refine ex_iconst (v := 2) dL_law_374 (by decide) ?_
  refine ex_iadd dL_law_375 ?_
  refine ex_scld dL_law_376 (sc_v (k := 2) (by omega) hN) ?_
  refine al0 dL_law_377 (by first | nofun | exact xrv_ne _) ?_
  refine il3 dL_law_378 ?_
  refine ex_iconst (v := 3) dL_law_379 (by decide) ?_
  refine ex_iadd dL_law_380 ?_
  refine ex_scld dL_law_381 (sc_v (k := 3) (by omega) hN) ?_
  refine al0 dL_law_382 (by first | nofun | exact xrv_ne _) ?_
  refine il3 dL_law_383 ?_
  refine ex_iconst (v := 4) dL_law_384 (by decide) ?_
  refine ex_iadd dL_law_385 ?_
  refine ex_scld dL_law_386 (sc_v (k := 4) (by omega) hN) ?_
  refine cdL_53 (f' := f - 1) rfl dL_law_387 (Nat.le_of_ble_eq_true rfl) (fx17 hS1.X) (by omega) (r_value hS1.X (by omega) hS.B) ?_
  refine ex_icmp_eq 1091 dL_law_390 (by decide) (fun h390 => ?_) (fun h390 => ?_)
  · exact hn _ _ _ _ _ _ (Sim_mgF hS1) mg_mg (by omega) (by omega)
  · exact absurd rfl h390
set_option maxRecDepth 20000 in
set_option maxHeartbeats 1000000 in
theorem lw_c7 {Γ : xGm} {l : Launch} {f : Nat} {nm : String} (hf : 130 ≤ f) {i kc kw kc0 kw0 : Nat} (hn : LwI Γ l f nm i kc kw) (hi : i + 5 ≤ scN Γ) (hN : scN Γ ≤ 2561) {G : xG} {D E : xD} {R : xR} (hS : Sim D R G E) (hD : D = mg D E) (h30 : kc + 30 ≤ kc0) (h525 : kw + 525 ≤ kw0) : Ex Γ l f (ML nm) 395 [some (.ref 1000019), some (.ref 0), some (.ref 17), some (.int (nI i))] [] G D R kc0 kw0 lwQ := by
  refine al1 dL_law_395 (by first | nofun | exact xrv_ne _) ?_
  refine al0 dL_law_396 (by first | nofun | exact xrv_ne _) ?_
  refine il3 dL_law_397 ?_
  refine ex_iconst (v := 1) dL_law_398 (by decide) ?_
  refine ex_iadd dL_law_399 ?_
  refine ex_scld dL_law_400 (sc_v (k := 1) (by omega) hN) ?_
  refine csL_54 (f' := f - 1) rfl dL_law_401 (Nat.le_of_ble_eq_true rfl) (fx0 hS.X) (by omega) (by omega) (by omega) (c_array (by omega) hS) ?_
  rintro v1 G1 D1 R1 ⟨rfl, hS1, hM1⟩
  have e1 := mg_sam hD hM1
  rw [e1]
  refine al2 dL_law_404 (by first | nofun | exact xrv_ne _) ?_
  refine al0 dL_law_405 (by first | nofun | exact xrv_ne _) ?_
  refine il3 dL_law_406 ?_
  refine ex_iconst (v := 1) dL_law_407 (by decide) ?_
  refine ex_iadd dL_law_408 ?_
  refine ex_scld dL_law_409 (sc_v (k := 1) (by omega) hN) ?_
  refine cdL_57 (f' := f - 1) rfl dL_law_410 (Nat.le_of_ble_eq_true rfl) (fx17 hS1.X) (by omega) (r_array hS1.X (by omega) hS.B) ?_
  refine ex_icmp_eq 1091 dL_law_413 (by decide) (fun h413 => ?_) (fun h413 => ?_)
  · exact hn _ _ _ _ _ _ (Sim_mgF hS1) mg_mg (by omega) (by omega)
  · exact absurd rfl h413
set_option maxRecDepth 20000 in
set_option maxHeartbeats 1000000 in
theorem lw_c9 {Γ : xGm} {l : Launch} {f : Nat} {nm : String} (hf : 130 ≤ f) {i kc kw kc0 kw0 : Nat} (hn : LwI Γ l f nm i kc kw) (hi : i + 5 ≤ scN Γ) (hN : scN Γ ≤ 2561) {G : xG} {D E : xD} {R : xR} (hS : Sim D R G E) (hD : D = mg D E) (h30 : kc + 30 ≤ kc0) (h525 : kw + 525 ≤ kw0) : Ex Γ l f (ML nm) 477 [some (.ref 1000019), some (.ref 0), some (.ref 17), some (.int (nI i))] [] G D R kc0 kw0 lwQ := by
  refine al1 dL_law_477 (by first | nofun | exact xrv_ne _) ?_
  refine al0 dL_law_478 (by first | nofun | exact xrv_ne _) ?_
  refine il3 dL_law_479 ?_
  refine ex_iconst (v := 1) dL_law_480 (by decide) ?_
  refine ex_iadd dL_law_481 ?_
  refine ex_scld dL_law_482 (sc_v (k := 1) (by omega) hN) ?_
  refine al0 dL_law_483 (by first | nofun | exact xrv_ne _) ?_
  refine il3 dL_law_484 ?_
  refine ex_iconst (v := 2) dL_law_485 (by decide) ?_
  refine ex_iadd dL_law_486 ?_
  refine ex_scld dL_law_487 (sc_v (k := 2) (by omega) hN) ?_
  refine al0 dL_law_488 (by first | nofun | exact xrv_ne _) ?_
  refine il3 dL_law_489 ?_
  refine ex_iconst (v := 3) dL_law_490 (by decide) ?_
  refine ex_iadd dL_law_491 ?_
  refine ex_scld dL_law_492 (sc_v (k := 3) (by omega) hN) ?_
  refine csL_63 (f' := f - 1) rfl dL_law_493 (Nat.le_of_ble_eq_true rfl) (fx0 hS.X) (by omega) (Nat.zero_le _) (Nat.zero_le _) (c_send (by omega) hS) ?_
  refine sq_k (fun D1 hS1 hM1 => ?_)
  have e1 := mg_sam hD hM1
  rw [e1]
  refine al2 dL_law_496 (by first | nofun | exact xrv_ne _) ?_
  refine al0 dL_law_497 (by first | nofun | exact xrv_ne _) ?_
  refine il3 dL_law_498 ?_
  refine ex_iconst (v := 1) dL_law_499 (by decide) ?_
  refine ex_iadd dL_law_500 ?_
  refine ex_scld dL_law_501 (sc_v (k := 1) (by omega) hN) ?_
  refine al0 dL_law_502 (by first | nofun | exact xrv_ne _) ?_
  refine il3 dL_law_503 ?_
  refine ex_iconst (v := 2) dL_law_504 (by decide) ?_
  refine ex_iadd dL_law_505 ?_
  refine ex_scld dL_law_506 (sc_v (k := 2) (by omega) hN) ?_
  refine al0 dL_law_507 (by first | nofun | exact xrv_ne _) ?_
  refine il3 dL_law_508 ?_
  refine ex_iconst (v := 3) dL_law_509 (by decide) ?_
  refine ex_iadd dL_law_510 ?_
  refine ex_scld dL_law_511 (sc_v (k := 3) (by omega) hN) ?_
  refine csL_66 (f' := f - 1) rfl dL_law_512 (Nat.le_of_ble_eq_true rfl) (fx17 hS1.X) (by omega) (Nat.zero_le _) (Nat.zero_le _) (q1_send hS1.X (by omega) hS.I) ?_
  rintro v2 G2 D2 R2 ⟨S2, rfl, rfl, rfl, rfl⟩
  refine ex_icmp_eq 1091 dL_law_515 (by decide) (fun h515 => ?_) (fun h515 => ?_)
  · exact hn _ _ _ _ _ _ (Sim_mgF (Sim_ms hS1)) mg_mg (by omega) (by omega)
  · exact absurd rfl h515
set_option maxRecDepth 20000 in
set_option maxHeartbeats 1000000 in
theorem lw_c10 {Γ : xGm} {l : Launch} {f : Nat} {nm : String} (hf : 130 ≤ f) {i kc kw kc0 kw0 : Nat} (hn : LwI Γ l f nm i kc kw) (hi : i + 5 ≤ scN Γ) (hN : scN Γ ≤ 2561) {G : xG} {D E : xD} {R : xR} (hS : Sim D R G E) (hD : D = mg D E) (h30 : kc + 30 ≤ kc0) (h525 : kw + 525 ≤ kw0) : Ex Γ l f (ML nm) 520 [some (.ref 1000019), some (.ref 0), some (.ref 17), some (.int (nI i))] [] G D R kc0 kw0 lwQ := by
  refine al1 dL_law_520 (by first | nofun | exact xrv_ne _) ?_
  refine al0 dL_law_521 (by first | nofun | exact xrv_ne _) ?_
  refine il3 dL_law_522 ?_
  refine ex_iconst (v := 1) dL_law_523 (by decide) ?_
  refine ex_iadd dL_law_524 ?_
  refine ex_scld dL_law_525 (sc_v (k := 1) (by omega) hN) ?_
  refine al0 dL_law_526 (by first | nofun | exact xrv_ne _) ?_
  refine il3 dL_law_527 ?_
  refine ex_iconst (v := 2) dL_law_528 (by decide) ?_
  refine ex_iadd dL_law_529 ?_
  refine ex_scld dL_law_530 (sc_v (k := 2) (by omega) hN) ?_
  refine al0 dL_law_531 (by first | nofun | exact xrv_ne _) ?_
  refine il3 dL_law_532 ?_
  refine ex_iconst (v := 3) dL_law_533 (by decide) ?_
  refine ex_iadd dL_law_534 ?_
  refine ex_scld dL_law_535 (sc_v (k := 3) (by omega) hN) ?_
  refine al0 dL_law_536 (by first | nofun | exact xrv_ne _) ?_
  refine il3 dL_law_537 ?_
  refine ex_iconst (v := 4) dL_law_538 (by decide) ?_
  refine ex_iadd dL_law_539 ?_
  refine ex_scld dL_law_540 (sc_v (k := 4) (by omega) hN) ?_
  refine csL_67 (f' := f - 1) rfl dL_law_541 (Nat.le_of_ble_eq_true rfl) (fx0 hS.X) (by omega) (Nat.zero_le _) (Nat.zero_le _) (c_sendAs (by omega) hS) ?_
  refine sq_k (fun D1 hS1 hM1 => ?_)
  have e1 := mg_sam hD hM1
  rw [e1]
  refine al2 dL_law_544 (by first | nofun | exact xrv_ne _) ?_
  refine al0 dL_law_545 (by first | nofun | exact xrv_ne _) ?_
  refine il3 dL_law_546 ?_
  refine ex_iconst (v := 1) dL_law_547 (by decide) ?_
  refine ex_iadd dL_law_548 ?_
  refine ex_scld dL_law_549 (sc_v (k := 1) (by omega) hN) ?_
  refine al0 dL_law_550 (by first | nofun | exact xrv_ne _) ?_
  refine il3 dL_law_551 ?_
  refine ex_iconst (v := 2) dL_law_552 (by decide) ?_
  refine ex_iadd dL_law_553 ?_
  refine ex_scld dL_law_554 (sc_v (k := 2) (by omega) hN) ?_
  refine al0 dL_law_555 (by first | nofun | exact xrv_ne _) ?_
  refine il3 dL_law_556 ?_
  refine ex_iconst (v := 3) dL_law_557 (by decide) ?_
  refine ex_iadd dL_law_558 ?_
  refine ex_scld dL_law_559 (sc_v (k := 3) (by omega) hN) ?_
  refine al0 dL_law_560 (by first | nofun | exact xrv_ne _) ?_
  refine il3 dL_law_561 ?_
  refine ex_iconst (v := 4) dL_law_562 (by decide) ?_
  refine ex_iadd dL_law_563 ?_
  refine ex_scld dL_law_564 (sc_v (k := 4) (by omega) hN) ?_
  refine csL_70 (f' := f - 1) rfl dL_law_565 (Nat.le_of_ble_eq_true rfl) (fx17 hS1.X) (by omega) (Nat.zero_le _) (Nat.zero_le _) (q1_sendAs hS1.X (by omega) hS.I) ?_
  rintro v2 G2 D2 R2 ⟨S2, rfl, rfl, rfl, rfl⟩
  refine ex_icmp_eq 1091 dL_law_568 (by decide) (fun h568 => ?_) (fun h568 => ?_)
  · exact hn _ _ _ _ _ _ (Sim_mgF (Sim_ms hS1)) mg_mg (by omega) (by omega)
  · exact absurd rfl h568
set_option maxRecDepth 20000 in
set_option maxHeartbeats 1000000 in
theorem lw_c11 {Γ : xGm} {l : Launch} {f : Nat} {nm : String} (hf : 130 ≤ f) {i kc kw kc0 kw0 : Nat} (hn : LwI Γ l f nm i kc kw) (hi : i + 5 ≤ scN Γ) (hN : scN Γ ≤ 2561) {G : xG} {D E : xD} {R : xR} (hS : Sim D R G E) (hD : D = mg D E) (h30 : kc + 30 ≤ kc0) (h525 : kw + 525 ≤ kw0) : Ex Γ l f (ML nm) 573 [some (.ref 1000019), some (.ref 0), some (.ref 17), some (.int (nI i))] [] G D R kc0 kw0 lwQ := by
  refine al1 dL_law_573 (by first | nofun | exact xrv_ne _) ?_
  refine al0 dL_law_574 (by first | nofun | exact xrv_ne _) ?_
  refine il3 dL_law_575 ?_
  refine ex_iconst (v := 1) dL_law_576 (by decide) ?_
  refine ex_iadd dL_law_577 ?_
  refine ex_scld dL_law_578 (sc_v (k := 1) (by omega) hN) ?_
  refine al0 dL_law_579 (by first | nofun | exact xrv_ne _) ?_
  refine il3 dL_law_580 ?_
  refine ex_iconst (v := 2) dL_law_581 (by decide) ?_
  refine ex_iadd dL_law_582 ?_
  refine ex_scld dL_law_583 (sc_v (k := 2) (by omega) hN) ?_
  refine al0 dL_law_584 (by first | nofun | exact xrv_ne _) ?_
  refine il3 dL_law_585 ?_
  refine ex_iconst (v := 3) dL_law_586 (by decide) ?_
  refine ex_iadd dL_law_587 ?_
  refine ex_scld dL_law_588 (sc_v (k := 3) (by omega) hN) ?_
  refine csL_71 (f' := f - 1) rfl dL_law_589 (Nat.le_of_ble_eq_true rfl) (fx0 hS.X) (by omega) (Nat.zero_le _) (Nat.zero_le _) (c_read (by omega) hS) ?_
  refine sq_k (fun D1 hS1 hM1 => ?_)
  have e1 := mg_sam hD hM1
  rw [e1]
  refine al2 dL_law_592 (by first | nofun | exact xrv_ne _) ?_
  refine al0 dL_law_593 (by first | nofun | exact xrv_ne _) ?_
  refine il3 dL_law_594 ?_
  refine ex_iconst (v := 1) dL_law_595 (by decide) ?_
  refine ex_iadd dL_law_596 ?_
  refine ex_scld dL_law_597 (sc_v (k := 1) (by omega) hN) ?_
  refine al0 dL_law_598 (by first | nofun | exact xrv_ne _) ?_
  refine il3 dL_law_599 ?_
  refine ex_iconst (v := 2) dL_law_600 (by decide) ?_
  refine ex_iadd dL_law_601 ?_
  refine ex_scld dL_law_602 (sc_v (k := 2) (by omega) hN) ?_
  refine al0 dL_law_603 (by first | nofun | exact xrv_ne _) ?_
  refine il3 dL_law_604 ?_
  refine ex_iconst (v := 3) dL_law_605 (by decide) ?_
  refine ex_iadd dL_law_606 ?_
  refine ex_scld dL_law_607 (sc_v (k := 3) (by omega) hN) ?_
  refine cdL_74 (f' := f - 1) rfl dL_law_608 (Nat.le_of_ble_eq_true rfl) (fx17 hS1.X) (by omega) (r_read hS1.X (by omega) hS.B) ?_
  refine ex_icmp_eq 1091 dL_law_611 (by decide) (fun h611 => ?_) (fun h611 => ?_)
  · exact hn _ _ _ _ _ _ (Sim_mgF hS1) mg_mg (by omega) (by omega)
  · exact absurd rfl h611
set_option maxRecDepth 20000 in
set_option maxHeartbeats 1000000 in
theorem lw_c12 {Γ : xGm} {l : Launch} {f : Nat} {nm : String} (hf : 130 ≤ f) {i kc kw kc0 kw0 : Nat} (hn : LwI Γ l f nm i kc kw) (hi : i + 5 ≤ scN Γ) (hN : scN Γ ≤ 2561) {G : xG} {D E : xD} {R : xR} (hS : Sim D R G E) (hD : D = mg D E) (h30 : kc + 30 ≤ kc0) (h525 : kw + 525 ≤ kw0) : Ex Γ l f (ML nm) 616 [some (.ref 1000019), some (.ref 0), some (.ref 17), some (.int (nI i))] [] G D R kc0 kw0 lwQ := by
  refine al1 dL_law_616 (by first | nofun | exact xrv_ne _) ?_
  refine al0 dL_law_617 (by first | nofun | exact xrv_ne _) ?_
  refine il3 dL_law_618 ?_
  refine ex_iconst (v := 1) dL_law_619 (by decide) ?_
  refine ex_iadd dL_law_620 ?_
  refine ex_scld dL_law_621 (sc_v (k := 1) (by omega) hN) ?_
  refine al0 dL_law_622 (by first | nofun | exact xrv_ne _) ?_
  refine il3 dL_law_623 ?_
  refine ex_iconst (v := 2) dL_law_624 (by decide) ?_
  refine ex_iadd dL_law_625 ?_
  refine ex_scld dL_law_626 (sc_v (k := 2) (by omega) hN) ?_
  refine al0 dL_law_627 (by first | nofun | exact xrv_ne _) ?_
  refine il3 dL_law_628 ?_
  refine ex_iconst (v := 3) dL_law_629 (by decide) ?_
  refine ex_iadd dL_law_630 ?_
  refine ex_scld dL_law_631 (sc_v (k := 3) (by omega) hN) ?_
  refine al0 dL_law_632 (by first | nofun | exact xrv_ne _) ?_
  refine il3 dL_law_633 ?_
  refine ex_iconst (v := 4) dL_law_634 (by decide) ?_
  refine ex_iadd dL_law_635 ?_
  refine ex_scld dL_law_636 (sc_v (k := 4) (by omega) hN) ?_
  refine csL_75 (f' := f - 1) rfl dL_law_637 (Nat.le_of_ble_eq_true rfl) (fx0 hS.X) (by omega) (Nat.zero_le _) (Nat.zero_le _) (c_write (by omega) hS) ?_
  refine sq_k (fun D1 hS1 hM1 => ?_)
  have e1 := mg_sam hD hM1
  rw [e1]
  refine al2 dL_law_640 (by first | nofun | exact xrv_ne _) ?_
  refine al0 dL_law_641 (by first | nofun | exact xrv_ne _) ?_
  refine il3 dL_law_642 ?_
  refine ex_iconst (v := 1) dL_law_643 (by decide) ?_
  refine ex_iadd dL_law_644 ?_
  refine ex_scld dL_law_645 (sc_v (k := 1) (by omega) hN) ?_
  refine al0 dL_law_646 (by first | nofun | exact xrv_ne _) ?_
  refine il3 dL_law_647 ?_
  refine ex_iconst (v := 2) dL_law_648 (by decide) ?_
  refine ex_iadd dL_law_649 ?_
  refine ex_scld dL_law_650 (sc_v (k := 2) (by omega) hN) ?_
  refine al0 dL_law_651 (by first | nofun | exact xrv_ne _) ?_
  refine il3 dL_law_652 ?_
  refine ex_iconst (v := 3) dL_law_653 (by decide) ?_
  refine ex_iadd dL_law_654 ?_
  refine ex_scld dL_law_655 (sc_v (k := 3) (by omega) hN) ?_
  refine al0 dL_law_656 (by first | nofun | exact xrv_ne _) ?_
  refine il3 dL_law_657 ?_
  refine ex_iconst (v := 4) dL_law_658 (by decide) ?_
  refine ex_iadd dL_law_659 ?_
  refine ex_scld dL_law_660 (sc_v (k := 4) (by omega) hN) ?_
  refine cdL_78 (f' := f - 1) rfl dL_law_661 (Nat.le_of_ble_eq_true rfl) (fx17 hS1.X) (by omega) (r_write hS1.X (by omega) hS.B) ?_
  refine ex_icmp_eq 1091 dL_law_664 (by decide) (fun h664 => ?_) (fun h664 => ?_)
  · exact hn _ _ _ _ _ _ (Sim_mgF hS1) mg_mg (by omega) (by omega)
  · exact absurd rfl h664
set_option maxRecDepth 20000 in
set_option maxHeartbeats 1000000 in
theorem lw_c13 {Γ : xGm} {l : Launch} {f : Nat} {nm : String} (hf : 130 ≤ f) {i kc kw kc0 kw0 : Nat} (hn : LwI Γ l f nm i kc kw) (hi : i + 5 ≤ scN Γ) (hN : scN Γ ≤ 2561) {G : xG} {D E : xD} {R : xR} (hS : Sim D R G E) (hD : D = mg D E) (h30 : kc + 30 ≤ kc0) (h525 : kw + 525 ≤ kw0) : Ex Γ l f (ML nm) 669 [some (.ref 1000019), some (.ref 0), some (.ref 17), some (.int (nI i))] [] G D R kc0 kw0 lwQ := by
  refine al1 dL_law_669 (by first | nofun | exact xrv_ne _) ?_
  refine al0 dL_law_670 (by first | nofun | exact xrv_ne _) ?_
  refine il3 dL_law_671 ?_
  refine ex_iconst (v := 1) dL_law_672 (by decide) ?_
  refine ex_iadd dL_law_673 ?_
  refine ex_scld dL_law_674 (sc_v (k := 1) (by omega) hN) ?_
  refine al0 dL_law_675 (by first | nofun | exact xrv_ne _) ?_
  refine il3 dL_law_676 ?_
  refine ex_iconst (v := 2) dL_law_677 (by decide) ?_
  refine ex_iadd dL_law_678 ?_
  refine ex_scld dL_law_679 (sc_v (k := 2) (by omega) hN) ?_
  refine csL_79 (f' := f - 1) rfl dL_law_680 (Nat.le_of_ble_eq_true rfl) (fx0 hS.X) (by omega) (Nat.zero_le _) (Nat.zero_le _) (c_move (by omega) hS) ?_
  refine sq_k (fun D1 hS1 hM1 => ?_)
  have e1 := mg_sam hD hM1
  rw [e1]
  refine al2 dL_law_683 (by first | nofun | exact xrv_ne _) ?_
  refine al0 dL_law_684 (by first | nofun | exact xrv_ne _) ?_
  refine il3 dL_law_685 ?_
  refine ex_iconst (v := 1) dL_law_686 (by decide) ?_
  refine ex_iadd dL_law_687 ?_
  refine ex_scld dL_law_688 (sc_v (k := 1) (by omega) hN) ?_
  refine al0 dL_law_689 (by first | nofun | exact xrv_ne _) ?_
  refine il3 dL_law_690 ?_
  refine ex_iconst (v := 2) dL_law_691 (by decide) ?_
  refine ex_iadd dL_law_692 ?_
  refine ex_scld dL_law_693 (sc_v (k := 2) (by omega) hN) ?_
  refine cdL_82 (f' := f - 1) rfl dL_law_694 (Nat.le_of_ble_eq_true rfl) (fx17 hS1.X) (by omega) (q1_move hS1.X (by omega) hS.I) ?_
  refine ex_icmp_eq 1091 dL_law_697 (by decide) (fun h697 => ?_) (fun h697 => ?_)
  · exact hn _ _ _ _ _ _ (Sim_mgF (Sim_ms hS1)) mg_mg (by omega) (by omega)
  · exact absurd rfl h697
set_option maxRecDepth 20000 in
set_option maxHeartbeats 1000000 in
theorem lw_c14 {Γ : xGm} {l : Launch} {f : Nat} {nm : String} (hf : 130 ≤ f) {i kc kw kc0 kw0 : Nat} (hn : LwI Γ l f nm i kc kw) (hi : i + 5 ≤ scN Γ) (hN : scN Γ ≤ 2561) {G : xG} {D E : xD} {R : xR} (hS : Sim D R G E) (hD : D = mg D E) (h30 : kc + 30 ≤ kc0) (h525 : kw + 525 ≤ kw0) : Ex Γ l f (ML nm) 702 [some (.ref 1000019), some (.ref 0), some (.ref 17), some (.int (nI i))] [] G D R kc0 kw0 lwQ := by
  refine al1 dL_law_702 (by first | nofun | exact xrv_ne _) ?_
  refine al0 dL_law_703 (by first | nofun | exact xrv_ne _) ?_
  refine il3 dL_law_704 ?_
  refine ex_iconst (v := 1) dL_law_705 (by decide) ?_
  refine ex_iadd dL_law_706 ?_
  refine ex_scld dL_law_707 (sc_v (k := 1) (by omega) hN) ?_
  refine al0 dL_law_708 (by first | nofun | exact xrv_ne _) ?_
  refine il3 dL_law_709 ?_
  refine ex_iconst (v := 2) dL_law_710 (by decide) ?_
  refine ex_iadd dL_law_711 ?_
  refine ex_scld dL_law_712 (sc_v (k := 2) (by omega) hN) ?_
  refine csL_83 (f' := f - 1) rfl dL_law_713 (Nat.le_of_ble_eq_true rfl) (fx0 hS.X) (by omega) (Nat.zero_le _) (Nat.zero_le _) (c_tree (by omega) hS) ?_
  refine sq_k (fun D1 hS1 hM1 => ?_)
  have e1 := mg_sam hD hM1
  rw [e1]
  refine al2 dL_law_716 (by first | nofun | exact xrv_ne _) ?_
  refine al0 dL_law_717 (by first | nofun | exact xrv_ne _) ?_
  refine il3 dL_law_718 ?_
  refine ex_iconst (v := 1) dL_law_719 (by decide) ?_
  refine ex_iadd dL_law_720 ?_
  refine ex_scld dL_law_721 (sc_v (k := 1) (by omega) hN) ?_
  refine al0 dL_law_722 (by first | nofun | exact xrv_ne _) ?_
  refine il3 dL_law_723 ?_
  refine ex_iconst (v := 2) dL_law_724 (by decide) ?_
  refine ex_iadd dL_law_725 ?_
  refine ex_scld dL_law_726 (sc_v (k := 2) (by omega) hN) ?_
  refine cdL_86 (f' := f - 1) rfl dL_law_727 (Nat.le_of_ble_eq_true rfl) (fx17 hS1.X) (by omega) (q1_tree hS1.X (by omega) hS.I) ?_
  refine ex_icmp_eq 1091 dL_law_730 (by decide) (fun h730 => ?_) (fun h730 => ?_)
  · exact hn _ _ _ _ _ _ (Sim_mgF (Sim_ms hS1)) mg_mg (by omega) (by omega)
  · exact absurd rfl h730
set_option maxRecDepth 20000 in
set_option maxHeartbeats 1000000 in
theorem lw_c15 {Γ : xGm} {l : Launch} {f : Nat} {nm : String} (hf : 130 ≤ f) {i kc kw kc0 kw0 : Nat} (hn : LwI Γ l f nm i kc kw) (hi : i + 5 ≤ scN Γ) (hN : scN Γ ≤ 2561) {G : xG} {D E : xD} {R : xR} (hS : Sim D R G E) (hD : D = mg D E) (h30 : kc + 30 ≤ kc0) (h525 : kw + 525 ≤ kw0) : Ex Γ l f (ML nm) 735 [some (.ref 1000019), some (.ref 0), some (.ref 17), some (.int (nI i))] [] G D R kc0 kw0 lwQ := by
  refine al1 dL_law_735 (by first | nofun | exact xrv_ne _) ?_
  refine al0 dL_law_736 (by first | nofun | exact xrv_ne _) ?_
  refine il3 dL_law_737 ?_
  refine ex_iconst (v := 1) dL_law_738 (by decide) ?_
  refine ex_iadd dL_law_739 ?_
  refine ex_scld dL_law_740 (sc_v (k := 1) (by omega) hN) ?_
  refine al0 dL_law_741 (by first | nofun | exact xrv_ne _) ?_
  refine il3 dL_law_742 ?_
  refine ex_iconst (v := 2) dL_law_743 (by decide) ?_
  refine ex_iadd dL_law_744 ?_
  refine ex_scld dL_law_745 (sc_v (k := 2) (by omega) hN) ?_
  refine csL_87 (f' := f - 1) rfl dL_law_746 (Nat.le_of_ble_eq_true rfl) (fx0 hS.X) (by omega) (Nat.zero_le _) (Nat.zero_le _) (c_loop (by omega) hS) ?_
  refine sq_k (fun D1 hS1 hM1 => ?_)
  have e1 := mg_sam hD hM1
  rw [e1]
  refine al2 dL_law_749 (by first | nofun | exact xrv_ne _) ?_
  refine al0 dL_law_750 (by first | nofun | exact xrv_ne _) ?_
  refine il3 dL_law_751 ?_
  refine ex_iconst (v := 1) dL_law_752 (by decide) ?_
  refine ex_iadd dL_law_753 ?_
  refine ex_scld dL_law_754 (sc_v (k := 1) (by omega) hN) ?_
  refine al0 dL_law_755 (by first | nofun | exact xrv_ne _) ?_
  refine il3 dL_law_756 ?_
  refine ex_iconst (v := 2) dL_law_757 (by decide) ?_
  refine ex_iadd dL_law_758 ?_
  refine ex_scld dL_law_759 (sc_v (k := 2) (by omega) hN) ?_
  refine csL_90 (f' := f - 1) rfl dL_law_760 (Nat.le_of_ble_eq_true rfl) (fx17 hS1.X) (by omega) (Nat.zero_le _) (Nat.zero_le _) (q1_loop hS1.X (by omega) hS.I) ?_
  rintro v2 G2 D2 R2 ⟨S2, rfl, rfl, rfl, rfl⟩
  refine ex_icmp_eq 1091 dL_law_763 (by decide) (fun h763 => ?_) (fun h763 => ?_)
  · exact hn _ _ _ _ _ _ (Sim_mgF (Sim_ms hS1)) mg_mg (by omega) (by omega)
  · exact absurd rfl h763
set_option maxRecDepth 20000 in
set_option maxHeartbeats 1000000 in
theorem lw_c16 {Γ : xGm} {l : Launch} {f : Nat} {nm : String} (hf : 130 ≤ f) {i kc kw kc0 kw0 : Nat} (hn : LwI Γ l f nm i kc kw) (hi : i + 5 ≤ scN Γ) (hN : scN Γ ≤ 2561) {G : xG} {D E : xD} {R : xR} (hS : Sim D R G E) (hD : D = mg D E) (h30 : kc + 30 ≤ kc0) (h525 : kw + 525 ≤ kw0) : Ex Γ l f (ML nm) 768 [some (.ref 1000019), some (.ref 0), some (.ref 17), some (.int (nI i))] [] G D R kc0 kw0 lwQ := by
  refine al1 dL_law_768 (by first | nofun | exact xrv_ne _) ?_
  refine al0 dL_law_769 (by first | nofun | exact xrv_ne _) ?_
  refine il3 dL_law_770 ?_
  refine ex_iconst (v := 1) dL_law_771 (by decide) ?_
  refine ex_iadd dL_law_772 ?_
  refine ex_scld dL_law_773 (sc_v (k := 1) (by omega) hN) ?_
  refine cdL_91 (f' := f - 1) rfl dL_law_774 (Nat.le_of_ble_eq_true rfl) (fx0 hS.X) (by omega) (c_meta (by omega) hS) ?_
  have hS1 := hS
  rw [hD]
  refine al2 dL_law_777 (by first | nofun | exact xrv_ne _) ?_
  refine al0 dL_law_778 (by first | nofun | exact xrv_ne _) ?_
  refine il3 dL_law_779 ?_
  refine ex_iconst (v := 1) dL_law_780 (by decide) ?_
  refine ex_iadd dL_law_781 ?_
  refine ex_scld dL_law_782 (sc_v (k := 1) (by omega) hN) ?_
  refine cdL_94 (f' := f - 1) rfl dL_law_783 (Nat.le_of_ble_eq_true rfl) (fx17 hS1.X) (by omega) (r_meta hS1.X (by omega) hS.B) ?_
  refine ex_icmp_eq 1091 dL_law_786 (by decide) (fun h786 => ?_) (fun h786 => ?_)
  · exact hn _ _ _ _ _ _ (Sim_mgF hS1) mg_mg (by omega) (by omega)
  · exact absurd rfl h786
set_option maxRecDepth 20000 in
set_option maxHeartbeats 1000000 in
theorem lw_c17 {Γ : xGm} {l : Launch} {f : Nat} {nm : String} (hf : 130 ≤ f) {i kc kw kc0 kw0 : Nat} (hn : LwI Γ l f nm i kc kw) (hi : i + 5 ≤ scN Γ) (hN : scN Γ ≤ 2561) {G : xG} {D E : xD} {R : xR} (hS : Sim D R G E) (hD : D = mg D E) (h30 : kc + 30 ≤ kc0) (h525 : kw + 525 ≤ kw0) : Ex Γ l f (ML nm) 791 [some (.ref 1000019), some (.ref 0), some (.ref 17), some (.int (nI i))] [] G D R kc0 kw0 lwQ := by
  refine al1 dL_law_791 (by first | nofun | exact xrv_ne _) ?_
  refine al0 dL_law_792 (by first | nofun | exact xrv_ne _) ?_
  refine il3 dL_law_793 ?_
  refine ex_iconst (v := 1) dL_law_794 (by decide) ?_
  refine ex_iadd dL_law_795 ?_
  refine ex_scld dL_law_796 (sc_v (k := 1) (by omega) hN) ?_
  refine al0 dL_law_797 (by first | nofun | exact xrv_ne _) ?_
  refine il3 dL_law_798 ?_
  refine ex_iconst (v := 2) dL_law_799 (by decide) ?_
  refine ex_iadd dL_law_800 ?_
  refine ex_scld dL_law_801 (sc_v (k := 2) (by omega) hN) ?_
  refine cdL_95 (f' := f - 1) rfl dL_law_802 (Nat.le_of_ble_eq_true rfl) (fx0 hS.X) (by omega) (c_isOf (by omega) hS) ?_
  have hS1 := hS
  rw [hD]
  refine al2 dL_law_805 (by first | nofun | exact xrv_ne _) ?_
  refine al0 dL_law_806 (by first | nofun | exact xrv_ne _) ?_
  refine il3 dL_law_807 ?_
  refine ex_iconst (v := 1) dL_law_808 (by decide) ?_
  refine ex_iadd dL_law_809 ?_
  refine ex_scld dL_law_810 (sc_v (k := 1) (by omega) hN) ?_
  refine al0 dL_law_811 (by first | nofun | exact xrv_ne _) ?_
  refine il3 dL_law_812 ?_
  refine ex_iconst (v := 2) dL_law_813 (by decide) ?_
  refine ex_iadd dL_law_814 ?_
  refine ex_scld dL_law_815 (sc_v (k := 2) (by omega) hN) ?_
  refine cdL_98 (f' := f - 1) rfl dL_law_816 (Nat.le_of_ble_eq_true rfl) (fx17 hS1.X) (by omega) (r_isOf hS1.X (by omega) hS.B) ?_
  refine ex_icmp_eq 1091 dL_law_819 (by decide) (fun h819 => ?_) (fun h819 => ?_)
  · exact hn _ _ _ _ _ _ (Sim_mgF hS1) mg_mg (by omega) (by omega)
  · exact absurd rfl h819
set_option maxRecDepth 20000 in
set_option maxHeartbeats 1000000 in
theorem lw_c18 {Γ : xGm} {l : Launch} {f : Nat} {nm : String} (hf : 130 ≤ f) {i kc kw kc0 kw0 : Nat} (hn : LwI Γ l f nm i kc kw) (hi : i + 5 ≤ scN Γ) (hN : scN Γ ≤ 2561) {G : xG} {D E : xD} {R : xR} (hS : Sim D R G E) (hD : D = mg D E) (h30 : kc + 30 ≤ kc0) (h525 : kw + 525 ≤ kw0) : Ex Γ l f (ML nm) 824 [some (.ref 1000019), some (.ref 0), some (.ref 17), some (.int (nI i))] [] G D R kc0 kw0 lwQ := by
  refine al1 dL_law_824 (by first | nofun | exact xrv_ne _) ?_
  refine al0 dL_law_825 (by first | nofun | exact xrv_ne _) ?_
  refine il3 dL_law_826 ?_
  refine ex_iconst (v := 1) dL_law_827 (by decide) ?_
  refine ex_iadd dL_law_828 ?_
  refine ex_scld dL_law_829 (sc_v (k := 1) (by omega) hN) ?_
  refine al0 dL_law_830 (by first | nofun | exact xrv_ne _) ?_
  refine il3 dL_law_831 ?_
  refine ex_iconst (v := 2) dL_law_832 (by decide) ?_
  refine ex_iadd dL_law_833 ?_
  refine ex_scld dL_law_834 (sc_v (k := 2) (by omega) hN) ?_
  refine cdL_99 (f' := f - 1) rfl dL_law_835 (Nat.le_of_ble_eq_true rfl) (fx0 hS.X) (by omega) (c_provides (by omega) hS) ?_
  have hS1 := hS
  rw [hD]
  refine al2 dL_law_838 (by first | nofun | exact xrv_ne _) ?_
  refine al0 dL_law_839 (by first | nofun | exact xrv_ne _) ?_
  refine il3 dL_law_840 ?_
  refine ex_iconst (v := 1) dL_law_841 (by decide) ?_
  refine ex_iadd dL_law_842 ?_
  refine ex_scld dL_law_843 (sc_v (k := 1) (by omega) hN) ?_
  refine al0 dL_law_844 (by first | nofun | exact xrv_ne _) ?_
  refine il3 dL_law_845 ?_
  refine ex_iconst (v := 2) dL_law_846 (by decide) ?_
  refine ex_iadd dL_law_847 ?_
  refine ex_scld dL_law_848 (sc_v (k := 2) (by omega) hN) ?_
  refine cdL_102 (f' := f - 1) rfl dL_law_849 (Nat.le_of_ble_eq_true rfl) (fx17 hS1.X) (by omega) (r_provides hS1.X (by omega) hS.B) ?_
  refine ex_icmp_eq 1091 dL_law_852 (by decide) (fun h852 => ?_) (fun h852 => ?_)
  · exact hn _ _ _ _ _ _ (Sim_mgF hS1) mg_mg (by omega) (by omega)
  · exact absurd rfl h852
set_option maxRecDepth 20000 in
set_option maxHeartbeats 1000000 in
theorem lw_c19 {Γ : xGm} {l : Launch} {f : Nat} {nm : String} (hf : 130 ≤ f) {i kc kw kc0 kw0 : Nat} (hn : LwI Γ l f nm i kc kw) (hi : i + 5 ≤ scN Γ) (hN : scN Γ ≤ 2561) {G : xG} {D E : xD} {R : xR} (hS : Sim D R G E) (hD : D = mg D E) (h30 : kc + 30 ≤ kc0) (h525 : kw + 525 ≤ kw0) : Ex Γ l f (ML nm) 857 [some (.ref 1000019), some (.ref 0), some (.ref 17), some (.int (nI i))] [] G D R kc0 kw0 lwQ := by
  refine al1 dL_law_857 (by first | nofun | exact xrv_ne _) ?_
  refine al0 dL_law_858 (by first | nofun | exact xrv_ne _) ?_
  refine il3 dL_law_859 ?_
  refine ex_iconst (v := 1) dL_law_860 (by decide) ?_
  refine ex_iadd dL_law_861 ?_
  refine ex_scld dL_law_862 (sc_v (k := 1) (by omega) hN) ?_
  refine al0 dL_law_863 (by first | nofun | exact xrv_ne _) ?_
  refine il3 dL_law_864 ?_
  refine ex_iconst (v := 2) dL_law_865 (by decide) ?_
  refine ex_iadd dL_law_866 ?_
  refine ex_scld dL_law_867 (sc_v (k := 2) (by omega) hN) ?_
  refine csL_103 (f' := f - 1) rfl dL_law_868 (Nat.le_of_ble_eq_true rfl) (fx0 hS.X) (by omega) (Nat.zero_le _) (Nat.zero_le _) (c_word (by omega) hS) ?_
  refine sq_k (fun D1 hS1 hM1 => ?_)
  have e1 := mg_sam hD hM1
  rw [e1]
  refine al2 dL_law_871 (by first | nofun | exact xrv_ne _) ?_
  refine al0 dL_law_872 (by first | nofun | exact xrv_ne _) ?_
  refine il3 dL_law_873 ?_
  refine ex_iconst (v := 1) dL_law_874 (by decide) ?_
  refine ex_iadd dL_law_875 ?_
  refine ex_scld dL_law_876 (sc_v (k := 1) (by omega) hN) ?_
  refine al0 dL_law_877 (by first | nofun | exact xrv_ne _) ?_
  refine il3 dL_law_878 ?_
  refine ex_iconst (v := 2) dL_law_879 (by decide) ?_
  refine ex_iadd dL_law_880 ?_
  refine ex_scld dL_law_881 (sc_v (k := 2) (by omega) hN) ?_
  refine cdL_106 (f' := f - 1) rfl dL_law_882 (Nat.le_of_ble_eq_true rfl) (fx17 hS1.X) (by omega) (r_word hS1.X (by omega) hS.B) ?_
  refine ex_icmp_eq 1091 dL_law_885 (by decide) (fun h885 => ?_) (fun h885 => ?_)
  · exact hn _ _ _ _ _ _ (Sim_mgF hS1) mg_mg (by omega) (by omega)
  · exact absurd rfl h885
set_option maxRecDepth 20000 in
set_option maxHeartbeats 1000000 in
theorem lw_c20 {Γ : xGm} {l : Launch} {f : Nat} {nm : String} (hf : 130 ≤ f) {i kc kw kc0 kw0 : Nat} (hn : LwI Γ l f nm i kc kw) (hi : i + 5 ≤ scN Γ) (hN : scN Γ ≤ 2561) {G : xG} {D E : xD} {R : xR} (hS : Sim D R G E) (hD : D = mg D E) (h30 : kc + 30 ≤ kc0) (h525 : kw + 525 ≤ kw0) : Ex Γ l f (ML nm) 890 [some (.ref 1000019), some (.ref 0), some (.ref 17), some (.int (nI i))] [] G D R kc0 kw0 lwQ := by
  refine al1 dL_law_890 (by first | nofun | exact xrv_ne _) ?_
  refine al0 dL_law_891 (by first | nofun | exact xrv_ne _) ?_
  refine il3 dL_law_892 ?_
  refine ex_iconst (v := 1) dL_law_893 (by decide) ?_
  refine ex_iadd dL_law_894 ?_
  refine ex_scld dL_law_895 (sc_v (k := 1) (by omega) hN) ?_
  refine al0 dL_law_896 (by first | nofun | exact xrv_ne _) ?_
  refine il3 dL_law_897 ?_
  refine ex_iconst (v := 2) dL_law_898 (by decide) ?_
  refine ex_iadd dL_law_899 ?_
  refine ex_scld dL_law_900 (sc_v (k := 2) (by omega) hN) ?_
  refine al0 dL_law_901 (by first | nofun | exact xrv_ne _) ?_
  refine il3 dL_law_902 ?_
  refine ex_iconst (v := 3) dL_law_903 (by decide) ?_
  refine ex_iadd dL_law_904 ?_
  refine ex_scld dL_law_905 (sc_v (k := 3) (by omega) hN) ?_
  refine csL_107 (f' := f - 1) rfl dL_law_906 (Nat.le_of_ble_eq_true rfl) (fx0 hS.X) (by omega) (Nat.zero_le _) (Nat.zero_le _) (c_setWord (by omega) hS) ?_
  refine sq_k (fun D1 hS1 hM1 => ?_)
  have e1 := mg_sam hD hM1
  rw [e1]
  refine al2 dL_law_909 (by first | nofun | exact xrv_ne _) ?_
  refine al0 dL_law_910 (by first | nofun | exact xrv_ne _) ?_
  refine il3 dL_law_911 ?_
  refine ex_iconst (v := 1) dL_law_912 (by decide) ?_
  refine ex_iadd dL_law_913 ?_
  refine ex_scld dL_law_914 (sc_v (k := 1) (by omega) hN) ?_
  refine al0 dL_law_915 (by first | nofun | exact xrv_ne _) ?_
  refine il3 dL_law_916 ?_
  refine ex_iconst (v := 2) dL_law_917 (by decide) ?_
  refine ex_iadd dL_law_918 ?_
  refine ex_scld dL_law_919 (sc_v (k := 2) (by omega) hN) ?_
  refine al0 dL_law_920 (by first | nofun | exact xrv_ne _) ?_
  refine il3 dL_law_921 ?_
  refine ex_iconst (v := 3) dL_law_922 (by decide) ?_
  refine ex_iadd dL_law_923 ?_
  refine ex_scld dL_law_924 (sc_v (k := 3) (by omega) hN) ?_
  refine cdL_110 (f' := f - 1) rfl dL_law_925 (Nat.le_of_ble_eq_true rfl) (fx17 hS1.X) (by omega) (r_setWord hS1.X (by omega) hS.B) ?_
  refine ex_icmp_eq 1091 dL_law_928 (by decide) (fun h928 => ?_) (fun h928 => ?_)
  · exact hn _ _ _ _ _ _ (Sim_mgF hS1) mg_mg (by omega) (by omega)
  · exact absurd rfl h928
set_option maxRecDepth 20000 in
set_option maxHeartbeats 1000000 in
theorem lw_c21 {Γ : xGm} {l : Launch} {f : Nat} {nm : String} (hf : 130 ≤ f) {i kc kw kc0 kw0 : Nat} (hn : LwI Γ l f nm i kc kw) (hi : i + 5 ≤ scN Γ) (hN : scN Γ ≤ 2561) {G : xG} {D E : xD} {R : xR} (hS : Sim D R G E) (hD : D = mg D E) (h30 : kc + 30 ≤ kc0) (h525 : kw + 525 ≤ kw0) : Ex Γ l f (ML nm) 933 [some (.ref 1000019), some (.ref 0), some (.ref 17), some (.int (nI i))] [] G D R kc0 kw0 lwQ := by
  refine al1 dL_law_933 (by first | nofun | exact xrv_ne _) ?_
  refine al0 dL_law_934 (by first | nofun | exact xrv_ne _) ?_
  refine il3 dL_law_935 ?_
  refine ex_iconst (v := 1) dL_law_936 (by decide) ?_
  refine ex_iadd dL_law_937 ?_
  refine ex_scld dL_law_938 (sc_v (k := 1) (by omega) hN) ?_
  refine al0 dL_law_939 (by first | nofun | exact xrv_ne _) ?_
  refine il3 dL_law_940 ?_
  refine ex_iconst (v := 2) dL_law_941 (by decide) ?_
  refine ex_iadd dL_law_942 ?_
  refine ex_scld dL_law_943 (sc_v (k := 2) (by omega) hN) ?_
  refine csL_111 (f' := f - 1) rfl dL_law_944 (Nat.le_of_ble_eq_true rfl) (fx0 hS.X) (by omega) (Nat.zero_le _) (Nat.zero_le _) (c_byteOf (by omega) hS) ?_
  refine sq_k (fun D1 hS1 hM1 => ?_)
  have e1 := mg_sam hD hM1
  rw [e1]
  refine al2 dL_law_947 (by first | nofun | exact xrv_ne _) ?_
  refine al0 dL_law_948 (by first | nofun | exact xrv_ne _) ?_
  refine il3 dL_law_949 ?_
  refine ex_iconst (v := 1) dL_law_950 (by decide) ?_
  refine ex_iadd dL_law_951 ?_
  refine ex_scld dL_law_952 (sc_v (k := 1) (by omega) hN) ?_
  refine al0 dL_law_953 (by first | nofun | exact xrv_ne _) ?_
  refine il3 dL_law_954 ?_
  refine ex_iconst (v := 2) dL_law_955 (by decide) ?_
  refine ex_iadd dL_law_956 ?_
  refine ex_scld dL_law_957 (sc_v (k := 2) (by omega) hN) ?_
  refine cdL_114 (f' := f - 1) rfl dL_law_958 (Nat.le_of_ble_eq_true rfl) (fx17 hS1.X) (by omega) (r_byteOf hS1.X (by omega) hS.B) ?_
  refine ex_icmp_eq 1091 dL_law_961 (by decide) (fun h961 => ?_) (fun h961 => ?_)
  · exact hn _ _ _ _ _ _ (Sim_mgF hS1) mg_mg (by omega) (by omega)
  · exact absurd rfl h961
set_option maxRecDepth 20000 in
set_option maxHeartbeats 1000000 in
theorem lw_c22 {Γ : xGm} {l : Launch} {f : Nat} {nm : String} (hf : 130 ≤ f) {i kc kw kc0 kw0 : Nat} (hn : LwI Γ l f nm i kc kw) (hi : i + 5 ≤ scN Γ) (hN : scN Γ ≤ 2561) {G : xG} {D E : xD} {R : xR} (hS : Sim D R G E) (hD : D = mg D E) (h30 : kc + 30 ≤ kc0) (h525 : kw + 525 ≤ kw0) : Ex Γ l f (ML nm) 966 [some (.ref 1000019), some (.ref 0), some (.ref 17), some (.int (nI i))] [] G D R kc0 kw0 lwQ := by
  refine al1 dL_law_966 (by first | nofun | exact xrv_ne _) ?_
  refine al0 dL_law_967 (by first | nofun | exact xrv_ne _) ?_
  refine il3 dL_law_968 ?_
  refine ex_iconst (v := 1) dL_law_969 (by decide) ?_
  refine ex_iadd dL_law_970 ?_
  refine ex_scld dL_law_971 (sc_v (k := 1) (by omega) hN) ?_
  refine al0 dL_law_972 (by first | nofun | exact xrv_ne _) ?_
  refine il3 dL_law_973 ?_
  refine ex_iconst (v := 2) dL_law_974 (by decide) ?_
  refine ex_iadd dL_law_975 ?_
  refine ex_scld dL_law_976 (sc_v (k := 2) (by omega) hN) ?_
  refine csL_115 (f' := f - 1) rfl dL_law_977 (Nat.le_of_ble_eq_true rfl) (fx0 hS.X) (by omega) (Nat.zero_le _) (Nat.zero_le _) (c_name (by omega) hS) ?_
  refine sq_k (fun D1 hS1 hM1 => ?_)
  have e1 := mg_sam hD hM1
  rw [e1]
  refine al2 dL_law_980 (by first | nofun | exact xrv_ne _) ?_
  refine al0 dL_law_981 (by first | nofun | exact xrv_ne _) ?_
  refine il3 dL_law_982 ?_
  refine ex_iconst (v := 1) dL_law_983 (by decide) ?_
  refine ex_iadd dL_law_984 ?_
  refine ex_scld dL_law_985 (sc_v (k := 1) (by omega) hN) ?_
  refine al0 dL_law_986 (by first | nofun | exact xrv_ne _) ?_
  refine il3 dL_law_987 ?_
  refine ex_iconst (v := 2) dL_law_988 (by decide) ?_
  refine ex_iadd dL_law_989 ?_
  refine ex_scld dL_law_990 (sc_v (k := 2) (by omega) hN) ?_
  refine cdL_118 (f' := f - 1) rfl dL_law_991 (Nat.le_of_ble_eq_true rfl) (fx17 hS1.X) (by omega) (r_name hS1.X (by omega) hS.B) ?_
  refine ex_icmp_eq 1091 dL_law_994 (by decide) (fun h994 => ?_) (fun h994 => ?_)
  · exact hn _ _ _ _ _ _ (Sim_mgF hS1) mg_mg (by omega) (by omega)
  · exact absurd rfl h994
set_option maxRecDepth 20000 in
set_option maxHeartbeats 1000000 in
theorem lw_c23 {Γ : xGm} {l : Launch} {f : Nat} {nm : String} (hf : 130 ≤ f) {i kc kw kc0 kw0 : Nat} (hn : LwI Γ l f nm i kc kw) (hi : i + 5 ≤ scN Γ) (hN : scN Γ ≤ 2561) {G : xG} {D E : xD} {R : xR} (hS : Sim D R G E) (hD : D = mg D E) (h30 : kc + 30 ≤ kc0) (h525 : kw + 525 ≤ kw0) : Ex Γ l f (ML nm) 999 [some (.ref 1000019), some (.ref 0), some (.ref 17), some (.int (nI i))] [] G D R kc0 kw0 lwQ := by
  refine al1 dL_law_999 (by first | nofun | exact xrv_ne _) ?_
  refine al0 dL_law_1000 (by first | nofun | exact xrv_ne _) ?_
  refine il3 dL_law_1001 ?_
  refine ex_iconst (v := 1) dL_law_1002 (by decide) ?_
  refine ex_iadd dL_law_1003 ?_
  refine ex_scld dL_law_1004 (sc_v (k := 1) (by omega) hN) ?_
  refine cdL_119 (f' := f - 1) rfl dL_law_1005 (Nat.le_of_ble_eq_true rfl) (fx0 hS.X) (by omega) (c_out (by omega) hS) ?_
  have hS1 := hS
  rw [hD]
  refine al2 dL_law_1008 (by first | nofun | exact xrv_ne _) ?_
  refine al0 dL_law_1009 (by first | nofun | exact xrv_ne _) ?_
  refine il3 dL_law_1010 ?_
  refine ex_iconst (v := 1) dL_law_1011 (by decide) ?_
  refine ex_iadd dL_law_1012 ?_
  refine ex_scld dL_law_1013 (sc_v (k := 1) (by omega) hN) ?_
  refine cdL_122 (f' := f - 1) rfl dL_law_1014 (Nat.le_of_ble_eq_true rfl) (fx17 hS1.X) (by omega) (r_out hS1.X (by omega) hS.B) ?_
  refine ex_icmp_eq 1091 dL_law_1017 (by decide) (fun h1017 => ?_) (fun h1017 => ?_)
  · exact hn _ _ _ _ _ _ (Sim_mgF hS1) mg_mg (by omega) (by omega)
  · exact absurd rfl h1017
set_option maxRecDepth 20000 in
set_option maxHeartbeats 1000000 in
theorem lw_c24 {Γ : xGm} {l : Launch} {f : Nat} {nm : String} (hf : 130 ≤ f) {i kc kw kc0 kw0 : Nat} (hn : LwI Γ l f nm i kc kw) (hi : i + 5 ≤ scN Γ) (hN : scN Γ ≤ 2561) {G : xG} {D E : xD} {R : xR} (hS : Sim D R G E) (hD : D = mg D E) (h30 : kc + 30 ≤ kc0) (h525 : kw + 525 ≤ kw0) : Ex Γ l f (ML nm) 1022 [some (.ref 1000019), some (.ref 0), some (.ref 17), some (.int (nI i))] [] G D R kc0 kw0 lwQ := by
  refine al1 dL_law_1022 (by first | nofun | exact xrv_ne _) ?_
  refine csL_123 (f' := f - 1) rfl dL_law_1023 (Nat.le_of_ble_eq_true rfl) (fx0 hS.X) (by omega) (Nat.zero_le _) (Nat.zero_le _) (c_clearO hS) ?_
  refine sq_k (fun D1 hS1 hM1 => ?_)
  have e1 := mg_sam hD hM1
  rw [e1]
  refine al2 dL_law_1026 (by first | nofun | exact xrv_ne _) ?_
  refine cdL_126 (f' := f - 1) rfl dL_law_1027 (Nat.le_of_ble_eq_true rfl) (fx17 hS1.X) (by omega) (r_clear hS1.X) ?_
  refine ex_icmp_eq 1091 dL_law_1030 (by decide) (fun h1030 => ?_) (fun h1030 => ?_)
  · exact hn _ _ _ _ _ _ (Sim_mgF hS1) mg_mg (by omega) (by omega)
  · exact absurd rfl h1030
set_option maxRecDepth 20000 in
set_option maxHeartbeats 1000000 in
theorem lw_c25 {Γ : xGm} {l : Launch} {f : Nat} {nm : String} (hf : 130 ≤ f) {i kc kw kc0 kw0 : Nat} (hn : LwI Γ l f nm i kc kw) (hi : i + 5 ≤ scN Γ) (hN : scN Γ ≤ 2561) {G : xG} {D E : xD} {R : xR} (hS : Sim D R G E) (hD : D = mg D E) (h30 : kc + 30 ≤ kc0) (h525 : kw + 525 ≤ kw0) : Ex Γ l f (ML nm) 1035 [some (.ref 1000019), some (.ref 0), some (.ref 17), some (.int (nI i))] [] G D R kc0 kw0 lwQ := by
  refine al1 dL_law_1035 (by first | nofun | exact xrv_ne _) ?_
  refine al0 dL_law_1036 (by first | nofun | exact xrv_ne _) ?_
  refine il3 dL_law_1037 ?_
  refine ex_iconst (v := 1) dL_law_1038 (by decide) ?_
  refine ex_iadd dL_law_1039 ?_
  refine ex_scld dL_law_1040 (sc_v (k := 1) (by omega) hN) ?_
  refine al0 dL_law_1041 (by first | nofun | exact xrv_ne _) ?_
  refine il3 dL_law_1042 ?_
  refine ex_iconst (v := 2) dL_law_1043 (by decide) ?_
  refine ex_iadd dL_law_1044 ?_
  refine ex_scld dL_law_1045 (sc_v (k := 2) (by omega) hN) ?_
  refine cdL_127 (f' := f - 1) rfl dL_law_1046 (Nat.le_of_ble_eq_true rfl) (fx0 hS.X) (by omega) (c_fault (by omega) hS) ?_
  have hS1 := hS
  rw [hD]
  refine al2 dL_law_1049 (by first | nofun | exact xrv_ne _) ?_
  refine al0 dL_law_1050 (by first | nofun | exact xrv_ne _) ?_
  refine il3 dL_law_1051 ?_
  refine ex_iconst (v := 1) dL_law_1052 (by decide) ?_
  refine ex_iadd dL_law_1053 ?_
  refine ex_scld dL_law_1054 (sc_v (k := 1) (by omega) hN) ?_
  refine al0 dL_law_1055 (by first | nofun | exact xrv_ne _) ?_
  refine il3 dL_law_1056 ?_
  refine ex_iconst (v := 2) dL_law_1057 (by decide) ?_
  refine ex_iadd dL_law_1058 ?_
  refine ex_scld dL_law_1059 (sc_v (k := 2) (by omega) hN) ?_
  refine cdL_130 (f' := f - 1) rfl dL_law_1060 (Nat.le_of_ble_eq_true rfl) (fx17 hS1.X) (by omega) (r_fault hS1.X (by omega) hS.B) ?_
  refine ex_icmp_eq 1091 dL_law_1063 (by decide) (fun h1063 => ?_) (fun h1063 => ?_)
  · exact hn _ _ _ _ _ _ (Sim_mgF hS1) mg_mg (by omega) (by omega)
  · exact absurd rfl h1063
set_option maxRecDepth 20000 in
set_option maxHeartbeats 1000000 in
theorem lw_c26 {Γ : xGm} {l : Launch} {f : Nat} {nm : String} (hf : 130 ≤ f) {i kc kw kc0 kw0 : Nat} (hn : LwI Γ l f nm i kc kw) (hi : i + 5 ≤ scN Γ) (hN : scN Γ ≤ 2561) {G : xG} {D E : xD} {R : xR} (hS : Sim D R G E) (hD : D = mg D E) (h30 : kc + 30 ≤ kc0) (h525 : kw + 525 ≤ kw0) : Ex Γ l f (ML nm) 1068 [some (.ref 1000019), some (.ref 0), some (.ref 17), some (.int (nI i))] [] G D R kc0 kw0 lwQ := by
  refine al1 dL_law_1068 (by first | nofun | exact xrv_ne _) ?_
  refine al0 dL_law_1069 (by first | nofun | exact xrv_ne _) ?_
  refine il3 dL_law_1070 ?_
  refine ex_iconst (v := 1) dL_law_1071 (by decide) ?_
  refine ex_iadd dL_law_1072 ?_
  refine ex_scld dL_law_1073 (sc_v (k := 1) (by omega) hN) ?_
  refine cdL_131 (f' := f - 1) rfl dL_law_1074 (Nat.le_of_ble_eq_true rfl) (fx0 hS.X) (by omega) (c_count hS) ?_
  have hS1 := hS
  rw [hD]
  refine al2 dL_law_1077 (by first | nofun | exact xrv_ne _) ?_
  refine al0 dL_law_1078 (by first | nofun | exact xrv_ne _) ?_
  refine il3 dL_law_1079 ?_
  refine ex_iconst (v := 1) dL_law_1080 (by decide) ?_
  refine ex_iadd dL_law_1081 ?_
  refine ex_scld dL_law_1082 (sc_v (k := 1) (by omega) hN) ?_
  refine cdL_134 (f' := f - 1) rfl dL_law_1083 (Nat.le_of_ble_eq_true rfl) (fx17 hS1.X) (by omega) (r_count hS1.X) ?_
  refine ex_icmp_eq 1091 dL_law_1086 (by decide) (fun h1086 => ?_) (fun h1086 => ?_)
  · exact hn _ _ _ _ _ _ (Sim_mgF hS1) mg_mg (by omega) (by omega)
  · exact absurd rfl h1086
set_option maxRecDepth 20000 in
set_option maxHeartbeats 1000000 in
theorem lw_c8 {Γ : xGm} {l : Launch} {f : Nat} {nm : String} (hf : 130 ≤ f) {i kc kw kc0 kw0 : Nat} (hn : LwI Γ l f nm i kc kw) (hi : i + 5 ≤ scN Γ) (hN : scN Γ ≤ 2561) {G : xG} {D E : xD} {R : xR} (hS : Sim D R G E) (hD : D = mg D E) (h30 : kc + 30 ≤ kc0) (h525 : kw + 525 ≤ kw0) : Ex Γ l f (ML nm) 418 [some (.ref 1000019), some (.ref 0), some (.ref 17), some (.int (nI i))] [] G D R kc0 kw0 lwQ := by
  by_cases hz : sc Γ (nI i + 3) = 0
  · refine al1 dL_law_418 (by first | nofun | exact xrv_ne _) ?_
    refine al0 dL_law_419 (by first | nofun | exact xrv_ne _) ?_
    refine il3 dL_law_420 ?_
    refine ex_iconst (v := 1) dL_law_421 (by decide) ?_
    refine ex_iadd dL_law_422 ?_
    refine ex_scld dL_law_423 (sc_v (k := 1) (by omega) hN) ?_
    refine al0 dL_law_424 (by first | nofun | exact xrv_ne _) ?_
    refine il3 dL_law_425 ?_
    refine ex_iconst (v := 2) dL_law_426 (by decide) ?_
    refine ex_iadd dL_law_427 ?_
    refine ex_scld dL_law_428 (sc_v (k := 2) (by omega) hN) ?_
    refine al0 dL_law_429 (by first | nofun | exact xrv_ne _) ?_
    refine il3 dL_law_430 ?_
    refine ex_iconst (v := 3) dL_law_431 (by decide) ?_
    refine ex_iadd dL_law_432 ?_
    refine ex_scld dL_law_433 (sc_v (k := 3) (by omega) hN) ?_
    refine ex_if_eq 441 dL_law_434 (by decide) (fun h434 => ?_) (fun h434 => ?_)
    · refine ex_iconst (v := 0) dL_law_441 (by decide) ?_
      refine csL_58 (f' := f - 1) rfl dL_law_442 (Nat.le_of_ble_eq_true rfl) (fx0 hS.X) (by omega) (by omega) (by omega) (c_called (by omega) hS (Or.inl rfl)) ?_
      rintro v1 G1 D1 R1 ⟨rfl, hS1, hM1⟩
      have e1 := mg_sam hD hM1
      rw [e1]
      refine al2 dL_law_445 (by first | nofun | exact xrv_ne _) ?_
      refine al0 dL_law_446 (by first | nofun | exact xrv_ne _) ?_
      refine il3 dL_law_447 ?_
      refine ex_iconst (v := 1) dL_law_448 (by decide) ?_
      refine ex_iadd dL_law_449 ?_
      refine ex_scld dL_law_450 (sc_v (k := 1) (by omega) hN) ?_
      refine al0 dL_law_451 (by first | nofun | exact xrv_ne _) ?_
      refine il3 dL_law_452 ?_
      refine ex_iconst (v := 2) dL_law_453 (by decide) ?_
      refine ex_iadd dL_law_454 ?_
      refine ex_scld dL_law_455 (sc_v (k := 2) (by omega) hN) ?_
      refine al0 dL_law_456 (by first | nofun | exact xrv_ne _) ?_
      refine il3 dL_law_457 ?_
      refine ex_iconst (v := 3) dL_law_458 (by decide) ?_
      refine ex_iadd dL_law_459 ?_
      refine ex_scld dL_law_460 (sc_v (k := 3) (by omega) hN) ?_
      refine ex_if_eq 468 dL_law_461 (by decide) (fun h461 => ?_) (fun h461 => ?_)
      · refine ex_iconst (v := 0) dL_law_468 (by decide) ?_
        refine cdL_62 (f' := f - 1) rfl dL_law_469 (Nat.le_of_ble_eq_true rfl) (fx17 hS1.X) (by omega) (r_called hS1.X (by omega) hS.B (Or.inl rfl)) ?_
        refine ex_icmp_eq 1091 dL_law_472 (by decide) (fun h472 => ?_) (fun h472 => ?_)
        · exact hn _ _ _ _ _ _ (Sim_mgF hS1) mg_mg (by omega) (by omega)
        · exact absurd rfl h472
      · exact absurd hz h461
    · exact absurd hz h434
  · refine al1 dL_law_418 (by first | nofun | exact xrv_ne _) ?_
    refine al0 dL_law_419 (by first | nofun | exact xrv_ne _) ?_
    refine il3 dL_law_420 ?_
    refine ex_iconst (v := 1) dL_law_421 (by decide) ?_
    refine ex_iadd dL_law_422 ?_
    refine ex_scld dL_law_423 (sc_v (k := 1) (by omega) hN) ?_
    refine al0 dL_law_424 (by first | nofun | exact xrv_ne _) ?_
    refine il3 dL_law_425 ?_
    refine ex_iconst (v := 2) dL_law_426 (by decide) ?_
    refine ex_iadd dL_law_427 ?_
    refine ex_scld dL_law_428 (sc_v (k := 2) (by omega) hN) ?_
    refine al0 dL_law_429 (by first | nofun | exact xrv_ne _) ?_
    refine il3 dL_law_430 ?_
    refine ex_iconst (v := 3) dL_law_431 (by decide) ?_
    refine ex_iadd dL_law_432 ?_
    refine ex_scld dL_law_433 (sc_v (k := 3) (by omega) hN) ?_
    refine ex_if_eq 441 dL_law_434 (by decide) (fun h434 => ?_) (fun h434 => ?_)
    · exact absurd h434 hz
    · refine ex_iconst (v := 1) dL_law_437 (by decide) ?_
      refine ex_goto 442 dL_law_438 (by decide) ?_
      refine csL_58 (f' := f - 1) rfl dL_law_442 (Nat.le_of_ble_eq_true rfl) (fx0 hS.X) (by omega) (by omega) (by omega) (c_called (by omega) hS (Or.inr rfl)) ?_
      rintro v1 G1 D1 R1 ⟨rfl, hS1, hM1⟩
      have e1 := mg_sam hD hM1
      rw [e1]
      refine al2 dL_law_445 (by first | nofun | exact xrv_ne _) ?_
      refine al0 dL_law_446 (by first | nofun | exact xrv_ne _) ?_
      refine il3 dL_law_447 ?_
      refine ex_iconst (v := 1) dL_law_448 (by decide) ?_
      refine ex_iadd dL_law_449 ?_
      refine ex_scld dL_law_450 (sc_v (k := 1) (by omega) hN) ?_
      refine al0 dL_law_451 (by first | nofun | exact xrv_ne _) ?_
      refine il3 dL_law_452 ?_
      refine ex_iconst (v := 2) dL_law_453 (by decide) ?_
      refine ex_iadd dL_law_454 ?_
      refine ex_scld dL_law_455 (sc_v (k := 2) (by omega) hN) ?_
      refine al0 dL_law_456 (by first | nofun | exact xrv_ne _) ?_
      refine il3 dL_law_457 ?_
      refine ex_iconst (v := 3) dL_law_458 (by decide) ?_
      refine ex_iadd dL_law_459 ?_
      refine ex_scld dL_law_460 (sc_v (k := 3) (by omega) hN) ?_
      refine ex_if_eq 468 dL_law_461 (by decide) (fun h461 => ?_) (fun h461 => ?_)
      · exact absurd h461 hz
      · refine ex_iconst (v := 1) dL_law_464 (by decide) ?_
        refine ex_goto 469 dL_law_465 (by decide) ?_
        refine cdL_62 (f' := f - 1) rfl dL_law_469 (Nat.le_of_ble_eq_true rfl) (fx17 hS1.X) (by omega) (r_called hS1.X (by omega) hS.B (Or.inr rfl)) ?_
        refine ex_icmp_eq 1091 dL_law_472 (by decide) (fun h472 => ?_) (fun h472 => ?_)
        · exact hn _ _ _ _ _ _ (Sim_mgF hS1) mg_mg (by omega) (by omega)
        · exact absurd rfl h472
