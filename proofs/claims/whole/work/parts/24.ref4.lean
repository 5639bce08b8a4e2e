set_option maxRecDepth 20000 in
set_option maxHeartbeats 1000000 in
theorem r_name {Γ : xGm} {l : Launch} {f : Nat} {G : xG} {D E : xD} {R : xR} (hX : xFix G R) (hf : 2 ≤ f) (hB : RB E) {v a : Int32} : Cn Γ l f MX10_name [.ref 17, .int v, .int a] G (mg D E) R 0 0 (xdet (some (.int (sName E v a 0 29))) G (mg D (sName E v a)) R) := by
  refine cn_of MX10_name_ok (Nat.le_of_ble_eq_true rfl) ?_
  show Ex Γ l f MX10_name 0 [some (.ref 17), some (.int v), some (.int a), none] [] G (mg D E) R 0 0 _
  refine al0 dX10_name_0 (by first | nofun | exact xrv_ne _) ?_
  refine il1 dX10_name_1 ?_
  refine cd10_141 (f' := f - 1) rfl dX10_name_2 (Nat.le_of_ble_eq_true rfl) (fx17 hX) (by omega) (r_meta hX (by omega) hB) ?_
  refine is3 dX10_name_5 ?_
  refine il1 dX10_name_6 ?_
  refine ex_if_ne 55 dX10_name_7 (by decide) (fun h7 => ?_) (fun h7 => ?_)
  · refine il3 dX10_name_55 ?_
    refine ex_iconst (v := 1) dX10_name_56 (by decide) ?_
    refine ex_icmp_eq 104 dX10_name_57 (by decide) (fun h57 => ?_) (fun h57 => ?_)
    · refine il3 dX10_name_104 ?_
      refine ex_iconst (v := 1) dX10_name_105 (by decide) ?_
      refine ex_icmp_ne 145 dX10_name_106 (by decide) (fun h106 => ?_) (fun h106 => ?_)
      · refine al0 dX10_name_145 (by first | nofun | exact xrv_ne _) ?_
        refine rf_59 hX rfl dX10_name_146 ?_
        refine il1 dX10_name_149 ?_
        refine rb_17 hX dX10_name_150 (hB.in14 (by first | exact sMeta_1 (by assumption) | exact sMeta_2 (by assumption))) ?_
        try simp only [sSay_ne (show (17 : Nat) ≠ 0 by decide) (show (17 : Nat) ≠ 23 by decide), sArticle_ne (show (17 : Nat) ≠ 0 by decide) (show (17 : Nat) ≠ 23 by decide)]
        refine ex_if_ne 162 dX10_name_151 (by decide) (fun h151 => ?_) (fun h151 => ?_)
        · refine il3 dX10_name_162 ?_
          refine ex_iconst (v := 2) dX10_name_163 (by decide) ?_
          refine ex_icmp_ne 187 dX10_name_164 (by decide) (fun h164 => ?_) (fun h164 => ?_)
          · refine al0 dX10_name_187 (by first | nofun | exact xrv_ne _) ?_
            refine al0 dX10_name_188 (by first | nofun | exact xrv_ne _) ?_
            refine rf_59 hX rfl dX10_name_189 ?_
            refine il1 dX10_name_192 ?_
            refine rb_17 hX dX10_name_193 (hB.in14 (by first | exact sMeta_1 (by assumption) | exact sMeta_2 (by assumption))) ?_
            try simp only [sSay_ne (show (17 : Nat) ≠ 0 by decide) (show (17 : Nat) ≠ 23 by decide), sArticle_ne (show (17 : Nat) ≠ 0 by decide) (show (17 : Nat) ≠ 23 by decide)]
            refine cd10_163 (f' := f - 1) rfl dX10_name_194 (Nat.le_of_ble_eq_true rfl) (fx17 hX) (by omega) (r_sayText hX (by omega) (by (try (with_reducible apply sArticle_29)); (repeat (with_reducible apply sSay_29)); with_reducible exact hB.n29) (sName_t hB (fun q => by first | exact q.1 (by assumption) | exact q.2 (by assumption)) h151).1 (by (try simp only [sSay_ne (show (2 : Nat) ≠ 0 by decide) (show (2 : Nat) ≠ 23 by decide), sArticle_ne (show (2 : Nat) ≠ 0 by decide) (show (2 : Nat) ≠ 23 by decide)]); exact (sName_t hB (fun q => by first | exact q.1 (by assumption) | exact q.2 (by assumption)) h151).2)) ?_
            refine al0 dX10_name_197 (by first | nofun | exact xrv_ne _) ?_
            refine rf_148 hX rfl dX10_name_198 ?_
            refine ex_iret dX10_name_201 rfl ?_
            refine ⟨?_, rfl, ?_, rfl⟩ <;> simp_all [sName, sSays]
          · refine al0 dX10_name_167 (by first | nofun | exact xrv_ne _) ?_
            refine rf_62 hX rfl dX10_name_168 ?_
            refine il1 dX10_name_171 ?_
            refine rb_18 hX dX10_name_172 (hB.in14 (by first | exact sMeta_1 (by assumption) | exact sMeta_2 (by assumption))) ?_
            try simp only [sSay_ne (show (18 : Nat) ≠ 0 by decide) (show (18 : Nat) ≠ 23 by decide), sArticle_ne (show (18 : Nat) ≠ 0 by decide) (show (18 : Nat) ≠ 23 by decide)]
            refine ex_if_ne 187 dX10_name_173 (by decide) (fun h173 => ?_) (fun h173 => ?_)
            · refine al0 dX10_name_187 (by first | nofun | exact xrv_ne _) ?_
              refine al0 dX10_name_188 (by first | nofun | exact xrv_ne _) ?_
              refine rf_59 hX rfl dX10_name_189 ?_
              refine il1 dX10_name_192 ?_
              refine rb_17 hX dX10_name_193 (hB.in14 (by first | exact sMeta_1 (by assumption) | exact sMeta_2 (by assumption))) ?_
              try simp only [sSay_ne (show (17 : Nat) ≠ 0 by decide) (show (17 : Nat) ≠ 23 by decide), sArticle_ne (show (17 : Nat) ≠ 0 by decide) (show (17 : Nat) ≠ 23 by decide)]
              refine cd10_163 (f' := f - 1) rfl dX10_name_194 (Nat.le_of_ble_eq_true rfl) (fx17 hX) (by omega) (r_sayText hX (by omega) (by (try (with_reducible apply sArticle_29)); (repeat (with_reducible apply sSay_29)); with_reducible exact hB.n29) (sName_t hB (fun q => by first | exact q.1 (by assumption) | exact q.2 (by assumption)) h151).1 (by (try simp only [sSay_ne (show (2 : Nat) ≠ 0 by decide) (show (2 : Nat) ≠ 23 by decide), sArticle_ne (show (2 : Nat) ≠ 0 by decide) (show (2 : Nat) ≠ 23 by decide)]); exact (sName_t hB (fun q => by first | exact q.1 (by assumption) | exact q.2 (by assumption)) h151).2)) ?_
              refine al0 dX10_name_197 (by first | nofun | exact xrv_ne _) ?_
              refine rf_148 hX rfl dX10_name_198 ?_
              refine ex_iret dX10_name_201 rfl ?_
              refine ⟨?_, rfl, ?_, rfl⟩ <;> simp_all [sName, sSays]
            · refine al0 dX10_name_176 (by first | nofun | exact xrv_ne _) ?_
              refine al0 dX10_name_177 (by first | nofun | exact xrv_ne _) ?_
              refine rf_59 hX rfl dX10_name_178 ?_
              refine il1 dX10_name_181 ?_
              refine rb_17 hX dX10_name_182 (hB.in14 (by first | exact sMeta_1 (by assumption) | exact sMeta_2 (by assumption))) ?_
              try simp only [sSay_ne (show (17 : Nat) ≠ 0 by decide) (show (17 : Nat) ≠ 23 by decide), sArticle_ne (show (17 : Nat) ≠ 0 by decide) (show (17 : Nat) ≠ 23 by decide)]
              refine il2 dX10_name_183 ?_
              refine cd10_160 (f' := f - 1) rfl dX10_name_184 (Nat.le_of_ble_eq_true rfl) (fx17 hX) (by omega) (r_sayArticle hX (by omega) (by (repeat (with_reducible apply sSay_29)); with_reducible exact hB.n29) (sName_t hB (fun q => by first | exact q.1 (by assumption) | exact q.2 (by assumption)) h151).1) ?_
              refine al0 dX10_name_187 (by first | nofun | exact xrv_ne _) ?_
              refine al0 dX10_name_188 (by first | nofun | exact xrv_ne _) ?_
              refine rf_59 hX rfl dX10_name_189 ?_
              refine il1 dX10_name_192 ?_
              refine rb_17 hX dX10_name_193 (hB.in14 (by first | exact sMeta_1 (by assumption) | exact sMeta_2 (by assumption))) ?_
              try simp only [sSay_ne (show (17 : Nat) ≠ 0 by decide) (show (17 : Nat) ≠ 23 by decide), sArticle_ne (show (17 : Nat) ≠ 0 by decide) (show (17 : Nat) ≠ 23 by decide)]
              refine cd10_163 (f' := f - 1) rfl dX10_name_194 (Nat.le_of_ble_eq_true rfl) (fx17 hX) (by omega) (r_sayText hX (by omega) (by (try (with_reducible apply sArticle_29)); (repeat (with_reducible apply sSay_29)); with_reducible exact hB.n29) (sName_t hB (fun q => by first | exact q.1 (by assumption) | exact q.2 (by assumption)) h151).1 (by (try simp only [sSay_ne (show (2 : Nat) ≠ 0 by decide) (show (2 : Nat) ≠ 23 by decide), sArticle_ne (show (2 : Nat) ≠ 0 by decide) (show (2 : Nat) ≠ 23 by decide)]); exact (sName_t hB (fun q => by first | exact q.1 (by assumption) | exact q.2 (by assumption)) h151).2)) ?_
              refine al0 dX10_name_197 (by first | nofun | exact xrv_ne _) ?_
              refine rf_148 hX rfl dX10_name_198 ?_
              refine ex_iret dX10_name_201 rfl ?_
              refine ⟨?_, rfl, ?_, rfl⟩ <;> simp_all [sName, sSays]
        · refine al0 dX10_name_154 (by first | nofun | exact xrv_ne _) ?_
          refine il1 dX10_name_155 ?_
          refine cd10_157 (f' := f - 1) rfl dX10_name_156 (Nat.le_of_ble_eq_true rfl) (fx17 hX) (by omega) (r_sayNumber hX (by omega) (by (repeat (with_reducible apply sSay_29)); with_reducible exact hB.n29)) ?_
          refine ex_goto 197 dX10_name_159 (by decide) ?_
          refine al0 dX10_name_197 (by first | nofun | exact xrv_ne _) ?_
          refine rf_148 hX rfl dX10_name_198 ?_
          refine ex_iret dX10_name_201 rfl ?_
          refine ⟨?_, rfl, ?_, rfl⟩ <;> simp_all [sName, sSays]
      · refine al0 dX10_name_109 (by first | nofun | exact xrv_ne _) ?_
        refine ex_bipush (v := 99) dX10_name_110 (by decide) ?_
        refine cd10_151 (f' := f - 1) rfl dX10_name_112 (Nat.le_of_ble_eq_true rfl) (fx17 hX) (by omega) (r_say hX (by (repeat (with_reducible apply sSay_29)); with_reducible exact hB.n29)) ?_
        refine al0 dX10_name_115 (by first | nofun | exact xrv_ne _) ?_
        refine ex_bipush (v := 108) dX10_name_116 (by decide) ?_
        refine cd10_151 (f' := f - 1) rfl dX10_name_118 (Nat.le_of_ble_eq_true rfl) (fx17 hX) (by omega) (r_say hX (by (repeat (with_reducible apply sSay_29)); with_reducible exact hB.n29)) ?_
        refine al0 dX10_name_121 (by first | nofun | exact xrv_ne _) ?_
        refine ex_bipush (v := 97) dX10_name_122 (by decide) ?_
        refine cd10_151 (f' := f - 1) rfl dX10_name_124 (Nat.le_of_ble_eq_true rfl) (fx17 hX) (by omega) (r_say hX (by (repeat (with_reducible apply sSay_29)); with_reducible exact hB.n29)) ?_
        refine al0 dX10_name_127 (by first | nofun | exact xrv_ne _) ?_
        refine ex_bipush (v := 115) dX10_name_128 (by decide) ?_
        refine cd10_151 (f' := f - 1) rfl dX10_name_130 (Nat.le_of_ble_eq_true rfl) (fx17 hX) (by omega) (r_say hX (by (repeat (with_reducible apply sSay_29)); with_reducible exact hB.n29)) ?_
        refine al0 dX10_name_133 (by first | nofun | exact xrv_ne _) ?_
        refine ex_bipush (v := 115) dX10_name_134 (by decide) ?_
        refine cd10_151 (f' := f - 1) rfl dX10_name_136 (Nat.le_of_ble_eq_true rfl) (fx17 hX) (by omega) (r_say hX (by (repeat (with_reducible apply sSay_29)); with_reducible exact hB.n29)) ?_
        refine al0 dX10_name_139 (by first | nofun | exact xrv_ne _) ?_
        refine ex_bipush (v := 32) dX10_name_140 (by decide) ?_
        refine cd10_151 (f' := f - 1) rfl dX10_name_142 (Nat.le_of_ble_eq_true rfl) (fx17 hX) (by omega) (r_say hX (by (repeat (with_reducible apply sSay_29)); with_reducible exact hB.n29)) ?_
        refine al0 dX10_name_145 (by first | nofun | exact xrv_ne _) ?_
        refine rf_59 hX rfl dX10_name_146 ?_
        refine il1 dX10_name_149 ?_
        refine rb_17 hX dX10_name_150 (hB.in14 (by first | exact sMeta_1 (by assumption) | exact sMeta_2 (by assumption))) ?_
        try simp only [sSay_ne (show (17 : Nat) ≠ 0 by decide) (show (17 : Nat) ≠ 23 by decide), sArticle_ne (show (17 : Nat) ≠ 0 by decide) (show (17 : Nat) ≠ 23 by decide)]
        refine ex_if_ne 162 dX10_name_151 (by decide) (fun h151 => ?_) (fun h151 => ?_)
        · refine il3 dX10_name_162 ?_
          refine ex_iconst (v := 2) dX10_name_163 (by decide) ?_
          refine ex_icmp_ne 187 dX10_name_164 (by decide) (fun h164 => ?_) (fun h164 => ?_)
          · refine al0 dX10_name_187 (by first | nofun | exact xrv_ne _) ?_
            refine al0 dX10_name_188 (by first | nofun | exact xrv_ne _) ?_
            refine rf_59 hX rfl dX10_name_189 ?_
            refine il1 dX10_name_192 ?_
            refine rb_17 hX dX10_name_193 (hB.in14 (by first | exact sMeta_1 (by assumption) | exact sMeta_2 (by assumption))) ?_
            try simp only [sSay_ne (show (17 : Nat) ≠ 0 by decide) (show (17 : Nat) ≠ 23 by decide), sArticle_ne (show (17 : Nat) ≠ 0 by decide) (show (17 : Nat) ≠ 23 by decide)]
            refine cd10_163 (f' := f - 1) rfl dX10_name_194 (Nat.le_of_ble_eq_true rfl) (fx17 hX) (by omega) (r_sayText hX (by omega) (by (try (with_reducible apply sArticle_29)); (repeat (with_reducible apply sSay_29)); with_reducible exact hB.n29) (sName_t hB (fun q => by first | exact q.1 (by assumption) | exact q.2 (by assumption)) h151).1 (by (try simp only [sSay_ne (show (2 : Nat) ≠ 0 by decide) (show (2 : Nat) ≠ 23 by decide), sArticle_ne (show (2 : Nat) ≠ 0 by decide) (show (2 : Nat) ≠ 23 by decide)]); exact (sName_t hB (fun q => by first | exact q.1 (by assumption) | exact q.2 (by assumption)) h151).2)) ?_
            refine al0 dX10_name_197 (by first | nofun | exact xrv_ne _) ?_
            refine rf_148 hX rfl dX10_name_198 ?_
            refine ex_iret dX10_name_201 rfl ?_
            refine ⟨?_, rfl, ?_, rfl⟩ <;> simp_all [sName, sSays]
          · refine al0 dX10_name_167 (by first | nofun | exact xrv_ne _) ?_
            refine rf_62 hX rfl dX10_name_168 ?_
            refine il1 dX10_name_171 ?_
            refine rb_18 hX dX10_name_172 (hB.in14 (by first | exact sMeta_1 (by assumption) | exact sMeta_2 (by assumption))) ?_
            try simp only [sSay_ne (show (18 : Nat) ≠ 0 by decide) (show (18 : Nat) ≠ 23 by decide), sArticle_ne (show (18 : Nat) ≠ 0 by decide) (show (18 : Nat) ≠ 23 by decide)]
            refine ex_if_ne 187 dX10_name_173 (by decide) (fun h173 => ?_) (fun h173 => ?_)
            · refine al0 dX10_name_187 (by first | nofun | exact xrv_ne _) ?_
              refine al0 dX10_name_188 (by first | nofun | exact xrv_ne _) ?_
              refine rf_59 hX rfl dX10_name_189 ?_
              refine il1 dX10_name_192 ?_
              refine rb_17 hX dX10_name_193 (hB.in14 (by first | exact sMeta_1 (by assumption) | exact sMeta_2 (by assumption))) ?_
              try simp only [sSay_ne (show (17 : Nat) ≠ 0 by decide) (show (17 : Nat) ≠ 23 by decide), sArticle_ne (show (17 : Nat) ≠ 0 by decide) (show (17 : Nat) ≠ 23 by decide)]
              refine cd10_163 (f' := f - 1) rfl dX10_name_194 (Nat.le_of_ble_eq_true rfl) (fx17 hX) (by omega) (r_sayText hX (by omega) (by (try (with_reducible apply sArticle_29)); (repeat (with_reducible apply sSay_29)); with_reducible exact hB.n29) (sName_t hB (fun q => by first | exact q.1 (by assumption) | exact q.2 (by assumption)) h151).1 (by (try simp only [sSay_ne (show (2 : Nat) ≠ 0 by decide) (show (2 : Nat) ≠ 23 by decide), sArticle_ne (show (2 : Nat) ≠ 0 by decide) (show (2 : Nat) ≠ 23 by decide)]); exact (sName_t hB (fun q => by first | exact q.1 (by assumption) | exact q.2 (by assumption)) h151).2)) ?_
              refine al0 dX10_name_197 (by first | nofun | exact xrv_ne _) ?_
              refine rf_148 hX rfl dX10_name_198 ?_
              refine ex_iret dX10_name_201 rfl ?_
              refine ⟨?_, rfl, ?_, rfl⟩ <;> simp_all [sName, sSays]
            · refine al0 dX10_name_176 (by first | nofun | exact xrv_ne _) ?_
              refine al0 dX10_name_177 (by first | nofun | exact xrv_ne _) ?_
              refine rf_59 hX rfl dX10_name_178 ?_
              refine il1 dX10_name_181 ?_
              refine rb_17 hX dX10_name_182 (hB.in14 (by first | exact sMeta_1 (by assumption) | exact sMeta_2 (by assumption))) ?_
              try simp only [sSay_ne (show (17 : Nat) ≠ 0 by decide) (show (17 : Nat) ≠ 23 by decide), sArticle_ne (show (17 : Nat) ≠ 0 by decide) (show (17 : Nat) ≠ 23 by decide)]
              refine il2 dX10_name_183 ?_
              refine cd10_160 (f' := f - 1) rfl dX10_name_184 (Nat.le_of_ble_eq_true rfl) (fx17 hX) (by omega) (r_sayArticle hX (by omega) (by (repeat (with_reducible apply sSay_29)); with_reducible exact hB.n29) (sName_t hB (fun q => by first | exact q.1 (by assumption) | exact q.2 (by assumption)) h151).1) ?_
              refine al0 dX10_name_187 (by first | nofun | exact xrv_ne _) ?_
              refine al0 dX10_name_188 (by first | nofun | exact xrv_ne _) ?_
              refine rf_59 hX rfl dX10_name_189 ?_
              refine il1 dX10_name_192 ?_
              refine rb_17 hX dX10_name_193 (hB.in14 (by first | exact sMeta_1 (by assumption) | exact sMeta_2 (by assumption))) ?_
              try simp only [sSay_ne (show (17 : Nat) ≠ 0 by decide) (show (17 : Nat) ≠ 23 by decide), sArticle_ne (show (17 : Nat) ≠ 0 by decide) (show (17 : Nat) ≠ 23 by decide)]
              refine cd10_163 (f' := f - 1) rfl dX10_name_194 (Nat.le_of_ble_eq_true rfl) (fx17 hX) (by omega) (r_sayText hX (by omega) (by (try (with_reducible apply sArticle_29)); (repeat (with_reducible apply sSay_29)); with_reducible exact hB.n29) (sName_t hB (fun q => by first | exact q.1 (by assumption) | exact q.2 (by assumption)) h151).1 (by (try simp only [sSay_ne (show (2 : Nat) ≠ 0 by decide) (show (2 : Nat) ≠ 23 by decide), sArticle_ne (show (2 : Nat) ≠ 0 by decide) (show (2 : Nat) ≠ 23 by decide)]); exact (sName_t hB (fun q => by first | exact q.1 (by assumption) | exact q.2 (by assumption)) h151).2)) ?_
              refine al0 dX10_name_197 (by first | nofun | exact xrv_ne _) ?_
              refine rf_148 hX rfl dX10_name_198 ?_
              refine ex_iret dX10_name_201 rfl ?_
              refine ⟨?_, rfl, ?_, rfl⟩ <;> simp_all [sName, sSays]
        · refine al0 dX10_name_154 (by first | nofun | exact xrv_ne _) ?_
          refine il1 dX10_name_155 ?_
          refine cd10_157 (f' := f - 1) rfl dX10_name_156 (Nat.le_of_ble_eq_true rfl) (fx17 hX) (by omega) (r_sayNumber hX (by omega) (by (repeat (with_reducible apply sSay_29)); with_reducible exact hB.n29)) ?_
          refine ex_goto 197 dX10_name_159 (by decide) ?_
          refine al0 dX10_name_197 (by first | nofun | exact xrv_ne _) ?_
          refine rf_148 hX rfl dX10_name_198 ?_
          refine ex_iret dX10_name_201 rfl ?_
          refine ⟨?_, rfl, ?_, rfl⟩ <;> simp_all [sName, sSays]
    · refine il3 dX10_name_60 ?_
      refine ex_iconst (v := 2) dX10_name_61 (by decide) ?_
      refine ex_icmp_eq 104 dX10_name_62 (by decide) (fun h62 => ?_) (fun h62 => ?_)
      · refine il3 dX10_name_104 ?_
        refine ex_iconst (v := 1) dX10_name_105 (by decide) ?_
        refine ex_icmp_ne 145 dX10_name_106 (by decide) (fun h106 => ?_) (fun h106 => ?_)
        · refine al0 dX10_name_145 (by first | nofun | exact xrv_ne _) ?_
          refine rf_59 hX rfl dX10_name_146 ?_
          refine il1 dX10_name_149 ?_
          refine rb_17 hX dX10_name_150 (hB.in14 (by first | exact sMeta_1 (by assumption) | exact sMeta_2 (by assumption))) ?_
          try simp only [sSay_ne (show (17 : Nat) ≠ 0 by decide) (show (17 : Nat) ≠ 23 by decide), sArticle_ne (show (17 : Nat) ≠ 0 by decide) (show (17 : Nat) ≠ 23 by decide)]
          refine ex_if_ne 162 dX10_name_151 (by decide) (fun h151 => ?_) (fun h151 => ?_)
          · refine il3 dX10_name_162 ?_
            refine ex_iconst (v := 2) dX10_name_163 (by decide) ?_
            refine ex_icmp_ne 187 dX10_name_164 (by decide) (fun h164 => ?_) (fun h164 => ?_)
            · refine al0 dX10_name_187 (by first | nofun | exact xrv_ne _) ?_
              refine al0 dX10_name_188 (by first | nofun | exact xrv_ne _) ?_
              refine rf_59 hX rfl dX10_name_189 ?_
              refine il1 dX10_name_192 ?_
              refine rb_17 hX dX10_name_193 (hB.in14 (by first | exact sMeta_1 (by assumption) | exact sMeta_2 (by assumption))) ?_
              try simp only [sSay_ne (show (17 : Nat) ≠ 0 by decide) (show (17 : Nat) ≠ 23 by decide), sArticle_ne (show (17 : Nat) ≠ 0 by decide) (show (17 : Nat) ≠ 23 by decide)]
              refine cd10_163 (f' := f - 1) rfl dX10_name_194 (Nat.le_of_ble_eq_true rfl) (fx17 hX) (by omega) (r_sayText hX (by omega) (by (try (with_reducible apply sArticle_29)); (repeat (with_reducible apply sSay_29)); with_reducible exact hB.n29) (sName_t hB (fun q => by first | exact q.1 (by assumption) | exact q.2 (by assumption)) h151).1 (by (try simp only [sSay_ne (show (2 : Nat) ≠ 0 by decide) (show (2 : Nat) ≠ 23 by decide), sArticle_ne (show (2 : Nat) ≠ 0 by decide) (show (2 : Nat) ≠ 23 by decide)]); exact (sName_t hB (fun q => by first | exact q.1 (by assumption) | exact q.2 (by assumption)) h151).2)) ?_
              refine al0 dX10_name_197 (by first | nofun | exact xrv_ne _) ?_
              refine rf_148 hX rfl dX10_name_198 ?_
              refine ex_iret dX10_name_201 rfl ?_
              refine ⟨?_, rfl, ?_, rfl⟩ <;> simp_all [sName, sSays]
            · refine al0 dX10_name_167 (by first | nofun | exact xrv_ne _) ?_
              refine rf_62 hX rfl dX10_name_168 ?_
              refine il1 dX10_name_171 ?_
              refine rb_18 hX dX10_name_172 (hB.in14 (by first | exact sMeta_1 (by assumption) | exact sMeta_2 (by assumption))) ?_
              try simp only [sSay_ne (show (18 : Nat) ≠ 0 by decide) (show (18 : Nat) ≠ 23 by decide), sArticle_ne (show (18 : Nat) ≠ 0 by decide) (show (18 : Nat) ≠ 23 by decide)]
              refine ex_if_ne 187 dX10_name_173 (by decide) (fun h173 => ?_) (fun h173 => ?_)
              · refine al0 dX10_name_187 (by first | nofun | exact xrv_ne _) ?_
                refine al0 dX10_name_188 (by first | nofun | exact xrv_ne _) ?_
                refine rf_59 hX rfl dX10_name_189 ?_
                refine il1 dX10_name_192 ?_
                refine rb_17 hX dX10_name_193 (hB.in14 (by first | exact sMeta_1 (by assumption) | exact sMeta_2 (by assumption))) ?_
                try simp only [sSay_ne (show (17 : Nat) ≠ 0 by decide) (show (17 : Nat) ≠ 23 by decide), sArticle_ne (show (17 : Nat) ≠ 0 by decide) (show (17 : Nat) ≠ 23 by decide)]
                refine cd10_163 (f' := f - 1) rfl dX10_name_194 (Nat.le_of_ble_eq_true rfl) (fx17 hX) (by omega) (r_sayText hX (by omega) (by (try (with_reducible apply sArticle_29)); (repeat (with_reducible apply sSay_29)); with_reducible exact hB.n29) (sName_t hB (fun q => by first | exact q.1 (by assumption) | exact q.2 (by assumption)) h151).1 (by (try simp only [sSay_ne (show (2 : Nat) ≠ 0 by decide) (show (2 : Nat) ≠ 23 by decide), sArticle_ne (show (2 : Nat) ≠ 0 by decide) (show (2 : Nat) ≠ 23 by decide)]); exact (sName_t hB (fun q => by first | exact q.1 (by assumption) | exact q.2 (by assumption)) h151).2)) ?_
                refine al0 dX10_name_197 (by first | nofun | exact xrv_ne _) ?_
                refine rf_148 hX rfl dX10_name_198 ?_
                refine ex_iret dX10_name_201 rfl ?_
                refine ⟨?_, rfl, ?_, rfl⟩ <;> simp_all [sName, sSays]
              · refine al0 dX10_name_176 (by first | nofun | exact xrv_ne _) ?_
                refine al0 dX10_name_177 (by first | nofun | exact xrv_ne _) ?_
                refine rf_59 hX rfl dX10_name_178 ?_
                refine il1 dX10_name_181 ?_
                refine rb_17 hX dX10_name_182 (hB.in14 (by first | exact sMeta_1 (by assumption) | exact sMeta_2 (by assumption))) ?_
                try simp only [sSay_ne (show (17 : Nat) ≠ 0 by decide) (show (17 : Nat) ≠ 23 by decide), sArticle_ne (show (17 : Nat) ≠ 0 by decide) (show (17 : Nat) ≠ 23 by decide)]
                refine il2 dX10_name_183 ?_
                refine cd10_160 (f' := f - 1) rfl dX10_name_184 (Nat.le_of_ble_eq_true rfl) (fx17 hX) (by omega) (r_sayArticle hX (by omega) (by (repeat (with_reducible apply sSay_29)); with_reducible exact hB.n29) (sName_t hB (fun q => by first | exact q.1 (by assumption) | exact q.2 (by assumption)) h151).1) ?_
                refine al0 dX10_name_187 (by first | nofun | exact xrv_ne _) ?_
                refine al0 dX10_name_188 (by first | nofun | exact xrv_ne _) ?_
                refine rf_59 hX rfl dX10_name_189 ?_
                refine il1 dX10_name_192 ?_
                refine rb_17 hX dX10_name_193 (hB.in14 (by first | exact sMeta_1 (by assumption) | exact sMeta_2 (by assumption))) ?_
                try simp only [sSay_ne (show (17 : Nat) ≠ 0 by decide) (show (17 : Nat) ≠ 23 by decide), sArticle_ne (show (17 : Nat) ≠ 0 by decide) (show (17 : Nat) ≠ 23 by decide)]
                refine cd10_163 (f' := f - 1) rfl dX10_name_194 (Nat.le_of_ble_eq_true rfl) (fx17 hX) (by omega) (r_sayText hX (by omega) (by (try (with_reducible apply sArticle_29)); (repeat (with_reducible apply sSay_29)); with_reducible exact hB.n29) (sName_t hB (fun q => by first | exact q.1 (by assumption) | exact q.2 (by assumption)) h151).1 (by (try simp only [sSay_ne (show (2 : Nat) ≠ 0 by decide) (show (2 : Nat) ≠ 23 by decide), sArticle_ne (show (2 : Nat) ≠ 0 by decide) (show (2 : Nat) ≠ 23 by decide)]); exact (sName_t hB (fun q => by first | exact q.1 (by assumption) | exact q.2 (by assumption)) h151).2)) ?_
                refine al0 dX10_name_197 (by first | nofun | exact xrv_ne _) ?_
                refine rf_148 hX rfl dX10_name_198 ?_
                refine ex_iret dX10_name_201 rfl ?_
                refine ⟨?_, rfl, ?_, rfl⟩ <;> simp_all [sName, sSays]
          · refine al0 dX10_name_154 (by first | nofun | exact xrv_ne _) ?_
            refine il1 dX10_name_155 ?_
            refine cd10_157 (f' := f - 1) rfl dX10_name_156 (Nat.le_of_ble_eq_true rfl) (fx17 hX) (by omega) (r_sayNumber hX (by omega) (by (repeat (with_reducible apply sSay_29)); with_reducible exact hB.n29)) ?_
            refine ex_goto 197 dX10_name_159 (by decide) ?_
            refine al0 dX10_name_197 (by first | nofun | exact xrv_ne _) ?_
            refine rf_148 hX rfl dX10_name_198 ?_
            refine ex_iret dX10_name_201 rfl ?_
            refine ⟨?_, rfl, ?_, rfl⟩ <;> simp_all [sName, sSays]
        · refine al0 dX10_name_109 (by first | nofun | exact xrv_ne _) ?_
          refine ex_bipush (v := 99) dX10_name_110 (by decide) ?_
          refine cd10_151 (f' := f - 1) rfl dX10_name_112 (Nat.le_of_ble_eq_true rfl) (fx17 hX) (by omega) (r_say hX (by (repeat (with_reducible apply sSay_29)); with_reducible exact hB.n29)) ?_
          refine al0 dX10_name_115 (by first | nofun | exact xrv_ne _) ?_
          refine ex_bipush (v := 108) dX10_name_116 (by decide) ?_
          refine cd10_151 (f' := f - 1) rfl dX10_name_118 (Nat.le_of_ble_eq_true rfl) (fx17 hX) (by omega) (r_say hX (by (repeat (with_reducible apply sSay_29)); with_reducible exact hB.n29)) ?_
          refine al0 dX10_name_121 (by first | nofun | exact xrv_ne _) ?_
          refine ex_bipush (v := 97) dX10_name_122 (by decide) ?_
          refine cd10_151 (f' := f - 1) rfl dX10_name_124 (Nat.le_of_ble_eq_true rfl) (fx17 hX) (by omega) (r_say hX (by (repeat (with_reducible apply sSay_29)); with_reducible exact hB.n29)) ?_
          refine al0 dX10_name_127 (by first | nofun | exact xrv_ne _) ?_
          refine ex_bipush (v := 115) dX10_name_128 (by decide) ?_
          refine cd10_151 (f' := f - 1) rfl dX10_name_130 (Nat.le_of_ble_eq_true rfl) (fx17 hX) (by omega) (r_say hX (by (repeat (with_reducible apply sSay_29)); with_reducible exact hB.n29)) ?_
          refine al0 dX10_name_133 (by first | nofun | exact xrv_ne _) ?_
          refine ex_bipush (v := 115) dX10_name_134 (by decide) ?_
          refine cd10_151 (f' := f - 1) rfl dX10_name_136 (Nat.le_of_ble_eq_true rfl) (fx17 hX) (by omega) (r_say hX (by (repeat (with_reducible apply sSay_29)); with_reducible exact hB.n29)) ?_
          refine al0 dX10_name_139 (by first | nofun | exact xrv_ne _) ?_
          refine ex_bipush (v := 32) dX10_name_140 (by decide) ?_
          refine cd10_151 (f' := f - 1) rfl dX10_name_142 (Nat.le_of_ble_eq_true rfl) (fx17 hX) (by omega) (r_say hX (by (repeat (with_reducible apply sSay_29)); with_reducible exact hB.n29)) ?_
          refine al0 dX10_name_145 (by first | nofun | exact xrv_ne _) ?_
          refine rf_59 hX rfl dX10_name_146 ?_
          refine il1 dX10_name_149 ?_
          refine rb_17 hX dX10_name_150 (hB.in14 (by first | exact sMeta_1 (by assumption) | exact sMeta_2 (by assumption))) ?_
          try simp only [sSay_ne (show (17 : Nat) ≠ 0 by decide) (show (17 : Nat) ≠ 23 by decide), sArticle_ne (show (17 : Nat) ≠ 0 by decide) (show (17 : Nat) ≠ 23 by decide)]
          refine ex_if_ne 162 dX10_name_151 (by decide) (fun h151 => ?_) (fun h151 => ?_)
          · refine il3 dX10_name_162 ?_
            refine ex_iconst (v := 2) dX10_name_163 (by decide) ?_
            refine ex_icmp_ne 187 dX10_name_164 (by decide) (fun h164 => ?_) (fun h164 => ?_)
            · refine al0 dX10_name_187 (by first | nofun | exact xrv_ne _) ?_
              refine al0 dX10_name_188 (by first | nofun | exact xrv_ne _) ?_
              refine rf_59 hX rfl dX10_name_189 ?_
              refine il1 dX10_name_192 ?_
              refine rb_17 hX dX10_name_193 (hB.in14 (by first | exact sMeta_1 (by assumption) | exact sMeta_2 (by assumption))) ?_
              try simp only [sSay_ne (show (17 : Nat) ≠ 0 by decide) (show (17 : Nat) ≠ 23 by decide), sArticle_ne (show (17 : Nat) ≠ 0 by decide) (show (17 : Nat) ≠ 23 by decide)]
              refine cd10_163 (f' := f - 1) rfl dX10_name_194 (Nat.le_of_ble_eq_true rfl) (fx17 hX) (by omega) (r_sayText hX (by omega) (by (try (with_reducible apply sArticle_29)); (repeat (with_reducible apply sSay_29)); with_reducible exact hB.n29) (sName_t hB (fun q => by first | exact q.1 (by assumption) | exact q.2 (by assumption)) h151).1 (by (try simp only [sSay_ne (show (2 : Nat) ≠ 0 by decide) (show (2 : Nat) ≠ 23 by decide), sArticle_ne (show (2 : Nat) ≠ 0 by decide) (show (2 : Nat) ≠ 23 by decide)]); exact (sName_t hB (fun q => by first | exact q.1 (by assumption) | exact q.2 (by assumption)) h151).2)) ?_
              refine al0 dX10_name_197 (by first | nofun | exact xrv_ne _) ?_
              refine rf_148 hX rfl dX10_name_198 ?_
              refine ex_iret dX10_name_201 rfl ?_
              refine ⟨?_, rfl, ?_, rfl⟩ <;> simp_all [sName, sSays]
            · refine al0 dX10_name_167 (by first | nofun | exact xrv_ne _) ?_
              refine rf_62 hX rfl dX10_name_168 ?_
              refine il1 dX10_name_171 ?_
              refine rb_18 hX dX10_name_172 (hB.in14 (by first | exact sMeta_1 (by assumption) | exact sMeta_2 (by assumption))) ?_
              try simp only [sSay_ne (show (18 : Nat) ≠ 0 by decide) (show (18 : Nat) ≠ 23 by decide), sArticle_ne (show (18 : Nat) ≠ 0 by decide) (show (18 : Nat) ≠ 23 by decide)]
              refine ex_if_ne 187 dX10_name_173 (by decide) (fun h173 => ?_) (fun h173 => ?_)
              · refine al0 dX10_name_187 (by first | nofun | exact xrv_ne _) ?_
                refine al0 dX10_name_188 (by first | nofun | exact xrv_ne _) ?_
                refine rf_59 hX rfl dX10_name_189 ?_
                refine il1 dX10_name_192 ?_
                refine rb_17 hX dX10_name_193 (hB.in14 (by first | exact sMeta_1 (by assumption) | exact sMeta_2 (by assumption))) ?_
                try simp only [sSay_ne (show (17 : Nat) ≠ 0 by decide) (show (17 : Nat) ≠ 23 by decide), sArticle_ne (show (17 : Nat) ≠ 0 by decide) (show (17 : Nat) ≠ 23 by decide)]
                refine cd10_163 (f' := f - 1) rfl dX10_name_194 (Nat.le_of_ble_eq_true rfl) (fx17 hX) (by omega) (r_sayText hX (by omega) (by (try (with_reducible apply sArticle_29)); (repeat (with_reducible apply sSay_29)); with_reducible exact hB.n29) (sName_t hB (fun q => by first | exact q.1 (by assumption) | exact q.2 (by assumption)) h151).1 (by (try simp only [sSay_ne (show (2 : Nat) ≠ 0 by decide) (show (2 : Nat) ≠ 23 by decide), sArticle_ne (show (2 : Nat) ≠ 0 by decide) (show (2 : Nat) ≠ 23 by decide)]); exact (sName_t hB (fun q => by first | exact q.1 (by assumption) | exact q.2 (by assumption)) h151).2)) ?_
                refine al0 dX10_name_197 (by first | nofun | exact xrv_ne _) ?_
                refine rf_148 hX rfl dX10_name_198 ?_
                refine ex_iret dX10_name_201 rfl ?_
                refine ⟨?_, rfl, ?_, rfl⟩ <;> simp_all [sName, sSays]
              · refine al0 dX10_name_176 (by first | nofun | exact xrv_ne _) ?_
                refine al0 dX10_name_177 (by first | nofun | exact xrv_ne _) ?_
                refine rf_59 hX rfl dX10_name_178 ?_
                refine il1 dX10_name_181 ?_
                refine rb_17 hX dX10_name_182 (hB.in14 (by first | exact sMeta_1 (by assumption) | exact sMeta_2 (by assumption))) ?_
                try simp only [sSay_ne (show (17 : Nat) ≠ 0 by decide) (show (17 : Nat) ≠ 23 by decide), sArticle_ne (show (17 : Nat) ≠ 0 by decide) (show (17 : Nat) ≠ 23 by decide)]
                refine il2 dX10_name_183 ?_
                refine cd10_160 (f' := f - 1) rfl dX10_name_184 (Nat.le_of_ble_eq_true rfl) (fx17 hX) (by omega) (r_sayArticle hX (by omega) (by (repeat (with_reducible apply sSay_29)); with_reducible exact hB.n29) (sName_t hB (fun q => by first | exact q.1 (by assumption) | exact q.2 (by assumption)) h151).1) ?_
                refine al0 dX10_name_187 (by first | nofun | exact xrv_ne _) ?_
                refine al0 dX10_name_188 (by first | nofun | exact xrv_ne _) ?_
                refine rf_59 hX rfl dX10_name_189 ?_
                refine il1 dX10_name_192 ?_
                refine rb_17 hX dX10_name_193 (hB.in14 (by first | exact sMeta_1 (by assumption) | exact sMeta_2 (by assumption))) ?_
                try simp only [sSay_ne (show (17 : Nat) ≠ 0 by decide) (show (17 : Nat) ≠ 23 by decide), sArticle_ne (show (17 : Nat) ≠ 0 by decide) (show (17 : Nat) ≠ 23 by decide)]
                refine cd10_163 (f' := f - 1) rfl dX10_name_194 (Nat.le_of_ble_eq_true rfl) (fx17 hX) (by omega) (r_sayText hX (by omega) (by (try (with_reducible apply sArticle_29)); (repeat (with_reducible apply sSay_29)); with_reducible exact hB.n29) (sName_t hB (fun q => by first | exact q.1 (by assumption) | exact q.2 (by assumption)) h151).1 (by (try simp only [sSay_ne (show (2 : Nat) ≠ 0 by decide) (show (2 : Nat) ≠ 23 by decide), sArticle_ne (show (2 : Nat) ≠ 0 by decide) (show (2 : Nat) ≠ 23 by decide)]); exact (sName_t hB (fun q => by first | exact q.1 (by assumption) | exact q.2 (by assumption)) h151).2)) ?_
                refine al0 dX10_name_197 (by first | nofun | exact xrv_ne _) ?_
                refine rf_148 hX rfl dX10_name_198 ?_
                refine ex_iret dX10_name_201 rfl ?_
                refine ⟨?_, rfl, ?_, rfl⟩ <;> simp_all [sName, sSays]
          · refine al0 dX10_name_154 (by first | nofun | exact xrv_ne _) ?_
            refine il1 dX10_name_155 ?_
            refine cd10_157 (f' := f - 1) rfl dX10_name_156 (Nat.le_of_ble_eq_true rfl) (fx17 hX) (by omega) (r_sayNumber hX (by omega) (by (repeat (with_reducible apply sSay_29)); with_reducible exact hB.n29)) ?_
            refine ex_goto 197 dX10_name_159 (by decide) ?_
            refine al0 dX10_name_197 (by first | nofun | exact xrv_ne _) ?_
            refine rf_148 hX rfl dX10_name_198 ?_
            refine ex_iret dX10_name_201 rfl ?_
            refine ⟨?_, rfl, ?_, rfl⟩ <;> simp_all [sName, sSays]
      · refine al0 dX10_name_65 (by first | nofun | exact xrv_ne _) ?_
        refine ex_bipush (v := 40) dX10_name_66 (by decide) ?_
        refine cd10_151 (f' := f - 1) rfl dX10_name_68 (Nat.le_of_ble_eq_true rfl) (fx17 hX) (by omega) (r_say hX (by (repeat (with_reducible apply sSay_29)); with_reducible exact hB.n29)) ?_
        refine al0 dX10_name_71 (by first | nofun | exact xrv_ne _) ?_
        refine ex_bipush (v := 110) dX10_name_72 (by decide) ?_
        refine cd10_151 (f' := f - 1) rfl dX10_name_74 (Nat.le_of_ble_eq_true rfl) (fx17 hX) (by omega) (r_say hX (by (repeat (with_reducible apply sSay_29)); with_reducible exact hB.n29)) ?_
        refine al0 dX10_name_77 (by first | nofun | exact xrv_ne _) ?_
        refine ex_bipush (v := 111) dX10_name_78 (by decide) ?_
        refine cd10_151 (f' := f - 1) rfl dX10_name_80 (Nat.le_of_ble_eq_true rfl) (fx17 hX) (by omega) (r_say hX (by (repeat (with_reducible apply sSay_29)); with_reducible exact hB.n29)) ?_
        refine al0 dX10_name_83 (by first | nofun | exact xrv_ne _) ?_
        refine ex_bipush (v := 110) dX10_name_84 (by decide) ?_
        refine cd10_151 (f' := f - 1) rfl dX10_name_86 (Nat.le_of_ble_eq_true rfl) (fx17 hX) (by omega) (r_say hX (by (repeat (with_reducible apply sSay_29)); with_reducible exact hB.n29)) ?_
        refine al0 dX10_name_89 (by first | nofun | exact xrv_ne _) ?_
        refine ex_bipush (v := 101) dX10_name_90 (by decide) ?_
        refine cd10_151 (f' := f - 1) rfl dX10_name_92 (Nat.le_of_ble_eq_true rfl) (fx17 hX) (by omega) (r_say hX (by (repeat (with_reducible apply sSay_29)); with_reducible exact hB.n29)) ?_
        refine al0 dX10_name_95 (by first | nofun | exact xrv_ne _) ?_
        refine ex_bipush (v := 41) dX10_name_96 (by decide) ?_
        refine cd10_151 (f' := f - 1) rfl dX10_name_98 (Nat.le_of_ble_eq_true rfl) (fx17 hX) (by omega) (r_say hX (by (repeat (with_reducible apply sSay_29)); with_reducible exact hB.n29)) ?_
        refine ex_goto 197 dX10_name_101 (by decide) ?_
        refine al0 dX10_name_197 (by first | nofun | exact xrv_ne _) ?_
        refine rf_148 hX rfl dX10_name_198 ?_
        refine ex_iret dX10_name_201 rfl ?_
        refine ⟨?_, rfl, ?_, rfl⟩ <;> simp_all [sName, sSays]
  · refine al0 dX10_name_10 (by first | nofun | exact xrv_ne _) ?_
    refine ex_bipush (v := 110) dX10_name_11 (by decide) ?_
    refine cd10_151 (f' := f - 1) rfl dX10_name_13 (Nat.le_of_ble_eq_true rfl) (fx17 hX) (by omega) (r_say hX (by (repeat (with_reducible apply sSay_29)); with_reducible exact hB.n29)) ?_
    refine al0 dX10_name_16 (by first | nofun | exact xrv_ne _) ?_
    refine ex_bipush (v := 111) dX10_name_17 (by decide) ?_
    refine cd10_151 (f' := f - 1) rfl dX10_name_19 (Nat.le_of_ble_eq_true rfl) (fx17 hX) (by omega) (r_say hX (by (repeat (with_reducible apply sSay_29)); with_reducible exact hB.n29)) ?_
    refine al0 dX10_name_22 (by first | nofun | exact xrv_ne _) ?_
    refine ex_bipush (v := 116) dX10_name_23 (by decide) ?_
    refine cd10_151 (f' := f - 1) rfl dX10_name_25 (Nat.le_of_ble_eq_true rfl) (fx17 hX) (by omega) (r_say hX (by (repeat (with_reducible apply sSay_29)); with_reducible exact hB.n29)) ?_
    refine al0 dX10_name_28 (by first | nofun | exact xrv_ne _) ?_
    refine ex_bipush (v := 104) dX10_name_29 (by decide) ?_
    refine cd10_151 (f' := f - 1) rfl dX10_name_31 (Nat.le_of_ble_eq_true rfl) (fx17 hX) (by omega) (r_say hX (by (repeat (with_reducible apply sSay_29)); with_reducible exact hB.n29)) ?_
    refine al0 dX10_name_34 (by first | nofun | exact xrv_ne _) ?_
    refine ex_bipush (v := 105) dX10_name_35 (by decide) ?_
    refine cd10_151 (f' := f - 1) rfl dX10_name_37 (Nat.le_of_ble_eq_true rfl) (fx17 hX) (by omega) (r_say hX (by (repeat (with_reducible apply sSay_29)); with_reducible exact hB.n29)) ?_
    refine al0 dX10_name_40 (by first | nofun | exact xrv_ne _) ?_
    refine ex_bipush (v := 110) dX10_name_41 (by decide) ?_
    refine cd10_151 (f' := f - 1) rfl dX10_name_43 (Nat.le_of_ble_eq_true rfl) (fx17 hX) (by omega) (r_say hX (by (repeat (with_reducible apply sSay_29)); with_reducible exact hB.n29)) ?_
    refine al0 dX10_name_46 (by first | nofun | exact xrv_ne _) ?_
    refine ex_bipush (v := 103) dX10_name_47 (by decide) ?_
    refine cd10_151 (f' := f - 1) rfl dX10_name_49 (Nat.le_of_ble_eq_true rfl) (fx17 hX) (by omega) (r_say hX (by (repeat (with_reducible apply sSay_29)); with_reducible exact hB.n29)) ?_
    refine ex_goto 197 dX10_name_52 (by decide) ?_
    refine al0 dX10_name_197 (by first | nofun | exact xrv_ne _) ?_
    refine rf_148 hX rfl dX10_name_198 ?_
    refine ex_iret dX10_name_201 rfl ?_
    refine ⟨?_, rfl, ?_, rfl⟩ <;> simp_all [sName, sSays]
