/-! the reference: clashes, and what is only read -/
theorem R_m_clashOf (l : lt_L) (d : Nat) (σ : lt_S) (i t j o : Nat) (hi : Ln (σ 77) i) (ht : t < 4) (hj : Ln (σ 77) j) (ho : o < 4) : lt_T l (d + 3) mX8_clashOf lt_SA σ [.ref 76, .int (nI i), .int (nI t), .int (nI j), .int (nI o)] (some (nI (pf_kind (σ 77) i t j o))) σ := by
  refine lt_T.of [some (.ref 76), some (.int (nI i)), some (.int (nI t)), some (.int (nI j)), some (.int (nI o)), none, none, none, none, none, none, none] rfl rfl (Nat.le_of_ble_eq_true rfl) ?_
  generalize hr : some (nI (pf_kind (σ 77) i t j o)) = r
  have hi7 := hi.1
  have hj7 := hj.1
  have key : ¬ (t = o ∧ pf_mates (σ 77) i j = true) → lt_g l (d + 3) mX8_clashOf lt_SA σ 18 [some (.ref 76), some (.int (nI i)), some (.int (nI t)), some (.int (nI j)), some (.int (nI o)), none, none, none, none, none, none, none] [] r σ := by
    intro hm
    have J4 : ∀ (x : Int32) (b : Bool), x = bI b → b = pf_sw (σ 77) i t j o → lt_g l (d + 3) mX8_clashOf lt_SA σ 270 [some (.ref 76), some (.int (nI i)), some (.int (nI t)), some (.int (nI j)), some (.int (nI o)), some (.int (pf_gap (σ 77))), some (.int (bI (pf_apart (σ 77) i j))), some (.int (σ 77 (16 + 7 * i + 2) - nI 1)), some (.int (σ 77 (16 + 7 * i + 3))), some (.int (σ 77 (16 + 7 * j + 2) - nI 1)), some (.int (σ 77 (16 + 7 * j + 3))), some (.int x)] [] r σ := by
      intro x b hx hb
      subst hx
      rw [← hr]
      refine g_il2 (pc2 := 271) dX8_clashOf_270 rfl ?_
      refine g_il4 (pc2 := 273) dX8_clashOf_271 rfl ?_
      refine g_icmpN_ne 285 276 dX8_clashOf_273 rfl rfl (by omega) (by omega) (fun h273 => ?_) (fun h273 => ?_)
      · refine g_iconst (pc2 := 286) dX8_clashOf_285 k_iconst_0 rfl ?_
        refine g_il11 (pc2 := 288) dX8_clashOf_286 rfl ?_
        refine g_if_eqB 295 291 dX8_clashOf_288 rfl rfl (fun h288 => ?_) (fun h288 => ?_)
        · refine g_iconst (pc2 := 296) dX8_clashOf_295 k_iconst_0 rfl ?_
          refine g_iaddN (pc2 := 297) dX8_clashOf_296 rfl ?_
          exact g_iretT dX8_clashOf_297 rfl (Nat.le_refl _) (Nat.le_refl _) (by simp only [pf_kind, if_neg hm, ← hb, h288]; clear hb; simp [*]) (rfl)
        · refine g_iconst (pc2 := 292) dX8_clashOf_291 k_iconst_2 rfl ?_
          refine g_goto 296 dX8_clashOf_292 rfl ?_
          refine g_iaddN (pc2 := 297) dX8_clashOf_296 rfl ?_
          exact g_iretT dX8_clashOf_297 rfl (Nat.le_refl _) (Nat.le_refl _) (by simp only [pf_kind, if_neg hm, ← hb, h288]; clear hb; simp [*]) (rfl)
      · refine g_il6 (pc2 := 278) dX8_clashOf_276 rfl ?_
        refine g_if_neB 285 281 dX8_clashOf_278 rfl rfl (fun h278 => ?_) (fun h278 => ?_)
        · refine g_iconst (pc2 := 286) dX8_clashOf_285 k_iconst_0 rfl ?_
          refine g_il11 (pc2 := 288) dX8_clashOf_286 rfl ?_
          refine g_if_eqB 295 291 dX8_clashOf_288 rfl rfl (fun h288 => ?_) (fun h288 => ?_)
          · refine g_iconst (pc2 := 296) dX8_clashOf_295 k_iconst_0 rfl ?_
            refine g_iaddN (pc2 := 297) dX8_clashOf_296 rfl ?_
            exact g_iretT dX8_clashOf_297 rfl (Nat.le_refl _) (Nat.le_refl _) (by simp only [pf_kind, if_neg hm, ← hb, h288]; clear hb; simp [*]) (rfl)
          · refine g_iconst (pc2 := 292) dX8_clashOf_291 k_iconst_2 rfl ?_
            refine g_goto 296 dX8_clashOf_292 rfl ?_
            refine g_iaddN (pc2 := 297) dX8_clashOf_296 rfl ?_
            exact g_iretT dX8_clashOf_297 rfl (Nat.le_refl _) (Nat.le_refl _) (by simp only [pf_kind, if_neg hm, ← hb, h288]; clear hb; simp [*]) (rfl)
        · refine g_iconst (pc2 := 282) dX8_clashOf_281 k_iconst_1 rfl ?_
          refine g_goto 286 dX8_clashOf_282 rfl ?_
          refine g_il11 (pc2 := 288) dX8_clashOf_286 rfl ?_
          refine g_if_eqB 295 291 dX8_clashOf_288 rfl rfl (fun h288 => ?_) (fun h288 => ?_)
          · refine g_iconst (pc2 := 296) dX8_clashOf_295 k_iconst_0 rfl ?_
            refine g_iaddN (pc2 := 297) dX8_clashOf_296 rfl ?_
            exact g_iretT dX8_clashOf_297 rfl (Nat.le_refl _) (Nat.le_refl _) (by simp only [pf_kind, if_neg hm, ← hb, h288]; clear hb; simp [*]) (rfl)
          · refine g_iconst (pc2 := 292) dX8_clashOf_291 k_iconst_2 rfl ?_
            refine g_goto 296 dX8_clashOf_292 rfl ?_
            refine g_iaddN (pc2 := 297) dX8_clashOf_296 rfl ?_
            exact g_iretT dX8_clashOf_297 rfl (Nat.le_refl _) (Nat.le_refl _) (by simp only [pf_kind, if_neg hm, ← hb, h288]; clear hb; simp [*]) (rfl)
    have J3 : ∀ (x : Int32) (b : Bool), x = bI b → (b || (pf_meet (σ 77 (16 + 7 * i + 3)) (σ 77 (16 + 7 * j + 3)) && !decide (pf_out (σ 77) i t &&& pf_out (σ 77) j o = 0))) = pf_sw (σ 77) i t j o → lt_g l (d + 3) mX8_clashOf lt_SA σ 231 [some (.ref 76), some (.int (nI i)), some (.int (nI t)), some (.int (nI j)), some (.int (nI o)), some (.int (pf_gap (σ 77))), some (.int (bI (pf_apart (σ 77) i j))), some (.int (σ 77 (16 + 7 * i + 2) - nI 1)), some (.int (σ 77 (16 + 7 * i + 3))), some (.int (σ 77 (16 + 7 * j + 2) - nI 1)), some (.int (σ 77 (16 + 7 * j + 3))), some (.int x)] [] r σ := by
      intro x b hx hb
      subst hx
      refine g_il11 (pc2 := 233) dX8_clashOf_231 rfl ?_
      refine g_if_neB 263 236 dX8_clashOf_233 rfl rfl (fun h233 => ?_) (fun h233 => ?_)
      · refine g_iconst (pc2 := 264) dX8_clashOf_263 k_iconst_1 rfl ?_
        refine g_goto 268 dX8_clashOf_264 rfl ?_
        refine g_is11 (pc2 := 270) dX8_clashOf_268 (by decide) rfl ?_
        exact J4 _ true bI_t.symm (by rw [← hb]; simp [*])
      · refine g_il8 (pc2 := 238) dX8_clashOf_236 rfl ?_
        refine g_il10 (pc2 := 240) dX8_clashOf_238 rfl ?_
        refine g_cSi (pc2 := 243) (R_m_meet l (d + 1) _ _ _ _) meX8_meet mlX8_119 rfl rfl (by simp) ⟨Nat.le_refl _, Nat.le_refl _⟩ dX8_clashOf_240 rfl ?_
        refine g_if_eqB 267 246 dX8_clashOf_243 rfl rfl (fun h243 => ?_) (fun h243 => ?_)
        · refine g_iconst (pc2 := 268) dX8_clashOf_267 k_iconst_0 rfl ?_
          refine g_is11 (pc2 := 270) dX8_clashOf_268 (by decide) rfl ?_
          exact J4 _ false bI_f.symm (by rw [← hb]; simp [*])
        · refine g_al0 (pc2 := 247) dX8_clashOf_246 rfl ?_
          refine g_il1 (pc2 := 248) dX8_clashOf_247 rfl ?_
          refine g_il2 (pc2 := 249) dX8_clashOf_248 rfl ?_
          refine g_cVi (pc2 := 252) (R_m_out' l d _ _ _ (by assumption) (by assumption)) meX8_wayOut mlX8_116 (by rfl) ⟨_, rfl, rfl⟩ rfl rfl (by simp) ⟨Nat.le_refl _, Nat.le_refl _⟩ dX8_clashOf_249 rfl ?_
          refine g_al0 (pc2 := 253) dX8_clashOf_252 rfl ?_
          refine g_il3 (pc2 := 254) dX8_clashOf_253 rfl ?_
          refine g_il4 (pc2 := 256) dX8_clashOf_254 rfl ?_
          refine g_cVi (pc2 := 259) (R_m_out' l d _ _ _ (by assumption) (by assumption)) meX8_wayOut mlX8_116 (by rfl) ⟨_, rfl, rfl⟩ rfl rfl (by simp) ⟨Nat.le_refl _, Nat.le_refl _⟩ dX8_clashOf_256 rfl ?_
          refine g_iand (pc2 := 260) dX8_clashOf_259 rfl ?_
          refine g_if_eq 267 263 dX8_clashOf_260 rfl rfl (fun h260 => ?_) (fun h260 => ?_)
          · refine g_iconst (pc2 := 268) dX8_clashOf_267 k_iconst_0 rfl ?_
            refine g_is11 (pc2 := 270) dX8_clashOf_268 (by decide) rfl ?_
            exact J4 _ false bI_f.symm (by rw [← hb]; simp [*])
          · refine g_iconst (pc2 := 264) dX8_clashOf_263 k_iconst_1 rfl ?_
            refine g_goto 268 dX8_clashOf_264 rfl ?_
            refine g_is11 (pc2 := 270) dX8_clashOf_268 (by decide) rfl ?_
            exact J4 _ true bI_t.symm (by rw [← hb]; simp [*])
    have J2 : ∀ (x : Int32) (b : Bool), x = bI b → ((b || (pf_meet (σ 77 (16 + 7 * i + 3)) (σ 77 (16 + 7 * j + 2) - nI 1) && !decide (pf_out (σ 77) i t &&& pf_in (σ 77) j o = 0))) || (pf_meet (σ 77 (16 + 7 * i + 3)) (σ 77 (16 + 7 * j + 3)) && !decide (pf_out (σ 77) i t &&& pf_out (σ 77) j o = 0))) = pf_sw (σ 77) i t j o → lt_g l (d + 3) mX8_clashOf lt_SA σ 192 [some (.ref 76), some (.int (nI i)), some (.int (nI t)), some (.int (nI j)), some (.int (nI o)), some (.int (pf_gap (σ 77))), some (.int (bI (pf_apart (σ 77) i j))), some (.int (σ 77 (16 + 7 * i + 2) - nI 1)), some (.int (σ 77 (16 + 7 * i + 3))), some (.int (σ 77 (16 + 7 * j + 2) - nI 1)), some (.int (σ 77 (16 + 7 * j + 3))), some (.int x)] [] r σ := by
      intro x b hx hb
      subst hx
      refine g_il11 (pc2 := 194) dX8_clashOf_192 rfl ?_
      refine g_if_neB 224 197 dX8_clashOf_194 rfl rfl (fun h194 => ?_) (fun h194 => ?_)
      · refine g_iconst (pc2 := 225) dX8_clashOf_224 k_iconst_1 rfl ?_
        refine g_goto 229 dX8_clashOf_225 rfl ?_
        refine g_is11 (pc2 := 231) dX8_clashOf_229 (by decide) rfl ?_
        exact J3 _ true bI_t.symm (by rw [← hb]; simp [*])
      · refine g_il8 (pc2 := 199) dX8_clashOf_197 rfl ?_
        refine g_il9 (pc2 := 201) dX8_clashOf_199 rfl ?_
        refine g_cSi (pc2 := 204) (R_m_meet l (d + 1) _ _ _ _) meX8_meet mlX8_119 rfl rfl (by simp) ⟨Nat.le_refl _, Nat.le_refl _⟩ dX8_clashOf_201 rfl ?_
        refine g_if_eqB 228 207 dX8_clashOf_204 rfl rfl (fun h204 => ?_) (fun h204 => ?_)
        · refine g_iconst (pc2 := 229) dX8_clashOf_228 k_iconst_0 rfl ?_
          refine g_is11 (pc2 := 231) dX8_clashOf_229 (by decide) rfl ?_
          exact J3 _ false bI_f.symm (by rw [← hb]; simp [*])
        · refine g_al0 (pc2 := 208) dX8_clashOf_207 rfl ?_
          refine g_il1 (pc2 := 209) dX8_clashOf_208 rfl ?_
          refine g_il2 (pc2 := 210) dX8_clashOf_209 rfl ?_
          refine g_cVi (pc2 := 213) (R_m_out' l d _ _ _ (by assumption) (by assumption)) meX8_wayOut mlX8_116 (by rfl) ⟨_, rfl, rfl⟩ rfl rfl (by simp) ⟨Nat.le_refl _, Nat.le_refl _⟩ dX8_clashOf_210 rfl ?_
          refine g_al0 (pc2 := 214) dX8_clashOf_213 rfl ?_
          refine g_il3 (pc2 := 215) dX8_clashOf_214 rfl ?_
          refine g_il4 (pc2 := 217) dX8_clashOf_215 rfl ?_
          refine g_cVi (pc2 := 220) (R_m_in' l d _ _ _ (by assumption) (by assumption)) meX8_wayIn mlX8_113 (by rfl) ⟨_, rfl, rfl⟩ rfl rfl (by simp) ⟨Nat.le_refl _, Nat.le_refl _⟩ dX8_clashOf_217 rfl ?_
          refine g_iand (pc2 := 221) dX8_clashOf_220 rfl ?_
          refine g_if_eq 228 224 dX8_clashOf_221 rfl rfl (fun h221 => ?_) (fun h221 => ?_)
          · refine g_iconst (pc2 := 229) dX8_clashOf_228 k_iconst_0 rfl ?_
            refine g_is11 (pc2 := 231) dX8_clashOf_229 (by decide) rfl ?_
            exact J3 _ false bI_f.symm (by rw [← hb]; simp [*])
          · refine g_iconst (pc2 := 225) dX8_clashOf_224 k_iconst_1 rfl ?_
            refine g_goto 229 dX8_clashOf_225 rfl ?_
            refine g_is11 (pc2 := 231) dX8_clashOf_229 (by decide) rfl ?_
            exact J3 _ true bI_t.symm (by rw [← hb]; simp [*])
    have J1 : ∀ (x : Int32) (b : Bool), x = bI b → (((b || (pf_meet (σ 77 (16 + 7 * i + 2) - nI 1) (σ 77 (16 + 7 * j + 3)) && !decide (pf_in (σ 77) i t &&& pf_out (σ 77) j o = 0))) || (pf_meet (σ 77 (16 + 7 * i + 3)) (σ 77 (16 + 7 * j + 2) - nI 1) && !decide (pf_out (σ 77) i t &&& pf_in (σ 77) j o = 0))) || (pf_meet (σ 77 (16 + 7 * i + 3)) (σ 77 (16 + 7 * j + 3)) && !decide (pf_out (σ 77) i t &&& pf_out (σ 77) j o = 0))) = pf_sw (σ 77) i t j o → lt_g l (d + 3) mX8_clashOf lt_SA σ 153 [some (.ref 76), some (.int (nI i)), some (.int (nI t)), some (.int (nI j)), some (.int (nI o)), some (.int (pf_gap (σ 77))), some (.int (bI (pf_apart (σ 77) i j))), some (.int (σ 77 (16 + 7 * i + 2) - nI 1)), some (.int (σ 77 (16 + 7 * i + 3))), some (.int (σ 77 (16 + 7 * j + 2) - nI 1)), some (.int (σ 77 (16 + 7 * j + 3))), some (.int x)] [] r σ := by
      intro x b hx hb
      subst hx
      refine g_il11 (pc2 := 155) dX8_clashOf_153 rfl ?_
      refine g_if_neB 185 158 dX8_clashOf_155 rfl rfl (fun h155 => ?_) (fun h155 => ?_)
      · refine g_iconst (pc2 := 186) dX8_clashOf_185 k_iconst_1 rfl ?_
        refine g_goto 190 dX8_clashOf_186 rfl ?_
        refine g_is11 (pc2 := 192) dX8_clashOf_190 (by decide) rfl ?_
        exact J2 _ true bI_t.symm (by rw [← hb]; simp [*])
      · refine g_il7 (pc2 := 160) dX8_clashOf_158 rfl ?_
        refine g_il10 (pc2 := 162) dX8_clashOf_160 rfl ?_
        refine g_cSi (pc2 := 165) (R_m_meet l (d + 1) _ _ _ _) meX8_meet mlX8_119 rfl rfl (by simp) ⟨Nat.le_refl _, Nat.le_refl _⟩ dX8_clashOf_162 rfl ?_
        refine g_if_eqB 189 168 dX8_clashOf_165 rfl rfl (fun h165 => ?_) (fun h165 => ?_)
        · refine g_iconst (pc2 := 190) dX8_clashOf_189 k_iconst_0 rfl ?_
          refine g_is11 (pc2 := 192) dX8_clashOf_190 (by decide) rfl ?_
          exact J2 _ false bI_f.symm (by rw [← hb]; simp [*])
        · refine g_al0 (pc2 := 169) dX8_clashOf_168 rfl ?_
          refine g_il1 (pc2 := 170) dX8_clashOf_169 rfl ?_
          refine g_il2 (pc2 := 171) dX8_clashOf_170 rfl ?_
          refine g_cVi (pc2 := 174) (R_m_in' l d _ _ _ (by assumption) (by assumption)) meX8_wayIn mlX8_113 (by rfl) ⟨_, rfl, rfl⟩ rfl rfl (by simp) ⟨Nat.le_refl _, Nat.le_refl _⟩ dX8_clashOf_171 rfl ?_
          refine g_al0 (pc2 := 175) dX8_clashOf_174 rfl ?_
          refine g_il3 (pc2 := 176) dX8_clashOf_175 rfl ?_
          refine g_il4 (pc2 := 178) dX8_clashOf_176 rfl ?_
          refine g_cVi (pc2 := 181) (R_m_out' l d _ _ _ (by assumption) (by assumption)) meX8_wayOut mlX8_116 (by rfl) ⟨_, rfl, rfl⟩ rfl rfl (by simp) ⟨Nat.le_refl _, Nat.le_refl _⟩ dX8_clashOf_178 rfl ?_
          refine g_iand (pc2 := 182) dX8_clashOf_181 rfl ?_
          refine g_if_eq 189 185 dX8_clashOf_182 rfl rfl (fun h182 => ?_) (fun h182 => ?_)
          · refine g_iconst (pc2 := 190) dX8_clashOf_189 k_iconst_0 rfl ?_
            refine g_is11 (pc2 := 192) dX8_clashOf_190 (by decide) rfl ?_
            exact J2 _ false bI_f.symm (by rw [← hb]; simp [*])
          · refine g_iconst (pc2 := 186) dX8_clashOf_185 k_iconst_1 rfl ?_
            refine g_goto 190 dX8_clashOf_186 rfl ?_
            refine g_is11 (pc2 := 192) dX8_clashOf_190 (by decide) rfl ?_
            exact J2 _ true bI_t.symm (by rw [← hb]; simp [*])
    have J0 : ∀ (x : Int32) (b : Bool), x = bI b → b = pf_apart (σ 77) i j → lt_g l (d + 3) mX8_clashOf lt_SA σ 83 [some (.ref 76), some (.int (nI i)), some (.int (nI t)), some (.int (nI j)), some (.int (nI o)), some (.int (pf_gap (σ 77))), some (.int x), none, none, none, none, none] [] r σ := by
      intro x b hx hb
      subst hb
      subst hx
      refine g_al0 (pc2 := 84) dX8_clashOf_83 rfl ?_
      refine g_il1 (pc2 := 85) dX8_clashOf_84 rfl ?_
      refine g_iconst (pc2 := 86) dX8_clashOf_85 k_iconst_2 rfl ?_
      refine g_cVi (pc2 := 89) (R_m_of l (d + 1) _ _ _ (by assumption) (by decide)) meX8_of mlX8_110 (by rfl) ⟨_, rfl, rfl⟩ rfl rfl (by simp) ⟨Nat.le_refl _, Nat.le_refl _⟩ dX8_clashOf_86 rfl ?_
      refine g_iconst (pc2 := 90) dX8_clashOf_89 k_iconst_1 rfl ?_
      refine g_isub (pc2 := 91) dX8_clashOf_90 rfl ?_
      refine g_is7 (pc2 := 93) dX8_clashOf_91 (by decide) rfl ?_
      refine g_al0 (pc2 := 94) dX8_clashOf_93 rfl ?_
      refine g_il1 (pc2 := 95) dX8_clashOf_94 rfl ?_
      refine g_iconst (pc2 := 96) dX8_clashOf_95 k_iconst_3 rfl ?_
      refine g_cVi (pc2 := 99) (R_m_of l (d + 1) _ _ _ (by assumption) (by decide)) meX8_of mlX8_110 (by rfl) ⟨_, rfl, rfl⟩ rfl rfl (by simp) ⟨Nat.le_refl _, Nat.le_refl _⟩ dX8_clashOf_96 rfl ?_
      refine g_is8 (pc2 := 101) dX8_clashOf_99 (by decide) rfl ?_
      refine g_al0 (pc2 := 102) dX8_clashOf_101 rfl ?_
      refine g_il3 (pc2 := 103) dX8_clashOf_102 rfl ?_
      refine g_iconst (pc2 := 104) dX8_clashOf_103 k_iconst_2 rfl ?_
      refine g_cVi (pc2 := 107) (R_m_of l (d + 1) _ _ _ (by assumption) (by decide)) meX8_of mlX8_110 (by rfl) ⟨_, rfl, rfl⟩ rfl rfl (by simp) ⟨Nat.le_refl _, Nat.le_refl _⟩ dX8_clashOf_104 rfl ?_
      refine g_iconst (pc2 := 108) dX8_clashOf_107 k_iconst_1 rfl ?_
      refine g_isub (pc2 := 109) dX8_clashOf_108 rfl ?_
      refine g_is9 (pc2 := 111) dX8_clashOf_109 (by decide) rfl ?_
      refine g_al0 (pc2 := 112) dX8_clashOf_111 rfl ?_
      refine g_il3 (pc2 := 113) dX8_clashOf_112 rfl ?_
      refine g_iconst (pc2 := 114) dX8_clashOf_113 k_iconst_3 rfl ?_
      refine g_cVi (pc2 := 117) (R_m_of l (d + 1) _ _ _ (by assumption) (by decide)) meX8_of mlX8_110 (by rfl) ⟨_, rfl, rfl⟩ rfl rfl (by simp) ⟨Nat.le_refl _, Nat.le_refl _⟩ dX8_clashOf_114 rfl ?_
      refine g_is10 (pc2 := 119) dX8_clashOf_117 (by decide) rfl ?_
      refine g_il7 (pc2 := 121) dX8_clashOf_119 rfl ?_
      refine g_il9 (pc2 := 123) dX8_clashOf_121 rfl ?_
      refine g_cSi (pc2 := 126) (R_m_meet l (d + 1) _ _ _ _) meX8_meet mlX8_119 rfl rfl (by simp) ⟨Nat.le_refl _, Nat.le_refl _⟩ dX8_clashOf_123 rfl ?_
      refine g_if_eqB 150 129 dX8_clashOf_126 rfl rfl (fun h126 => ?_) (fun h126 => ?_)
      · refine g_iconst (pc2 := 151) dX8_clashOf_150 k_iconst_0 rfl ?_
        refine g_is11 (pc2 := 153) dX8_clashOf_151 (by decide) rfl ?_
        exact J1 _ false bI_f.symm (by unfold pf_sw; simp [*])
      · refine g_al0 (pc2 := 130) dX8_clashOf_129 rfl ?_
        refine g_il1 (pc2 := 131) dX8_clashOf_130 rfl ?_
        refine g_il2 (pc2 := 132) dX8_clashOf_131 rfl ?_
        refine g_cVi (pc2 := 135) (R_m_in' l d _ _ _ (by assumption) (by assumption)) meX8_wayIn mlX8_113 (by rfl) ⟨_, rfl, rfl⟩ rfl rfl (by simp) ⟨Nat.le_refl _, Nat.le_refl _⟩ dX8_clashOf_132 rfl ?_
        refine g_al0 (pc2 := 136) dX8_clashOf_135 rfl ?_
        refine g_il3 (pc2 := 137) dX8_clashOf_136 rfl ?_
        refine g_il4 (pc2 := 139) dX8_clashOf_137 rfl ?_
        refine g_cVi (pc2 := 142) (R_m_in' l d _ _ _ (by assumption) (by assumption)) meX8_wayIn mlX8_113 (by rfl) ⟨_, rfl, rfl⟩ rfl rfl (by simp) ⟨Nat.le_refl _, Nat.le_refl _⟩ dX8_clashOf_139 rfl ?_
        refine g_iand (pc2 := 143) dX8_clashOf_142 rfl ?_
        refine g_if_eq 150 146 dX8_clashOf_143 rfl rfl (fun h143 => ?_) (fun h143 => ?_)
        · refine g_iconst (pc2 := 151) dX8_clashOf_150 k_iconst_0 rfl ?_
          refine g_is11 (pc2 := 153) dX8_clashOf_151 (by decide) rfl ?_
          exact J1 _ false bI_f.symm (by unfold pf_sw; simp [*])
        · refine g_iconst (pc2 := 147) dX8_clashOf_146 k_iconst_1 rfl ?_
          refine g_goto 151 dX8_clashOf_147 rfl ?_
          refine g_is11 (pc2 := 153) dX8_clashOf_151 (by decide) rfl ?_
          exact J1 _ true bI_t.symm (by unfold pf_sw; simp [*])
    have Jg : ∀ (x : Int32), x = pf_gap (σ 77) → lt_g l (d + 3) mX8_clashOf lt_SA σ 40 [some (.ref 76), some (.int (nI i)), some (.int (nI t)), some (.int (nI j)), some (.int (nI o)), some (.int x), none, none, none, none, none, none] [] r σ := by
      intro x hx
      subst hx
      refine g_al0 (pc2 := 41) dX8_clashOf_40 rfl ?_
      refine g_il3 (pc2 := 42) dX8_clashOf_41 rfl ?_
      refine g_iconst (pc2 := 43) dX8_clashOf_42 k_iconst_2 rfl ?_
      refine g_cVi (pc2 := 46) (R_m_of l (d + 1) _ _ _ (by assumption) (by decide)) meX8_of mlX8_110 (by rfl) ⟨_, rfl, rfl⟩ rfl rfl (by simp) ⟨Nat.le_refl _, Nat.le_refl _⟩ dX8_clashOf_43 rfl ?_
      refine g_al0 (pc2 := 47) dX8_clashOf_46 rfl ?_
      refine g_il1 (pc2 := 48) dX8_clashOf_47 rfl ?_
      refine g_iconst (pc2 := 49) dX8_clashOf_48 k_iconst_3 rfl ?_
      refine g_cVi (pc2 := 52) (R_m_of l (d + 1) _ _ _ (by assumption) (by decide)) meX8_of mlX8_110 (by rfl) ⟨_, rfl, rfl⟩ rfl rfl (by simp) ⟨Nat.le_refl _, Nat.le_refl _⟩ dX8_clashOf_49 rfl ?_
      refine g_il5 (pc2 := 54) dX8_clashOf_52 rfl ?_
      refine g_iadd (pc2 := 55) dX8_clashOf_54 rfl ?_
      refine g_icmp_ge 76 58 dX8_clashOf_55 rfl rfl (fun h55 => ?_) (fun h55 => ?_)
      · refine g_iconst (pc2 := 77) dX8_clashOf_76 k_iconst_1 rfl ?_
        refine g_goto 81 dX8_clashOf_77 rfl ?_
        refine g_is6 (pc2 := 83) dX8_clashOf_81 (by decide) rfl ?_
        exact J0 _ true bI_t.symm (by first | (simp [pf_apart, *]; done) | (simp [pf_apart, Int32.not_lt.mp h73]; done))
      · refine g_al0 (pc2 := 59) dX8_clashOf_58 rfl ?_
        refine g_il1 (pc2 := 60) dX8_clashOf_59 rfl ?_
        refine g_iconst (pc2 := 61) dX8_clashOf_60 k_iconst_2 rfl ?_
        refine g_cVi (pc2 := 64) (R_m_of l (d + 1) _ _ _ (by assumption) (by decide)) meX8_of mlX8_110 (by rfl) ⟨_, rfl, rfl⟩ rfl rfl (by simp) ⟨Nat.le_refl _, Nat.le_refl _⟩ dX8_clashOf_61 rfl ?_
        refine g_al0 (pc2 := 65) dX8_clashOf_64 rfl ?_
        refine g_il3 (pc2 := 66) dX8_clashOf_65 rfl ?_
        refine g_iconst (pc2 := 67) dX8_clashOf_66 k_iconst_3 rfl ?_
        refine g_cVi (pc2 := 70) (R_m_of l (d + 1) _ _ _ (by assumption) (by decide)) meX8_of mlX8_110 (by rfl) ⟨_, rfl, rfl⟩ rfl rfl (by simp) ⟨Nat.le_refl _, Nat.le_refl _⟩ dX8_clashOf_67 rfl ?_
        refine g_il5 (pc2 := 72) dX8_clashOf_70 rfl ?_
        refine g_iadd (pc2 := 73) dX8_clashOf_72 rfl ?_
        refine g_icmp_lt 80 76 dX8_clashOf_73 rfl rfl (fun h73 => ?_) (fun h73 => ?_)
        · refine g_iconst (pc2 := 81) dX8_clashOf_80 k_iconst_0 rfl ?_
          refine g_is6 (pc2 := 83) dX8_clashOf_81 (by decide) rfl ?_
          exact J0 _ false bI_f.symm (by first | (simp [pf_apart, *]; done) | (simp [pf_apart, Int32.not_lt.mp h73]; done))
        · refine g_iconst (pc2 := 77) dX8_clashOf_76 k_iconst_1 rfl ?_
          refine g_goto 81 dX8_clashOf_77 rfl ?_
          refine g_is6 (pc2 := 83) dX8_clashOf_81 (by decide) rfl ?_
          exact J0 _ true bI_t.symm (by first | (simp [pf_apart, *]; done) | (simp [pf_apart, Int32.not_lt.mp h73]; done))
    refine g_al0 (pc2 := 19) dX8_clashOf_18 rfl ?_
    refine g_getr (pc2 := 22) (by rfl) (by rfl) flX8_7 dX8_clashOf_19 rfl ?_
    refine g_iconst (pc2 := 23) dX8_clashOf_22 k_iconst_3 rfl ?_
    refine g_iald (pc2 := 24) (by rfl) (by omega) (by decide) dX8_clashOf_23 rfl ?_
    refine g_iconst (pc2 := 25) dX8_clashOf_24 k_iconst_1 rfl ?_
    refine g_icmp_ge 32 28 dX8_clashOf_25 rfl rfl (fun h25 => ?_) (fun h25 => ?_)
    · refine g_al0 (pc2 := 33) dX8_clashOf_32 rfl ?_
      refine g_getr (pc2 := 36) (by rfl) (by rfl) flX8_7 dX8_clashOf_33 rfl ?_
      refine g_iconst (pc2 := 37) dX8_clashOf_36 k_iconst_3 rfl ?_
      refine g_iald (pc2 := 38) (by rfl) (by omega) (by decide) dX8_clashOf_37 rfl ?_
      refine g_is5 (pc2 := 40) dX8_clashOf_38 (by decide) rfl ?_
      exact Jg _ (by simp [pf_gap, *])
    · refine g_iconst (pc2 := 29) dX8_clashOf_28 k_iconst_1 rfl ?_
      refine g_goto 38 dX8_clashOf_29 rfl ?_
      refine g_is5 (pc2 := 40) dX8_clashOf_38 (by decide) rfl ?_
      exact Jg _ (by simp [pf_gap, *])
  refine g_il2 (pc2 := 1) dX8_clashOf_0 rfl ?_
  refine g_il4 (pc2 := 3) dX8_clashOf_1 rfl ?_
  refine g_icmpN_ne 18 6 dX8_clashOf_3 rfl rfl (by omega) (by omega) (fun h3 => ?_) (fun h3 => ?_)
  · exact key (by simp_all [pf_mates])
  · refine g_al0 (pc2 := 7) dX8_clashOf_6 rfl ?_
    refine g_il1 (pc2 := 8) dX8_clashOf_7 rfl ?_
    refine g_iconst (pc2 := 9) dX8_clashOf_8 k_iconst_5 rfl ?_
    refine g_cVi (pc2 := 12) (R_m_of l (d + 1) _ _ _ (by assumption) (by decide)) meX8_of mlX8_110 (by rfl) ⟨_, rfl, rfl⟩ rfl rfl (by simp) ⟨Nat.le_refl _, Nat.le_refl _⟩ dX8_clashOf_9 rfl ?_
    refine g_il3 (pc2 := 13) dX8_clashOf_12 rfl ?_
    refine g_icmp_ne 18 16 dX8_clashOf_13 rfl rfl (fun h13 => ?_) (fun h13 => ?_)
    · exact key (by simp_all [pf_mates])
    · subst hr
      refine g_iconst (pc2 := 17) dX8_clashOf_16 k_iconst_0 rfl ?_
      exact g_iretT dX8_clashOf_17 rfl (Nat.le_refl _) (Nat.le_refl _) (by simp_all [pf_kind, pf_mates]) (rfl)
theorem nI_le0 {a : Nat} (h : a < 2 ^ 31) : nI a ≤ 0 ↔ a = 0 := by
  have := nI_leI h (show 0 < 2 ^ 31 by decide)
  rw [nI_0] at this
  rw [this]; omega
theorem Wf.tr {w : Nat → Int32} {ln T N : Nat} (h : Wf w ln T N) : tN (w 1) = T ∧ tN (w 2) = N ∧ tN (w 0) = ln := by
  obtain ⟨⟨a1, a2, a3⟩, ⟨b1, b2, b3⟩, ⟨c1, c2⟩, -⟩ := h
  exact ⟨by rw [b1]; exact tN_nI (by omega), by rw [c1]; exact tN_nI (by omega), by rw [a1]; exact tN_nI (by omega)⟩
theorem Wf.pl {w : Nat → Int32} {ln T N i : Nat} (h : Wf w ln T N) (hi : i < N) (hp : ¬ w (16 + 7 * i + 6) = -4) : ∃ t, t < T ∧ w (16 + 7 * i + 6) = nI t ∧ pf_fit w i t = true := by
  rcases (h.2.2.2.2 i hi).2.2.2.2.2 with e | e
  · exact absurd e hp
  · exact e
theorem pf_kind_le (w : Nat → Int32) (i t j o : Nat) : pf_kind w i t j o ≤ 3 := by
  unfold pf_kind
  split
  · omega
  · split <;> split <;> omega
theorem R_m_clashing (l : lt_L) (d : Nat) (σ : lt_S) {ln T N : Nat} (hw : Wf (σ 77) ln T N) (i t : Nat) (hi : i < N) (ht : t < 4) : lt_T l (d + 4) mX8_clashing lt_SA σ [.ref 76, .int (nI i), .int (nI t)] (some (oI (pf_clashing (σ 77) i t))) σ := by
  refine lt_T.of [some (.ref 76), some (.int (nI i)), some (.int (nI t)), none] rfl rfl (Nat.le_of_ble_eq_true rfl) ?_
  have hN := hw.2.2.1
  have hT := hw.2.1
  have htr := hw.tr.2.1
  have key : ∀ k, k ≤ N → fstF (pf_against (σ 77) i t) k = none → lt_g l (d + 4) mX8_clashing lt_SA σ 2 [some (.ref 76), some (.int (nI i)), some (.int (nI t)), some (.int (nI k))] [] (some (oI (pf_clashing (σ 77) i t))) σ := by
    refine lt_dn N ?_ ?_
    · intro hk
      refine g_il3 (pc2 := 3) dX8_clashing_2 rfl ?_
      refine g_al0 (pc2 := 4) dX8_clashing_3 rfl ?_
      refine g_getr (pc2 := 7) (by rfl) (by rfl) flX8_7 dX8_clashing_4 rfl ?_
      refine g_iconst (pc2 := 8) dX8_clashing_7 k_iconst_2 rfl ?_
      refine g_iald (pc2 := 9) (by rfl) (by omega) (by decide) dX8_clashing_8 rfl ?_
      rw [hN.1]
      refine g_icmpN_ge 54 12 dX8_clashing_9 rfl rfl (by omega) (by omega) (fun h9 => ?_) (fun h9 => ?_)
      · refine g_bipush (pc2 := 56) dX8_clashing_54 k_bipush_m4 rfl ?_
        exact g_iretT dX8_clashing_56 rfl (Nat.le_refl _) (Nat.le_refl _) (by unfold pf_clashing; rw [htr, hk]; rfl) (rfl)
      · omega
    · intro k hk ih h0
      have hik := hw.ln hi
      have hkk := hw.ln hk
      refine g_il3 (pc2 := 3) dX8_clashing_2 rfl ?_
      refine g_al0 (pc2 := 4) dX8_clashing_3 rfl ?_
      refine g_getr (pc2 := 7) (by rfl) (by rfl) flX8_7 dX8_clashing_4 rfl ?_
      refine g_iconst (pc2 := 8) dX8_clashing_7 k_iconst_2 rfl ?_
      refine g_iald (pc2 := 9) (by rfl) (by omega) (by decide) dX8_clashing_8 rfl ?_
      rw [hN.1]
      refine g_icmpN_ge 54 12 dX8_clashing_9 rfl rfl (by omega) (by omega) (fun h9 => ?_) (fun h9 => ?_)
      · omega
      · refine g_il3 (pc2 := 13) dX8_clashing_12 rfl ?_
        refine g_il1 (pc2 := 14) dX8_clashing_13 rfl ?_
        refine g_icmpN_eq 48 17 dX8_clashing_14 rfl rfl (by omega) (by omega) (fun h14 => ?_) (fun h14 => ?_)
        · refine g_in3 (pc2 := 51) dX8_clashing_48 (nI_inc _) (by decide) rfl ?_
          refine g_goto 2 dX8_clashing_51 rfl ?_
          exact ih (by simp only [fstF, h0]; rw [show pf_against (σ 77) i t k = false from by first | (simp [pf_against, h14]; done) | (simp [pf_against, h26]; done) | (have hz := (nI_le0 (by have := pf_kind_le (σ 77) i t k o; omega)).mp h43; simp [pf_against, ho2, tN_nI (show o < 2 ^ 31 by omega), hz]; done)]; rfl)
        · refine g_al0 (pc2 := 18) dX8_clashing_17 rfl ?_
          refine g_il3 (pc2 := 19) dX8_clashing_18 rfl ?_
          refine g_bipush (pc2 := 21) dX8_clashing_19 k_bipush_6 rfl ?_
          refine g_cVi (pc2 := 24) (R_m_of l (d + 2) _ _ _ hkk.1 (by decide)) meX8_of mlX8_110 (by rfl) ⟨_, rfl, rfl⟩ rfl rfl (by simp) ⟨Nat.le_refl _, Nat.le_refl _⟩ dX8_clashing_21 rfl ?_
          refine g_bipush (pc2 := 26) dX8_clashing_24 k_bipush_m4 rfl ?_
          refine g_icmp_eq 48 29 dX8_clashing_26 rfl rfl (fun h26 => ?_) (fun h26 => ?_)
          · refine g_in3 (pc2 := 51) dX8_clashing_48 (nI_inc _) (by decide) rfl ?_
            refine g_goto 2 dX8_clashing_51 rfl ?_
            exact ih (by simp only [fstF, h0]; rw [show pf_against (σ 77) i t k = false from by first | (simp [pf_against, h14]; done) | (simp [pf_against, h26]; done) | (have hz := (nI_le0 (by have := pf_kind_le (σ 77) i t k o; omega)).mp h43; simp [pf_against, ho2, tN_nI (show o < 2 ^ 31 by omega), hz]; done)]; rfl)
          · refine g_al0 (pc2 := 30) dX8_clashing_29 rfl ?_
            refine g_il1 (pc2 := 31) dX8_clashing_30 rfl ?_
            refine g_il2 (pc2 := 32) dX8_clashing_31 rfl ?_
            obtain ⟨o, ho1, ho2, ho3⟩ := hw.pl hk h26
            refine g_il3 (pc2 := 33) dX8_clashing_32 rfl ?_
            refine g_al0 (pc2 := 34) dX8_clashing_33 rfl ?_
            refine g_il3 (pc2 := 35) dX8_clashing_34 rfl ?_
            refine g_bipush (pc2 := 37) dX8_clashing_35 k_bipush_6 rfl ?_
            refine g_cVi (pc2 := 40) (R_m_of l (d + 2) _ _ _ hkk.1 (by decide)) meX8_of mlX8_110 (by rfl) ⟨_, rfl, rfl⟩ rfl rfl (by simp) ⟨Nat.le_refl _, Nat.le_refl _⟩ dX8_clashing_37 rfl ?_
            rw [ho2]
            refine g_cVi (pc2 := 43) (R_m_clashOf l d _ _ _ _ _ hik ht hkk (by omega)) meX8_clashOf mlX8_122 (by rfl) ⟨_, rfl, rfl⟩ rfl rfl (by simp) ⟨Nat.le_refl _, Nat.le_refl _⟩ dX8_clashing_40 rfl ?_
            refine g_if_le 48 46 dX8_clashing_43 rfl rfl (fun h43 => ?_) (fun h43 => ?_)
            · refine g_in3 (pc2 := 51) dX8_clashing_48 (nI_inc _) (by decide) rfl ?_
              refine g_goto 2 dX8_clashing_51 rfl ?_
              exact ih (by simp only [fstF, h0]; rw [show pf_against (σ 77) i t k = false from by first | (simp [pf_against, h14]; done) | (simp [pf_against, h26]; done) | (have hz := (nI_le0 (by have := pf_kind_le (σ 77) i t k o; omega)).mp h43; simp [pf_against, ho2, tN_nI (show o < 2 ^ 31 by omega), hz]; done)]; rfl)
            · refine g_il3 (pc2 := 47) dX8_clashing_46 rfl ?_
              exact g_iretT dX8_clashing_47 rfl (Nat.le_refl _) (Nat.le_refl _) (by unfold pf_clashing; rw [htr, fstF_at h0 (by have hz := mt (nI_le0 (by have := pf_kind_le (σ 77) i t k o; omega)).mpr h43; simp [pf_against, h14, h26, ho2, tN_nI (show o < 2 ^ 31 by omega), m4_ne (show o < 2 ^ 31 by omega)]; omega) N hk]; rfl) (rfl)
  refine g_iconst (pc2 := 1) dX8_clashing_0 k_iconst_0 rfl ?_
  refine g_is3 (pc2 := 2) dX8_clashing_1 (by decide) rfl ?_
  exact key 0 (Nat.zero_le _) rfl
theorem pf_clashing_lt {w : Nat → Int32} {ln T N i t : Nat} (hw : Wf w ln T N) : ∀ j, pf_clashing w i t = some j → j < 2 ^ 31 := by
  intro j h
  have h1 := fstF_lt h
  rw [hw.tr.2.1] at h1
  have := hw.2.2.1.2
  omega
theorem R_m_whyNot (l : lt_L) (d : Nat) (σ : lt_S) {ln T N : Nat} (hw : Wf (σ 77) ln T N) (i t : Nat) (hi : i < N) (ht : t < 4) : lt_T l (d + 5) mX8_whyNot lt_SA σ [.ref 76, .int (nI i), .int (nI t)] (some (nI (pf_why (σ 77) i t))) σ := by
  refine lt_T.of [some (.ref 76), some (.int (nI i)), some (.int (nI t)), none] rfl rfl (Nat.le_of_ble_eq_true rfl) ?_
  have hik := hw.ln hi
  cases hc : pf_clashing (σ 77) i t with
  | none =>
    refine g_al0 (pc2 := 1) dX8_whyNot_0 rfl ?_
    refine g_il1 (pc2 := 2) dX8_whyNot_1 rfl ?_
    refine g_il2 (pc2 := 3) dX8_whyNot_2 rfl ?_
    refine g_cVi (pc2 := 6) (R_m_in' l (d + 2) _ _ _ hik ht) meX8_wayIn mlX8_113 (by rfl) ⟨_, rfl, rfl⟩ rfl rfl (by simp) ⟨Nat.le_refl _, Nat.le_refl _⟩ dX8_whyNot_3 rfl ?_
    refine g_bipush (pc2 := 8) dX8_whyNot_6 k_bipush_m4 rfl ?_
    refine g_icmp_ne 13 11 dX8_whyNot_8 rfl rfl (fun h8 => ?_) (fun h8 => ?_)
    · refine g_al0 (pc2 := 14) dX8_whyNot_13 rfl ?_
      refine g_il1 (pc2 := 15) dX8_whyNot_14 rfl ?_
      refine g_il2 (pc2 := 16) dX8_whyNot_15 rfl ?_
      refine g_cVi (pc2 := 19) (R_m_out' l (d + 2) _ _ _ hik ht) meX8_wayOut mlX8_116 (by rfl) ⟨_, rfl, rfl⟩ rfl rfl (by simp) ⟨Nat.le_refl _, Nat.le_refl _⟩ dX8_whyNot_16 rfl ?_
      refine g_bipush (pc2 := 21) dX8_whyNot_19 k_bipush_m4 rfl ?_
      refine g_icmp_ne 26 24 dX8_whyNot_21 rfl rfl (fun h21 => ?_) (fun h21 => ?_)
      · refine g_al0 (pc2 := 27) dX8_whyNot_26 rfl ?_
        refine g_il1 (pc2 := 28) dX8_whyNot_27 rfl ?_
        refine g_il2 (pc2 := 29) dX8_whyNot_28 rfl ?_
        refine g_cVi (pc2 := 32) (R_m_clashing l d _ hw _ _ hi ht) meX8_clashing mlX8_126 (by rfl) ⟨_, rfl, rfl⟩ rfl rfl (by simp) ⟨Nat.le_refl _, Nat.le_refl _⟩ dX8_whyNot_29 rfl ?_
        rw [hc]
        refine g_is3 (pc2 := 33) dX8_whyNot_32 (by decide) rfl ?_
        refine g_il3 (pc2 := 34) dX8_whyNot_33 rfl ?_
        refine g_bipush (pc2 := 36) dX8_whyNot_34 k_bipush_m4 rfl ?_
        refine g_icmp_ne 43 39 dX8_whyNot_36 rfl rfl (fun h36 => ?_) (fun h36 => ?_)
        · exact absurd rfl h36
        · refine g_iconst (pc2 := 40) dX8_whyNot_39 k_iconst_0 rfl ?_
          refine g_goto 46 dX8_whyNot_40 rfl ?_
          exact g_iretT dX8_whyNot_46 rfl (Nat.le_refl _) (Nat.le_refl _) (by simp [pf_why, *]) (rfl)
      · refine g_iconst (pc2 := 25) dX8_whyNot_24 k_iconst_2 rfl ?_
        exact g_iretT dX8_whyNot_25 rfl (Nat.le_refl _) (Nat.le_refl _) (by simp [pf_why, *]) (rfl)
    · refine g_iconst (pc2 := 12) dX8_whyNot_11 k_iconst_1 rfl ?_
      exact g_iretT dX8_whyNot_12 rfl (Nat.le_refl _) (Nat.le_refl _) (by simp [pf_why, *]) (rfl)
  | some j =>
    have hj := pf_clashing_lt hw j hc
    refine g_al0 (pc2 := 1) dX8_whyNot_0 rfl ?_
    refine g_il1 (pc2 := 2) dX8_whyNot_1 rfl ?_
    refine g_il2 (pc2 := 3) dX8_whyNot_2 rfl ?_
    refine g_cVi (pc2 := 6) (R_m_in' l (d + 2) _ _ _ hik ht) meX8_wayIn mlX8_113 (by rfl) ⟨_, rfl, rfl⟩ rfl rfl (by simp) ⟨Nat.le_refl _, Nat.le_refl _⟩ dX8_whyNot_3 rfl ?_
    refine g_bipush (pc2 := 8) dX8_whyNot_6 k_bipush_m4 rfl ?_
    refine g_icmp_ne 13 11 dX8_whyNot_8 rfl rfl (fun h8 => ?_) (fun h8 => ?_)
    · refine g_al0 (pc2 := 14) dX8_whyNot_13 rfl ?_
      refine g_il1 (pc2 := 15) dX8_whyNot_14 rfl ?_
      refine g_il2 (pc2 := 16) dX8_whyNot_15 rfl ?_
      refine g_cVi (pc2 := 19) (R_m_out' l (d + 2) _ _ _ hik ht) meX8_wayOut mlX8_116 (by rfl) ⟨_, rfl, rfl⟩ rfl rfl (by simp) ⟨Nat.le_refl _, Nat.le_refl _⟩ dX8_whyNot_16 rfl ?_
      refine g_bipush (pc2 := 21) dX8_whyNot_19 k_bipush_m4 rfl ?_
      refine g_icmp_ne 26 24 dX8_whyNot_21 rfl rfl (fun h21 => ?_) (fun h21 => ?_)
      · refine g_al0 (pc2 := 27) dX8_whyNot_26 rfl ?_
        refine g_il1 (pc2 := 28) dX8_whyNot_27 rfl ?_
        refine g_il2 (pc2 := 29) dX8_whyNot_28 rfl ?_
        refine g_cVi (pc2 := 32) (R_m_clashing l d _ hw _ _ hi ht) meX8_clashing mlX8_126 (by rfl) ⟨_, rfl, rfl⟩ rfl rfl (by simp) ⟨Nat.le_refl _, Nat.le_refl _⟩ dX8_whyNot_29 rfl ?_
        rw [hc, show oI (some j) = nI j from rfl]
        refine g_is3 (pc2 := 33) dX8_whyNot_32 (by decide) rfl ?_
        refine g_il3 (pc2 := 34) dX8_whyNot_33 rfl ?_
        refine g_bipush (pc2 := 36) dX8_whyNot_34 k_bipush_m4 rfl ?_
        refine g_icmp_ne 43 39 dX8_whyNot_36 rfl rfl (fun h36 => ?_) (fun h36 => ?_)
        · refine g_iconst (pc2 := 44) dX8_whyNot_43 k_iconst_3 rfl ?_
          refine g_il3 (pc2 := 45) dX8_whyNot_44 rfl ?_
          refine g_iaddN (pc2 := 46) dX8_whyNot_45 rfl ?_
          exact g_iretT dX8_whyNot_46 rfl (Nat.le_refl _) (Nat.le_refl _) (by simp [pf_why, *]) (rfl)
        · exact absurd h36 (m4_ne hj)
      · refine g_iconst (pc2 := 25) dX8_whyNot_24 k_iconst_2 rfl ?_
        exact g_iretT dX8_whyNot_25 rfl (Nat.le_refl _) (Nat.le_refl _) (by simp [pf_why, *]) (rfl)
    · refine g_iconst (pc2 := 12) dX8_whyNot_11 k_iconst_1 rfl ?_
      exact g_iretT dX8_whyNot_12 rfl (Nat.le_refl _) (Nat.le_refl _) (by simp [pf_why, *]) (rfl)
theorem pf_why_le {w : Nat → Int32} {ln T N i t : Nat} (hw : Wf w ln T N) : pf_why w i t ≤ 10 := by
  unfold pf_why
  split
  · omega
  · split
    · omega
    · cases hc : pf_clashing w i t with
      | none => simp
      | some j =>
        have h1 := fstF_lt hc
        rw [hw.tr.2.1] at h1
        have := hw.2.2.1.2
        simp
        omega
theorem R_m_fits (l : lt_L) (d : Nat) (σ : lt_S) {ln T N : Nat} (hw : Wf (σ 77) ln T N) (i : Nat) (hi : i < N) : lt_T l (d + 4) mX8_fits lt_SA σ [.ref 76, .int (nI i)] (some (pf_fits (σ 77) i)) σ := by
  refine lt_T.of [some (.ref 76), some (.int (nI i)), none, none] rfl rfl (Nat.le_of_ble_eq_true rfl) ?_
  have hik := hw.ln hi
  have hT := hw.2.1
  unfold pf_fits
  rw [hw.tr.1]
  have key : ∀ k, k ≤ T → lt_g l (d + 4) mX8_fits lt_SA σ 4 [some (.ref 76), some (.int (nI i)), some (.int (orF (fun t => if pf_fit (σ 77) i t then nI 1 <<< (nI t &&& 31) else nI 0) k)), some (.int (nI k))] [] (some (orF (fun t => if pf_fit (σ 77) i t then nI 1 <<< (nI t &&& 31) else nI 0) T)) σ := by
    refine lt_dn T ?_ ?_
    · refine g_il3 (pc2 := 5) dX8_fits_4 rfl ?_
      refine g_al0 (pc2 := 6) dX8_fits_5 rfl ?_
      refine g_getr (pc2 := 9) (by rfl) (by rfl) flX8_7 dX8_fits_6 rfl ?_
      refine g_iconst (pc2 := 10) dX8_fits_9 k_iconst_1 rfl ?_
      refine g_iald (pc2 := 11) (by rfl) (by omega) (by decide) dX8_fits_10 rfl ?_
      rw [hT.1]
      refine g_icmpN_ge 39 14 dX8_fits_11 rfl rfl (by omega) (by omega) (fun h11 => ?_) (fun h11 => ?_)
      · refine g_il2 (pc2 := 40) dX8_fits_39 rfl ?_
        exact g_iretT dX8_fits_40 rfl (Nat.le_refl _) (Nat.le_refl _) (rfl) (rfl)
      · omega
    · intro k hk ih
      refine g_il3 (pc2 := 5) dX8_fits_4 rfl ?_
      refine g_al0 (pc2 := 6) dX8_fits_5 rfl ?_
      refine g_getr (pc2 := 9) (by rfl) (by rfl) flX8_7 dX8_fits_6 rfl ?_
      refine g_iconst (pc2 := 10) dX8_fits_9 k_iconst_1 rfl ?_
      refine g_iald (pc2 := 11) (by rfl) (by omega) (by decide) dX8_fits_10 rfl ?_
      rw [hT.1]
      refine g_icmpN_ge 39 14 dX8_fits_11 rfl rfl (by omega) (by omega) (fun h11 => ?_) (fun h11 => ?_)
      · omega
      · refine g_il2 (pc2 := 15) dX8_fits_14 rfl ?_
        refine g_al0 (pc2 := 16) dX8_fits_15 rfl ?_
        refine g_il1 (pc2 := 17) dX8_fits_16 rfl ?_
        refine g_il3 (pc2 := 18) dX8_fits_17 rfl ?_
        refine g_cVi (pc2 := 21) (R_m_doesFit l d _ _ _ hik (by omega)) meX8_doesFit mlX8_129 (by rfl) ⟨_, rfl, rfl⟩ rfl rfl (by simp) ⟨Nat.le_refl _, Nat.le_refl _⟩ dX8_fits_18 rfl ?_
        refine g_if_eqB 30 24 dX8_fits_21 rfl rfl (fun h21 => ?_) (fun h21 => ?_)
        · refine g_iconst (pc2 := 31) dX8_fits_30 k_iconst_0 rfl ?_
          refine g_ior (pc2 := 32) dX8_fits_31 rfl ?_
          refine g_is2 (pc2 := 33) dX8_fits_32 (by decide) rfl ?_
          refine g_in3 (pc2 := 36) dX8_fits_33 (nI_inc _) (by decide) rfl ?_
          refine g_goto 4 dX8_fits_36 rfl ?_
          simp only [orF, h21] at ih; exact ih
        · refine g_iconst (pc2 := 25) dX8_fits_24 k_iconst_1 rfl ?_
          refine g_il3 (pc2 := 26) dX8_fits_25 rfl ?_
          refine g_ishl (pc2 := 27) dX8_fits_26 rfl ?_
          refine g_goto 31 dX8_fits_27 rfl ?_
          refine g_ior (pc2 := 32) dX8_fits_31 rfl ?_
          refine g_is2 (pc2 := 33) dX8_fits_32 (by decide) rfl ?_
          refine g_in3 (pc2 := 36) dX8_fits_33 (nI_inc _) (by decide) rfl ?_
          refine g_goto 4 dX8_fits_36 rfl ?_
          simp only [orF, h21] at ih; exact ih
  refine g_iconst (pc2 := 1) dX8_fits_0 k_iconst_0 rfl ?_
  refine g_is2 (pc2 := 2) dX8_fits_1 (by decide) rfl ?_
  refine g_iconst (pc2 := 3) dX8_fits_2 k_iconst_0 rfl ?_
  refine g_is3 (pc2 := 4) dX8_fits_3 (by decide) rfl ?_
  exact key 0 (Nat.zero_le _)
theorem R_m_hardOf (l : lt_L) (d : Nat) (σ : lt_S) {ln T N : Nat} (hw : Wf (σ 77) ln T N) (i : Nat) (hi : i < N) : lt_T l (d + 6) mX8_hardOf lt_SA σ [.ref 76, .int (nI i)] (some (nI (pf_hard (σ 77) i))) σ := by
  refine lt_T.of [some (.ref 76), some (.int (nI i)), none, none] rfl rfl (Nat.le_of_ble_eq_true rfl) ?_
  have hT := hw.2.1
  unfold pf_hard
  rw [hw.tr.1]
  have key : ∀ k, k ≤ T → lt_g l (d + 6) mX8_hardOf lt_SA σ 4 [some (.ref 76), some (.int (nI i)), some (.int (nI (sumF (fun t => decide (pf_why (σ 77) i t = 0)) k))), some (.int (nI k))] [] (some (nI (sumF (fun t => decide (pf_why (σ 77) i t = 0)) T))) σ := by
    refine lt_dn T ?_ ?_
    · refine g_il3 (pc2 := 5) dX8_hardOf_4 rfl ?_
      refine g_al0 (pc2 := 6) dX8_hardOf_5 rfl ?_
      refine g_getr (pc2 := 9) (by rfl) (by rfl) flX8_7 dX8_hardOf_6 rfl ?_
      refine g_iconst (pc2 := 10) dX8_hardOf_9 k_iconst_1 rfl ?_
      refine g_iald (pc2 := 11) (by rfl) (by omega) (by decide) dX8_hardOf_10 rfl ?_
      rw [hT.1]
      refine g_icmpN_ge 37 14 dX8_hardOf_11 rfl rfl (by omega) (by omega) (fun h11 => ?_) (fun h11 => ?_)
      · refine g_il2 (pc2 := 38) dX8_hardOf_37 rfl ?_
        exact g_iretT dX8_hardOf_38 rfl (Nat.le_refl _) (Nat.le_refl _) (rfl) (rfl)
      · omega
    · intro k hk ih
      have hwy : pf_why (σ 77) i k ≤ 10 := pf_why_le hw
      refine g_il3 (pc2 := 5) dX8_hardOf_4 rfl ?_
      refine g_al0 (pc2 := 6) dX8_hardOf_5 rfl ?_
      refine g_getr (pc2 := 9) (by rfl) (by rfl) flX8_7 dX8_hardOf_6 rfl ?_
      refine g_iconst (pc2 := 10) dX8_hardOf_9 k_iconst_1 rfl ?_
      refine g_iald (pc2 := 11) (by rfl) (by omega) (by decide) dX8_hardOf_10 rfl ?_
      rw [hT.1]
      refine g_icmpN_ge 37 14 dX8_hardOf_11 rfl rfl (by omega) (by omega) (fun h11 => ?_) (fun h11 => ?_)
      · omega
      · refine g_il2 (pc2 := 15) dX8_hardOf_14 rfl ?_
        refine g_al0 (pc2 := 16) dX8_hardOf_15 rfl ?_
        refine g_il1 (pc2 := 17) dX8_hardOf_16 rfl ?_
        refine g_il3 (pc2 := 18) dX8_hardOf_17 rfl ?_
        refine g_cVi (pc2 := 21) (R_m_whyNot l d _ hw _ _ hi (by omega)) meX8_whyNot mlX8_132 (by rfl) ⟨_, rfl, rfl⟩ rfl rfl (by simp) ⟨Nat.le_refl _, Nat.le_refl _⟩ dX8_hardOf_18 rfl ?_
        refine g_if_ne 28 24 dX8_hardOf_21 rfl rfl (fun h21 => ?_) (fun h21 => ?_)
        · refine g_iconst (pc2 := 29) dX8_hardOf_28 k_iconst_0 rfl ?_
          refine g_iaddN (pc2 := 30) dX8_hardOf_29 rfl ?_
          refine g_is2 (pc2 := 31) dX8_hardOf_30 (by decide) rfl ?_
          refine g_in3 (pc2 := 34) dX8_hardOf_31 (nI_inc _) (by decide) rfl ?_
          refine g_goto 4 dX8_hardOf_34 rfl ?_
          rw [← nI_0, nI_eq (by omega) (by decide)] at h21; simp only [sumF, h21] at ih; exact ih
        · refine g_iconst (pc2 := 25) dX8_hardOf_24 k_iconst_1 rfl ?_
          refine g_goto 29 dX8_hardOf_25 rfl ?_
          refine g_iaddN (pc2 := 30) dX8_hardOf_29 rfl ?_
          refine g_is2 (pc2 := 31) dX8_hardOf_30 (by decide) rfl ?_
          refine g_in3 (pc2 := 34) dX8_hardOf_31 (nI_inc _) (by decide) rfl ?_
          refine g_goto 4 dX8_hardOf_34 rfl ?_
          rw [← nI_0, nI_eq (by omega) (by decide)] at h21; simp only [sumF, h21] at ih; exact ih
  refine g_iconst (pc2 := 1) dX8_hardOf_0 k_iconst_0 rfl ?_
  refine g_is2 (pc2 := 2) dX8_hardOf_1 (by decide) rfl ?_
  refine g_iconst (pc2 := 3) dX8_hardOf_2 k_iconst_0 rfl ?_
  refine g_is3 (pc2 := 4) dX8_hardOf_3 (by decide) rfl ?_
  exact key 0 (Nat.zero_le _)
theorem R_m_placed (l : lt_L) (d : Nat) (σ : lt_S) {ln T N : Nat} (hw : Wf (σ 77) ln T N) : lt_T l (d + 2) mX8_placed lt_SA σ [.ref 76] (some (nI (pf_placed (σ 77)))) σ := by
  refine lt_T.of [some (.ref 76), none, none] rfl rfl (Nat.le_of_ble_eq_true rfl) ?_
  have hN := hw.2.2.1
  unfold pf_placed
  rw [hw.tr.2.1]
  have key : ∀ k, k ≤ N → lt_g l (d + 2) mX8_placed lt_SA σ 4 [some (.ref 76), some (.int (nI (sumF (fun i => !decide (σ 77 (16 + 7 * i + 6) = -4)) k))), some (.int (nI k))] [] (some (nI (sumF (fun i => !decide (σ 77 (16 + 7 * i + 6) = -4)) N))) σ := by
    refine lt_dn N ?_ ?_
    · refine g_il2 (pc2 := 5) dX8_placed_4 rfl ?_
      refine g_al0 (pc2 := 6) dX8_placed_5 rfl ?_
      refine g_getr (pc2 := 9) (by rfl) (by rfl) flX8_7 dX8_placed_6 rfl ?_
      refine g_iconst (pc2 := 10) dX8_placed_9 k_iconst_2 rfl ?_
      refine g_iald (pc2 := 11) (by rfl) (by omega) (by decide) dX8_placed_10 rfl ?_
      rw [hN.1]
      refine g_icmpN_ge 40 14 dX8_placed_11 rfl rfl (by omega) (by omega) (fun h11 => ?_) (fun h11 => ?_)
      · refine g_il1 (pc2 := 41) dX8_placed_40 rfl ?_
        exact g_iretT dX8_placed_41 rfl (Nat.le_refl _) (Nat.le_refl _) (rfl) (rfl)
      · omega
    · intro k hk ih
      refine g_il2 (pc2 := 5) dX8_placed_4 rfl ?_
      refine g_al0 (pc2 := 6) dX8_placed_5 rfl ?_
      refine g_getr (pc2 := 9) (by rfl) (by rfl) flX8_7 dX8_placed_6 rfl ?_
      refine g_iconst (pc2 := 10) dX8_placed_9 k_iconst_2 rfl ?_
      refine g_iald (pc2 := 11) (by rfl) (by omega) (by decide) dX8_placed_10 rfl ?_
      rw [hN.1]
      refine g_icmpN_ge 40 14 dX8_placed_11 rfl rfl (by omega) (by omega) (fun h11 => ?_) (fun h11 => ?_)
      · omega
      · refine g_il1 (pc2 := 15) dX8_placed_14 rfl ?_
        refine g_al0 (pc2 := 16) dX8_placed_15 rfl ?_
        refine g_il2 (pc2 := 17) dX8_placed_16 rfl ?_
        refine g_bipush (pc2 := 19) dX8_placed_17 k_bipush_6 rfl ?_
        refine g_cVi (pc2 := 22) (R_m_of l d _ _ _ (by omega) (by decide)) meX8_of mlX8_110 (by rfl) ⟨_, rfl, rfl⟩ rfl rfl (by simp) ⟨Nat.le_refl _, Nat.le_refl _⟩ dX8_placed_19 rfl ?_
        refine g_bipush (pc2 := 24) dX8_placed_22 k_bipush_m4 rfl ?_
        refine g_icmp_ne 31 27 dX8_placed_24 rfl rfl (fun h24 => ?_) (fun h24 => ?_)
        · refine g_iconst (pc2 := 32) dX8_placed_31 k_iconst_1 rfl ?_
          refine g_iaddN (pc2 := 33) dX8_placed_32 rfl ?_
          refine g_is1 (pc2 := 34) dX8_placed_33 (by decide) rfl ?_
          refine g_in2 (pc2 := 37) dX8_placed_34 (nI_inc _) (by decide) rfl ?_
          refine g_goto 4 dX8_placed_37 rfl ?_
          simp only [sumF, h24] at ih; exact ih
        · refine g_iconst (pc2 := 28) dX8_placed_27 k_iconst_0 rfl ?_
          refine g_goto 32 dX8_placed_28 rfl ?_
          refine g_iaddN (pc2 := 33) dX8_placed_32 rfl ?_
          refine g_is1 (pc2 := 34) dX8_placed_33 (by decide) rfl ?_
          refine g_in2 (pc2 := 37) dX8_placed_34 (nI_inc _) (by decide) rfl ?_
          refine g_goto 4 dX8_placed_37 rfl ?_
          simp only [sumF, h24] at ih; exact ih
  refine g_iconst (pc2 := 1) dX8_placed_0 k_iconst_0 rfl ?_
  refine g_is1 (pc2 := 2) dX8_placed_1 (by decide) rfl ?_
  refine g_iconst (pc2 := 3) dX8_placed_2 k_iconst_0 rfl ?_
  refine g_is2 (pc2 := 4) dX8_placed_3 (by decide) rfl ?_
  exact key 0 (Nat.zero_le _)
theorem R_m_asWished (l : lt_L) (d : Nat) (σ : lt_S) {ln T N : Nat} (hw : Wf (σ 77) ln T N) : lt_T l (d + 2) mX8_asWished lt_SA σ [.ref 76] (some (nI (pf_wished (σ 77)))) σ := by
  refine lt_T.of [some (.ref 76), none, none] rfl rfl (Nat.le_of_ble_eq_true rfl) ?_
  have hN := hw.2.2.1
  unfold pf_wished
  rw [hw.tr.2.1]
  have key : ∀ k, k ≤ N → lt_g l (d + 2) mX8_asWished lt_SA σ 4 [some (.ref 76), some (.int (nI (sumF (fun i => !decide (σ 77 (16 + 7 * i + 6) = -4) && decide (σ 77 (16 + 7 * i + 6) = σ 77 (16 + 7 * i + 4))) k))), some (.int (nI k))] [] (some (nI (sumF (fun i => !decide (σ 77 (16 + 7 * i + 6) = -4) && decide (σ 77 (16 + 7 * i + 6) = σ 77 (16 + 7 * i + 4))) N))) σ := by
    refine lt_dn N ?_ ?_
    · refine g_il2 (pc2 := 5) dX8_asWished_4 rfl ?_
      refine g_al0 (pc2 := 6) dX8_asWished_5 rfl ?_
      refine g_getr (pc2 := 9) (by rfl) (by rfl) flX8_7 dX8_asWished_6 rfl ?_
      refine g_iconst (pc2 := 10) dX8_asWished_9 k_iconst_2 rfl ?_
      refine g_iald (pc2 := 11) (by rfl) (by omega) (by decide) dX8_asWished_10 rfl ?_
      rw [hN.1]
      refine g_icmpN_ge 56 14 dX8_asWished_11 rfl rfl (by omega) (by omega) (fun h11 => ?_) (fun h11 => ?_)
      · refine g_il1 (pc2 := 57) dX8_asWished_56 rfl ?_
        exact g_iretT dX8_asWished_57 rfl (Nat.le_refl _) (Nat.le_refl _) (rfl) (rfl)
      · omega
    · intro k hk ih
      refine g_il2 (pc2 := 5) dX8_asWished_4 rfl ?_
      refine g_al0 (pc2 := 6) dX8_asWished_5 rfl ?_
      refine g_getr (pc2 := 9) (by rfl) (by rfl) flX8_7 dX8_asWished_6 rfl ?_
      refine g_iconst (pc2 := 10) dX8_asWished_9 k_iconst_2 rfl ?_
      refine g_iald (pc2 := 11) (by rfl) (by omega) (by decide) dX8_asWished_10 rfl ?_
      rw [hN.1]
      refine g_icmpN_ge 56 14 dX8_asWished_11 rfl rfl (by omega) (by omega) (fun h11 => ?_) (fun h11 => ?_)
      · omega
      · refine g_il1 (pc2 := 15) dX8_asWished_14 rfl ?_
        refine g_al0 (pc2 := 16) dX8_asWished_15 rfl ?_
        refine g_il2 (pc2 := 17) dX8_asWished_16 rfl ?_
        refine g_bipush (pc2 := 19) dX8_asWished_17 k_bipush_6 rfl ?_
        refine g_cVi (pc2 := 22) (R_m_of l d _ _ _ (by omega) (by decide)) meX8_of mlX8_110 (by rfl) ⟨_, rfl, rfl⟩ rfl rfl (by simp) ⟨Nat.le_refl _, Nat.le_refl _⟩ dX8_asWished_19 rfl ?_
        refine g_bipush (pc2 := 24) dX8_asWished_22 k_bipush_m4 rfl ?_
        refine g_icmp_eq 47 27 dX8_asWished_24 rfl rfl (fun h24 => ?_) (fun h24 => ?_)
        · refine g_iconst (pc2 := 48) dX8_asWished_47 k_iconst_0 rfl ?_
          refine g_iaddN (pc2 := 49) dX8_asWished_48 rfl ?_
          refine g_is1 (pc2 := 50) dX8_asWished_49 (by decide) rfl ?_
          refine g_in2 (pc2 := 53) dX8_asWished_50 (nI_inc _) (by decide) rfl ?_
          refine g_goto 4 dX8_asWished_53 rfl ?_
          first | (have e9 : (!decide (σ 77 (16 + 7 * k + 6) = -4) && decide (σ 77 (16 + 7 * k + 6) = σ 77 (16 + 7 * k + 4))) = false := (by first | (simp [h24]; done) | (simp [h40]; done)); simp only [sumF, e9] at ih; exact ih) | (have e9 : (!decide (σ 77 (16 + 7 * k + 6) = -4) && decide (σ 77 (16 + 7 * k + 6) = σ 77 (16 + 7 * k + 4))) = true := (by rw [h40] at h24 ⊢; simp [h24]); simp only [sumF, e9] at ih; exact ih)
        · refine g_al0 (pc2 := 28) dX8_asWished_27 rfl ?_
          refine g_il2 (pc2 := 29) dX8_asWished_28 rfl ?_
          refine g_bipush (pc2 := 31) dX8_asWished_29 k_bipush_6 rfl ?_
          refine g_cVi (pc2 := 34) (R_m_of l d _ _ _ (by omega) (by decide)) meX8_of mlX8_110 (by rfl) ⟨_, rfl, rfl⟩ rfl rfl (by simp) ⟨Nat.le_refl _, Nat.le_refl _⟩ dX8_asWished_31 rfl ?_
          refine g_al0 (pc2 := 35) dX8_asWished_34 rfl ?_
          refine g_il2 (pc2 := 36) dX8_asWished_35 rfl ?_
          refine g_iconst (pc2 := 37) dX8_asWished_36 k_iconst_4 rfl ?_
          refine g_cVi (pc2 := 40) (R_m_of l d _ _ _ (by omega) (by decide)) meX8_of mlX8_110 (by rfl) ⟨_, rfl, rfl⟩ rfl rfl (by simp) ⟨Nat.le_refl _, Nat.le_refl _⟩ dX8_asWished_37 rfl ?_
          refine g_icmp_ne 47 43 dX8_asWished_40 rfl rfl (fun h40 => ?_) (fun h40 => ?_)
          · refine g_iconst (pc2 := 48) dX8_asWished_47 k_iconst_0 rfl ?_
            refine g_iaddN (pc2 := 49) dX8_asWished_48 rfl ?_
            refine g_is1 (pc2 := 50) dX8_asWished_49 (by decide) rfl ?_
            refine g_in2 (pc2 := 53) dX8_asWished_50 (nI_inc _) (by decide) rfl ?_
            refine g_goto 4 dX8_asWished_53 rfl ?_
            first | (have e9 : (!decide (σ 77 (16 + 7 * k + 6) = -4) && decide (σ 77 (16 + 7 * k + 6) = σ 77 (16 + 7 * k + 4))) = false := (by first | (simp [h24]; done) | (simp [h40]; done)); simp only [sumF, e9] at ih; exact ih) | (have e9 : (!decide (σ 77 (16 + 7 * k + 6) = -4) && decide (σ 77 (16 + 7 * k + 6) = σ 77 (16 + 7 * k + 4))) = true := (by rw [h40] at h24 ⊢; simp [h24]); simp only [sumF, e9] at ih; exact ih)
          · refine g_iconst (pc2 := 44) dX8_asWished_43 k_iconst_1 rfl ?_
            refine g_goto 48 dX8_asWished_44 rfl ?_
            refine g_iaddN (pc2 := 49) dX8_asWished_48 rfl ?_
            refine g_is1 (pc2 := 50) dX8_asWished_49 (by decide) rfl ?_
            refine g_in2 (pc2 := 53) dX8_asWished_50 (nI_inc _) (by decide) rfl ?_
            refine g_goto 4 dX8_asWished_53 rfl ?_
            first | (have e9 : (!decide (σ 77 (16 + 7 * k + 6) = -4) && decide (σ 77 (16 + 7 * k + 6) = σ 77 (16 + 7 * k + 4))) = false := (by first | (simp [h24]; done) | (simp [h40]; done)); simp only [sumF, e9] at ih; exact ih) | (have e9 : (!decide (σ 77 (16 + 7 * k + 6) = -4) && decide (σ 77 (16 + 7 * k + 6) = σ 77 (16 + 7 * k + 4))) = true := (by rw [h40] at h24 ⊢; simp [h24]); simp only [sumF, e9] at ih; exact ih)
  refine g_iconst (pc2 := 1) dX8_asWished_0 k_iconst_0 rfl ?_
  refine g_is1 (pc2 := 2) dX8_asWished_1 (by decide) rfl ?_
  refine g_iconst (pc2 := 3) dX8_asWished_2 k_iconst_0 rfl ?_
  refine g_is2 (pc2 := 4) dX8_asWished_3 (by decide) rfl ?_
  exact key 0 (Nat.zero_le _)
