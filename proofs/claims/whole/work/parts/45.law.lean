/-! the law -/
abbrev mL : lt_M := (yL_law, cL_law, 4, some .boolean)
def QL : lt_Q := fun r _ _ => r = some (nI 1)
theorem and31 (x : Int32) : ∃ j, j < 32 ∧ x &&& nI 31 = nI j := by
  refine ⟨(x &&& nI 31).toBitVec.toNat, ?_, ?_⟩
  · rw [Int32.toBitVec_and]
    have : (x.toBitVec &&& (nI 31).toBitVec).toNat ≤ (nI 31).toBitVec.toNat := by
      rw [BitVec.toNat_and]
      exact Nat.and_le_right
    have e : (nI 31).toBitVec.toNat = 31 := by decide
    omega
  · apply Int32.toBitVec_inj.mp
    show _ = (Int32.ofNat _).toBitVec
    rw [Int32.toBitVec_ofNat', BitVec.ofNat_toNat, BitVec.setWidth_eq]
theorem if_hi {b : Bool} {s σ : lt_S} {a : Nat} (h : s a = σ a) : (if b = true then s else σ) a = σ a := by
  cases b
  · rfl
  · exact h
theorem law_hi {σ σ1 : lt_S} {n : Nat} {tx : Nat → Nat} {ln T N nx c : Nat} (h : Rel σ n tx ln T N nx c) (hi : ∀ a, 76 ≤ a → σ1 a = σ a) : σ1 77 = σ 77 ∧ Wf (σ1 77) ln T N ∧ σ1 76 3 = nI c ∧ TX σ1 n tx ∧ σ1 76 5 = nI n := by
  have e : σ1 77 = σ 77 := hi 77 (by decide)
  refine ⟨e, by rw [e]; exact h.1.1, by rw [hi 76 (by decide)]; exact h.2.2.2.2.1, h.2.2.2.1.cells (by rw [hi 76 (by decide)]) (hi 80 (by decide)), by rw [hi 76 (by decide)]; exact h.2.2.2.1.1⟩
theorem law_step (l : lt_L) (d ck cn : Nat) (hL : l.2.1 ≤ 2560) (h1 : ck ≤ 600000) (h2 : cn ≤ 7302250) (k : Nat) (hk : k + 5 ≤ l.2.1) (σ : lt_S) (hrel : RelE σ) (nxt : ∀ σ', RelE σ' → lt_G l (d + 20) 600000 7302250 mL ck cn lt_SA σ' 668 [some (.ref 0), some (.ref 10), some (.ref 76), some (.int (nI k))] [] QL) : lt_G l (d + 20) 600000 7302250 mL ck cn lt_SA σ 26 [some (.ref 0), some (.ref 10), some (.ref 76), some (.int (nI k))] [] QL := by
  have hrel0 := hrel
  obtain ⟨n, tx, ln, T, N, nx, c, hR⟩ := hrel
  have hcc := hR.1
  have hkp := hR.2.1
  have hc6 := hkp.2.2.2
  have hw := hcc.1
  have hx := hkp.2.1
  have hTC := hR.2.2.1
  have hTX := hR.2.2.2.1
  obtain ⟨j, hj, ej⟩ := and31 (l.2.2 k)
  refine g_al0 (pc2 := 27) dL_law_26 rfl ?_
  refine g_il3 (pc2 := 28) dL_law_27 rfl ?_
  refine g_xald (pc2 := 29) (by omega) (by omega) dL_law_28 rfl ?_
  refine g_bipush (pc2 := 31) dL_law_29 k_bipush_31 rfl ?_
  refine g_iand (pc2 := 32) dL_law_31 rfl ?_
  rw [ej]
  rcases (show j = 0 ∨ j = 1 ∨ j = 2 ∨ j = 3 ∨ j = 4 ∨ j = 5 ∨ j = 6 ∨ j = 7 ∨ j = 8 ∨ j = 9 ∨ j = 10 ∨ j = 11 ∨ j = 12 ∨ j = 13 ∨ j = 14 ∨ j = 15 ∨ j = 16 ∨ j = 17 ∨ j = 18 ∨ j = 19 ∨ 20 ≤ j by omega) with rfl | rfl | rfl | rfl | rfl | rfl | rfl | rfl | rfl | rfl | rfl | rfl | rfl | rfl | rfl | rfl | rfl | rfl | rfl | rfl | h20
  · refine g_tableIn 128 dL_law_32 (by decide) (by decide) (off := 96) (by decide) rfl ?_
    have cg := R_c_write l (d + 17) lt_SM σ hTC.1 hTC.2.1 (l.2.2 (k + 1))
    have rel := hR.write (l.2.2 (k + 1))
    have hi : ∀ a, 76 ≤ a → (if inB (l.2.2 (k + 1)) (nI 32) (nI 126) && decide (n < 200) then lt_up (lt_up σ 12 n (l.2.2 (k + 1))) 11 1 (nI (n + 1)) else σ) a = σ a := by
      intro a ha
      split
      · rw [lt_up_nr _ _ _ (by omega), lt_up_nr _ _ _ (by omega)]
      · rfl
    generalize (if inB (l.2.2 (k + 1)) (nI 32) (nI 126) && decide (n < 200) then lt_up (lt_up σ 12 n (l.2.2 (k + 1))) 11 1 (nI (n + 1)) else σ) = σ1 at cg rel hi
    obtain ⟨-, -, -, -, q5⟩ := law_hi hR hi
    refine g_al1 (pc2 := 129) dL_law_128 rfl ?_
    refine g_al0 (pc2 := 130) dL_law_129 rfl ?_
    refine g_il3 (pc2 := 131) dL_law_130 rfl ?_
    refine g_iconst (pc2 := 132) dL_law_131 k_iconst_1 rfl ?_
    refine g_iaddN (pc2 := 133) dL_law_132 rfl ?_
    refine g_xald (pc2 := 134) (by omega) (by omega) dL_law_133 rfl ?_
    refine g_cVi (pc2 := 137) (cg) meX7_write mlL_13 (by rfl) ⟨_, rfl, rfl⟩ rfl rfl (by simp) ⟨h1, h2⟩ dL_law_134 rfl ?_
    refine g_al2 (pc2 := 138) dL_law_137 rfl ?_
    refine g_al0 (pc2 := 139) dL_law_138 rfl ?_
    refine g_il3 (pc2 := 140) dL_law_139 rfl ?_
    refine g_iconst (pc2 := 141) dL_law_140 k_iconst_1 rfl ?_
    refine g_iaddN (pc2 := 142) dL_law_141 rfl ?_
    refine g_xald (pc2 := 143) (by omega) (by omega) dL_law_142 rfl ?_
    refine g_cVi (pc2 := 146) (R_m_write l (d + 17) σ1 q5 hTX.2.1 _) meX8_write mlL_17 (by rfl) ⟨_, rfl, rfl⟩ rfl rfl (by simp) ⟨h1, h2⟩ dL_law_143 rfl ?_
    refine g_icmp_eq 668 149 dL_law_146 rfl rfl (fun h146 => ?_) (fun h146 => ?_)
    · exact nxt _ rel
    · exact absurd rfl h146
  · refine g_tableIn 151 dL_law_32 (by decide) (by decide) (off := 119) (by decide) rfl ?_
    have e2 : σ 11 1 = lt_up σ 11 1 (nI 0) 76 5 := hTC.1.trans hTX.1.symm
    refine g_al1 (pc2 := 152) dL_law_151 rfl ?_
    refine g_cVi (pc2 := 155) (R_c_wipe l (d + 18) lt_SM σ) meX7_wipe mlL_18 (by rfl) ⟨_, rfl, rfl⟩ rfl rfl (by simp) ⟨h1, h2⟩ dL_law_152 rfl ?_
    refine g_al2 (pc2 := 156) dL_law_155 rfl ?_
    refine g_cVi (pc2 := 159) (R_m_wipe l (d + 18) _) meX8_wipe mlL_22 (by rfl) ⟨_, rfl, rfl⟩ rfl rfl (by simp) ⟨h1, h2⟩ dL_law_156 rfl ?_
    refine g_icmp_eq 668 162 dL_law_159 rfl rfl (fun h159 => ?_) (fun h159 => ?_)
    · exact nxt _ hR.wipe
    · exact absurd e2 h159
  · refine g_tableIn 164 dL_law_32 (by decide) (by decide) (off := 132) (by decide) rfl ?_
    have go : ∀ σ1, PF25 σ σ1 → lt_G l (d + 20) 600000 7302250 mL ck cn lt_SA σ1 168 [some (.ref 0), some (.ref 10), some (.ref 76), some (.int (nI k))] [.int (oI (parseM tx n (begRow (σ 78))).1)] QL := by
      intro σ1 u1
      have q8 : σ1 78 = σ 78 := u1 78 (by decide)
      obtain ⟨q1, q2, q3, q4, -⟩ := law_hi hR (σ1 := σ1) (fun a ha => u1 a (by omega))
      have mg := R_m_fault l (d + 11) σ1 q4
      rw [q8] at mg
      refine g_al2 (pc2 := 169) dL_law_168 rfl ?_
      refine g_callV (pc2 := 172) (mg) meX8_fault mlL_26 (by rfl) ⟨_, rfl, rfl⟩ rfl rfl (by simp) ⟨h1, h2⟩ dL_law_169 rfl ?_
      rintro r2 sh2 σ2 ⟨rfl, rfl, u2⟩
      refine g_icmp_eq 668 175 dL_law_172 rfl rfl (fun _ => ?_) (fun h => absurd rfl h)
      exact nxt _ (hR.fault u1 u2)
    refine g_al1 (pc2 := 165) dL_law_164 rfl ?_
    refine g_callV (pc2 := 168) (R_c_fault l (d + 12) lt_SM σ hTC (begRow_beg (σ 78))) meX7_fault mlL_23 (by rfl) ⟨_, rfl, rfl⟩ rfl rfl (by simp) ⟨h1, h2⟩ dL_law_165 rfl ?_
    rintro r1 sh1 σ1 ⟨rfl, rfl, u1⟩
    exact go σ1 u1
  · refine g_tableIn 177 dL_law_32 (by decide) (by decide) (off := 145) (by decide) rfl ?_
    have cg := R_c_lay l (d + 12) lt_SM σ hTC ((begRow_beg (σ 78)).pat (σ 77))
    rw [pat_M (begRow_beg (σ 78)) (σ 77)] at cg
    have mgx := fun (σ1 : lt_S) (hT : TX σ1 n tx) => R_m_lay l (d + 11) σ1 hT
    have mgy : ∀ σ1 : lt_S, TX σ1 n tx → σ1 78 = σ 78 → σ1 77 = σ 77 → lt_R l (d + 19) 0 0 mX8_lay lt_SA σ1 [.ref 76] (fun r sh' σ' => r = some (if layOk (parseM tx n (begRow (σ 78))) then (parseM tx n (begRow (σ 78))).2 2 else -2) ∧ sh' = lt_SA ∧ (if layOk (parseM tx n (begRow (σ 78))) then ∃ σ1m, PR σ1 σ1m ∧ σ' = lt_up (lt_ur σ1m 77 (pat (parseM tx n (begRow (σ 78))).2 (σ 77))) 76 3 (nI 0) else PR σ1 σ')) := by
      intro σ1 h1 h2 h3
      have := mgx σ1 h1
      rw [h2, h3] at this
      rw [cpy_pat] at this
      exact this
    clear mgx
    generalize parseM tx n (begRow (σ 78)) = q at cg mgy
    have eL : layOk (q.1, pat q.2 (σ 77)) = layOk q := by unfold layOk; rw [show (q.1, pat q.2 (σ 77)).2 0 = q.2 0 from pat_in q.2 (σ 77) (j := 0) (by decide)]
    rw [eL] at cg
    cases hb : layOk q with
    | false =>
      rw [hb] at cg mgy
      have go : ∀ σ1, PF25 σ σ1 → lt_G l (d + 20) 600000 7302250 mL ck cn lt_SA σ1 181 [some (.ref 0), some (.ref 10), some (.ref 76), some (.int (nI k))] [.int (-2)] QL := by
        intro σ1 u1
        obtain ⟨q1, q2, q3, q4, -⟩ := law_hi hR (σ1 := σ1) (fun a ha => u1 a (by omega))
        refine g_al2 (pc2 := 182) dL_law_181 rfl ?_
        refine g_callV (pc2 := 185) (mgy σ1 q4 (u1 78 (by decide)) q1) meX8_lay mlL_30 (by rfl) ⟨_, rfl, rfl⟩ rfl rfl (by simp) ⟨h1, h2⟩ dL_law_182 rfl ?_
        rintro r2 sh2 σ2 ⟨rfl, rfl, u2⟩
        refine g_icmp_eq 668 188 dL_law_185 rfl rfl (fun _ => ?_) (fun h => absurd rfl h)
        exact nxt _ (hR.fault u1 u2)
      refine g_al1 (pc2 := 178) dL_law_177 rfl ?_
      refine g_callV (pc2 := 181) (cg) meX7_lay mlL_27 (by rfl) ⟨_, rfl, rfl⟩ rfl rfl (by simp) ⟨h1, h2⟩ dL_law_178 rfl ?_
      rintro r1 sh1 σ1 ⟨rfl, rfl, u1⟩
      exact go σ1 u1
    | true =>
      rw [hb] at cg mgy
      have go : ∀ σ1 σa ln' T' N', Wf (pat q.2 (σ 77)) ln' T' N' → PF σ σa → CR23 σa (pat q.2 (σ 77)) → σ1 = lt_up (S_work σa (pat q.2 (σ 77)) T' N') 44 2 (nI 0) → lt_G l (d + 20) 600000 7302250 mL ck cn lt_SA σ1 181 [some (.ref 0), some (.ref 10), some (.ref 76), some (.int (nI k))] [.int (pat q.2 (σ 77) 2)] QL := by
        intro σ1 σa ln' T' N' v1 v2 v3 v4
        have hi : ∀ a, 76 ≤ a → σ1 a = σ a := fun a ha => by rw [v4, lt_up_nr _ _ _ (by omega), S_work_ne _ _ _ _ (by omega)]; exact v2 a (by omega)
        obtain ⟨q1, q2, q3, q4, -⟩ := law_hi hR hi
        rw [pat_in q.2 (σ 77) (show 2 < 65 by decide)]
        refine g_al2 (pc2 := 182) dL_law_181 rfl ?_
        refine g_callV (pc2 := 185) (mgy σ1 q4 (hi 78 (by decide)) q1) meX8_lay mlL_30 (by rfl) ⟨_, rfl, rfl⟩ rfl rfl (by simp) ⟨h1, h2⟩ dL_law_182 rfl ?_
        rintro r2 sh2 σ2 ⟨rfl, rfl, σ1m, u2, u3⟩
        refine g_icmp_eq 668 188 dL_law_185 rfl rfl (fun _ => ?_) (fun h => absurd rfl h)
        exact nxt _ (hR.lay v1 v2 v3 v4 u2 u3)
      refine g_al1 (pc2 := 178) dL_law_177 rfl ?_
      refine g_callV (pc2 := 181) (cg) meX7_lay mlL_27 (by rfl) ⟨_, rfl, rfl⟩ rfl rfl (by simp) ⟨h1, h2⟩ dL_law_178 rfl ?_
      rintro r1 sh1 σ1 ⟨rfl, rfl, ln', T', N', σa, v1, v2, v3, v4⟩
      exact go σ1 σa ln' T' N' v1 v2 v3 v4
  · refine g_tableIn 190 dL_law_32 (by decide) (by decide) (off := 158) (by decide) rfl ?_
    refine g_al1 (pc2 := 191) dL_law_190 rfl ?_
    refine g_al0 (pc2 := 192) dL_law_191 rfl ?_
    refine g_il3 (pc2 := 193) dL_law_192 rfl ?_
    refine g_iconst (pc2 := 194) dL_law_193 k_iconst_1 rfl ?_
    refine g_iaddN (pc2 := 195) dL_law_194 rfl ?_
    refine g_xald (pc2 := 196) (by omega) (by omega) dL_law_195 rfl ?_
    refine g_al0 (pc2 := 197) dL_law_196 rfl ?_
    refine g_il3 (pc2 := 198) dL_law_197 rfl ?_
    refine g_iconst (pc2 := 199) dL_law_198 k_iconst_2 rfl ?_
    refine g_iaddN (pc2 := 200) dL_law_199 rfl ?_
    refine g_xald (pc2 := 201) (by omega) (by omega) dL_law_200 rfl ?_
    refine g_cVi (pc2 := 204) (R_c_route l (d + 17) lt_SM σ hcc _ _) meX7_route mlL_31 (by rfl) ⟨_, rfl, rfl⟩ rfl rfl (by simp) ⟨h1, h2⟩ dL_law_201 rfl ?_
    refine g_al2 (pc2 := 205) dL_law_204 rfl ?_
    refine g_al0 (pc2 := 206) dL_law_205 rfl ?_
    refine g_il3 (pc2 := 207) dL_law_206 rfl ?_
    refine g_iconst (pc2 := 208) dL_law_207 k_iconst_1 rfl ?_
    refine g_iaddN (pc2 := 209) dL_law_208 rfl ?_
    refine g_xald (pc2 := 210) (by omega) (by omega) dL_law_209 rfl ?_
    refine g_al0 (pc2 := 211) dL_law_210 rfl ?_
    refine g_il3 (pc2 := 212) dL_law_211 rfl ?_
    refine g_iconst (pc2 := 213) dL_law_212 k_iconst_2 rfl ?_
    refine g_iaddN (pc2 := 214) dL_law_213 rfl ?_
    refine g_xald (pc2 := 215) (by omega) (by omega) dL_law_214 rfl ?_
    refine g_cVi (pc2 := 218) (R_m_route l (d + 16) σ hw _ _) meX8_route mlL_35 (by rfl) ⟨_, rfl, rfl⟩ rfl rfl (by simp) ⟨h1, h2⟩ dL_law_215 rfl ?_
    refine g_icmp_eq 668 221 dL_law_218 rfl rfl (fun h218 => ?_) (fun h218 => ?_)
    · exact nxt _ hrel0
    · exact absurd rfl h218
  · refine g_tableIn 223 dL_law_32 (by decide) (by decide) (off := 191) (by decide) rfl ?_
    refine g_al1 (pc2 := 224) dL_law_223 rfl ?_
    refine g_al0 (pc2 := 225) dL_law_224 rfl ?_
    refine g_il3 (pc2 := 226) dL_law_225 rfl ?_
    refine g_iconst (pc2 := 227) dL_law_226 k_iconst_1 rfl ?_
    refine g_iaddN (pc2 := 228) dL_law_227 rfl ?_
    refine g_xald (pc2 := 229) (by omega) (by omega) dL_law_228 rfl ?_
    refine g_al0 (pc2 := 230) dL_law_229 rfl ?_
    refine g_il3 (pc2 := 231) dL_law_230 rfl ?_
    refine g_iconst (pc2 := 232) dL_law_231 k_iconst_2 rfl ?_
    refine g_iaddN (pc2 := 233) dL_law_232 rfl ?_
    refine g_xald (pc2 := 234) (by omega) (by omega) dL_law_233 rfl ?_
    refine g_cVi (pc2 := 237) (R_c_train l (d + 14) lt_SM σ hcc _ _) meX7_train mlL_36 (by rfl) ⟨_, rfl, rfl⟩ rfl rfl (by simp) ⟨h1, h2⟩ dL_law_234 rfl ?_
    refine g_al2 (pc2 := 238) dL_law_237 rfl ?_
    refine g_al0 (pc2 := 239) dL_law_238 rfl ?_
    refine g_il3 (pc2 := 240) dL_law_239 rfl ?_
    refine g_iconst (pc2 := 241) dL_law_240 k_iconst_1 rfl ?_
    refine g_iaddN (pc2 := 242) dL_law_241 rfl ?_
    refine g_xald (pc2 := 243) (by omega) (by omega) dL_law_242 rfl ?_
    refine g_al0 (pc2 := 244) dL_law_243 rfl ?_
    refine g_il3 (pc2 := 245) dL_law_244 rfl ?_
    refine g_iconst (pc2 := 246) dL_law_245 k_iconst_2 rfl ?_
    refine g_iaddN (pc2 := 247) dL_law_246 rfl ?_
    refine g_xald (pc2 := 248) (by omega) (by omega) dL_law_247 rfl ?_
    refine g_cVi (pc2 := 251) (R_m_train l (d + 12) σ hw _ _) meX8_train mlL_39 (by rfl) ⟨_, rfl, rfl⟩ rfl rfl (by simp) ⟨h1, h2⟩ dL_law_248 rfl ?_
    refine g_icmp_eq 668 254 dL_law_251 rfl rfl (fun h251 => ?_) (fun h251 => ?_)
    · exact nxt _ hrel0
    · exact absurd rfl h251
  · refine g_tableIn 256 dL_law_32 (by decide) (by decide) (off := 224) (by decide) rfl ?_
    have cg := R_c_give l (d + 15) lt_SM σ hcc hkp (l.2.2 (k + 1)) (l.2.2 (k + 2))
    have rel := hR.give (l.2.2 (k + 1)) (l.2.2 (k + 2))
    have hi : ∀ a, 76 ≤ a → (if ok_give (σ 77) (l.2.2 (k + 1)) (l.2.2 (k + 2)) && can_give (σ 77) (tN (l.2.2 (k + 1))) (tN (l.2.2 (k + 2))) then lt_up (S_ckeep σ nx c) 22 (tN (l.2.2 (k + 1))) (l.2.2 (k + 2)) else σ) a = σ a := by
      intro a ha
      refine if_hi ?_
      rw [lt_up_nr _ _ _ (by omega), S_ckeep_ne σ (by omega) hx]
    generalize (if ok_give (σ 77) (l.2.2 (k + 1)) (l.2.2 (k + 2)) && can_give (σ 77) (tN (l.2.2 (k + 1))) (tN (l.2.2 (k + 2))) then lt_up (S_ckeep σ nx c) 22 (tN (l.2.2 (k + 1))) (l.2.2 (k + 2)) else σ) = σ1 at cg rel hi
    obtain ⟨q1, q2, q3, -, -⟩ := law_hi hR hi
    refine g_al1 (pc2 := 257) dL_law_256 rfl ?_
    refine g_al0 (pc2 := 258) dL_law_257 rfl ?_
    refine g_il3 (pc2 := 259) dL_law_258 rfl ?_
    refine g_iconst (pc2 := 260) dL_law_259 k_iconst_1 rfl ?_
    refine g_iaddN (pc2 := 261) dL_law_260 rfl ?_
    refine g_xald (pc2 := 262) (by omega) (by omega) dL_law_261 rfl ?_
    refine g_al0 (pc2 := 263) dL_law_262 rfl ?_
    refine g_il3 (pc2 := 264) dL_law_263 rfl ?_
    refine g_iconst (pc2 := 265) dL_law_264 k_iconst_2 rfl ?_
    refine g_iaddN (pc2 := 266) dL_law_265 rfl ?_
    refine g_xald (pc2 := 267) (by omega) (by omega) dL_law_266 rfl ?_
    refine g_cVi (pc2 := 270) (cg) meX7_give mlL_40 (by rfl) ⟨_, rfl, rfl⟩ rfl rfl (by simp) ⟨h1, h2⟩ dL_law_267 rfl ?_
    refine g_al2 (pc2 := 271) dL_law_270 rfl ?_
    refine g_al0 (pc2 := 272) dL_law_271 rfl ?_
    refine g_il3 (pc2 := 273) dL_law_272 rfl ?_
    refine g_iconst (pc2 := 274) dL_law_273 k_iconst_1 rfl ?_
    refine g_iaddN (pc2 := 275) dL_law_274 rfl ?_
    refine g_xald (pc2 := 276) (by omega) (by omega) dL_law_275 rfl ?_
    refine g_al0 (pc2 := 277) dL_law_276 rfl ?_
    refine g_il3 (pc2 := 278) dL_law_277 rfl ?_
    refine g_iconst (pc2 := 279) dL_law_278 k_iconst_2 rfl ?_
    refine g_iaddN (pc2 := 280) dL_law_279 rfl ?_
    refine g_xald (pc2 := 281) (by omega) (by omega) dL_law_280 rfl ?_
    refine g_cVi (pc2 := 284) (R_m_give l (d + 13) σ1 q2 q3 hc6 _ _) meX8_give mlL_43 (by rfl) ⟨_, rfl, rfl⟩ rfl rfl (by simp) ⟨h1, h2⟩ dL_law_281 rfl ?_
    refine g_icmp_eq 668 287 dL_law_284 rfl rfl (fun h284 => ?_) (fun h284 => ?_)
    · exact nxt _ rel
    · exact absurd (by rw [q1]) h284
  · refine g_tableIn 289 dL_law_32 (by decide) (by decide) (off := 257) (by decide) rfl ?_
    have cg := R_c_take l (d + 16) lt_SM σ hcc hkp (l.2.2 (k + 1))
    have rel := hR.take (l.2.2 (k + 1))
    have hi : ∀ a, 76 ≤ a → (if hasB (l.2.2 (k + 1)) (σ 77 2) && !decide (σ 77 (16 + 7 * tN (l.2.2 (k + 1)) + 6) = -4) then lt_up (S_ckeep σ nx c) 22 (tN (l.2.2 (k + 1))) (-4) else σ) a = σ a := by
      intro a ha
      refine if_hi ?_
      rw [lt_up_nr _ _ _ (by omega), S_ckeep_ne σ (by omega) hx]
    generalize (if hasB (l.2.2 (k + 1)) (σ 77 2) && !decide (σ 77 (16 + 7 * tN (l.2.2 (k + 1)) + 6) = -4) then lt_up (S_ckeep σ nx c) 22 (tN (l.2.2 (k + 1))) (-4) else σ) = σ1 at cg rel hi
    obtain ⟨q1, q2, q3, -, -⟩ := law_hi hR hi
    refine g_al1 (pc2 := 290) dL_law_289 rfl ?_
    refine g_al0 (pc2 := 291) dL_law_290 rfl ?_
    refine g_il3 (pc2 := 292) dL_law_291 rfl ?_
    refine g_iconst (pc2 := 293) dL_law_292 k_iconst_1 rfl ?_
    refine g_iaddN (pc2 := 294) dL_law_293 rfl ?_
    refine g_xald (pc2 := 295) (by omega) (by omega) dL_law_294 rfl ?_
    refine g_cVi (pc2 := 298) (cg) meX7_take mlL_44 (by rfl) ⟨_, rfl, rfl⟩ rfl rfl (by simp) ⟨h1, h2⟩ dL_law_295 rfl ?_
    refine g_al2 (pc2 := 299) dL_law_298 rfl ?_
    refine g_al0 (pc2 := 300) dL_law_299 rfl ?_
    refine g_il3 (pc2 := 301) dL_law_300 rfl ?_
    refine g_iconst (pc2 := 302) dL_law_301 k_iconst_1 rfl ?_
    refine g_iaddN (pc2 := 303) dL_law_302 rfl ?_
    refine g_xald (pc2 := 304) (by omega) (by omega) dL_law_303 rfl ?_
    refine g_cVi (pc2 := 307) (R_m_take l (d + 16) σ1 q2 q3 hc6 _) meX8_take mlL_47 (by rfl) ⟨_, rfl, rfl⟩ rfl rfl (by simp) ⟨h1, h2⟩ dL_law_304 rfl ?_
    refine g_icmp_eq 668 310 dL_law_307 rfl rfl (fun h307 => ?_) (fun h307 => ?_)
    · exact nxt _ rel
    · exact absurd (by rw [q1]) h307
  · refine g_tableIn 312 dL_law_32 (by decide) (by decide) (off := 280) (by decide) rfl ?_
    refine g_al1 (pc2 := 313) dL_law_312 rfl ?_
    refine g_al0 (pc2 := 314) dL_law_313 rfl ?_
    refine g_il3 (pc2 := 315) dL_law_314 rfl ?_
    refine g_iconst (pc2 := 316) dL_law_315 k_iconst_1 rfl ?_
    refine g_iaddN (pc2 := 317) dL_law_316 rfl ?_
    refine g_xald (pc2 := 318) (by omega) (by omega) dL_law_317 rfl ?_
    refine g_al0 (pc2 := 319) dL_law_318 rfl ?_
    refine g_il3 (pc2 := 320) dL_law_319 rfl ?_
    refine g_iconst (pc2 := 321) dL_law_320 k_iconst_2 rfl ?_
    refine g_iaddN (pc2 := 322) dL_law_321 rfl ?_
    refine g_xald (pc2 := 323) (by omega) (by omega) dL_law_322 rfl ?_
    refine g_cVi (pc2 := 326) (R_c_why l (d + 16) lt_SM σ hcc _ _) meX7_why mlL_48 (by rfl) ⟨_, rfl, rfl⟩ rfl rfl (by simp) ⟨h1, h2⟩ dL_law_323 rfl ?_
    refine g_al2 (pc2 := 327) dL_law_326 rfl ?_
    refine g_al0 (pc2 := 328) dL_law_327 rfl ?_
    refine g_il3 (pc2 := 329) dL_law_328 rfl ?_
    refine g_iconst (pc2 := 330) dL_law_329 k_iconst_1 rfl ?_
    refine g_iaddN (pc2 := 331) dL_law_330 rfl ?_
    refine g_xald (pc2 := 332) (by omega) (by omega) dL_law_331 rfl ?_
    refine g_al0 (pc2 := 333) dL_law_332 rfl ?_
    refine g_il3 (pc2 := 334) dL_law_333 rfl ?_
    refine g_iconst (pc2 := 335) dL_law_334 k_iconst_2 rfl ?_
    refine g_iaddN (pc2 := 336) dL_law_335 rfl ?_
    refine g_xald (pc2 := 337) (by omega) (by omega) dL_law_336 rfl ?_
    refine g_cVi (pc2 := 340) (R_m_why l (d + 13) σ hw _ _) meX8_why mlL_51 (by rfl) ⟨_, rfl, rfl⟩ rfl rfl (by simp) ⟨h1, h2⟩ dL_law_337 rfl ?_
    refine g_icmp_eq 668 343 dL_law_340 rfl rfl (fun h340 => ?_) (fun h340 => ?_)
    · exact nxt _ hrel0
    · exact absurd rfl h340
  · refine g_tableIn 345 dL_law_32 (by decide) (by decide) (off := 313) (by decide) rfl ?_
    refine g_al1 (pc2 := 346) dL_law_345 rfl ?_
    refine g_al0 (pc2 := 347) dL_law_346 rfl ?_
    refine g_il3 (pc2 := 348) dL_law_347 rfl ?_
    refine g_iconst (pc2 := 349) dL_law_348 k_iconst_1 rfl ?_
    refine g_iaddN (pc2 := 350) dL_law_349 rfl ?_
    refine g_xald (pc2 := 351) (by omega) (by omega) dL_law_350 rfl ?_
    refine g_al0 (pc2 := 352) dL_law_351 rfl ?_
    refine g_il3 (pc2 := 353) dL_law_352 rfl ?_
    refine g_iconst (pc2 := 354) dL_law_353 k_iconst_2 rfl ?_
    refine g_iaddN (pc2 := 355) dL_law_354 rfl ?_
    refine g_xald (pc2 := 356) (by omega) (by omega) dL_law_355 rfl ?_
    refine g_al0 (pc2 := 357) dL_law_356 rfl ?_
    refine g_il3 (pc2 := 358) dL_law_357 rfl ?_
    refine g_iconst (pc2 := 359) dL_law_358 k_iconst_3 rfl ?_
    refine g_iaddN (pc2 := 360) dL_law_359 rfl ?_
    refine g_xald (pc2 := 361) (by omega) (by omega) dL_law_360 rfl ?_
    refine g_al0 (pc2 := 362) dL_law_361 rfl ?_
    refine g_il3 (pc2 := 363) dL_law_362 rfl ?_
    refine g_iconst (pc2 := 364) dL_law_363 k_iconst_4 rfl ?_
    refine g_iaddN (pc2 := 365) dL_law_364 rfl ?_
    refine g_xald (pc2 := 366) (by omega) (by omega) dL_law_365 rfl ?_
    refine g_cVi (pc2 := 369) (R_c_clash l (d + 15) lt_SM σ hcc _ _ _ _) meX7_clash mlL_52 (by rfl) ⟨_, rfl, rfl⟩ rfl rfl (by simp) ⟨h1, h2⟩ dL_law_366 rfl ?_
    refine g_al2 (pc2 := 370) dL_law_369 rfl ?_
    refine g_al0 (pc2 := 371) dL_law_370 rfl ?_
    refine g_il3 (pc2 := 372) dL_law_371 rfl ?_
    refine g_iconst (pc2 := 373) dL_law_372 k_iconst_1 rfl ?_
    refine g_iaddN (pc2 := 374) dL_law_373 rfl ?_
    refine g_xald (pc2 := 375) (by omega) (by omega) dL_law_374 rfl ?_
    refine g_al0 (pc2 := 376) dL_law_375 rfl ?_
    refine g_il3 (pc2 := 377) dL_law_376 rfl ?_
    refine g_iconst (pc2 := 378) dL_law_377 k_iconst_2 rfl ?_
    refine g_iaddN (pc2 := 379) dL_law_378 rfl ?_
    refine g_xald (pc2 := 380) (by omega) (by omega) dL_law_379 rfl ?_
    refine g_al0 (pc2 := 381) dL_law_380 rfl ?_
    refine g_il3 (pc2 := 382) dL_law_381 rfl ?_
    refine g_iconst (pc2 := 383) dL_law_382 k_iconst_3 rfl ?_
    refine g_iaddN (pc2 := 384) dL_law_383 rfl ?_
    refine g_xald (pc2 := 385) (by omega) (by omega) dL_law_384 rfl ?_
    refine g_al0 (pc2 := 386) dL_law_385 rfl ?_
    refine g_il3 (pc2 := 387) dL_law_386 rfl ?_
    refine g_iconst (pc2 := 388) dL_law_387 k_iconst_4 rfl ?_
    refine g_iaddN (pc2 := 389) dL_law_388 rfl ?_
    refine g_xald (pc2 := 390) (by omega) (by omega) dL_law_389 rfl ?_
    refine g_cVi (pc2 := 393) (R_m_clash l (d + 15) σ hw _ _ _ _) meX8_clash mlL_56 (by rfl) ⟨_, rfl, rfl⟩ rfl rfl (by simp) ⟨h1, h2⟩ dL_law_390 rfl ?_
    refine g_icmp_eq 668 396 dL_law_393 rfl rfl (fun h393 => ?_) (fun h393 => ?_)
    · exact nxt _ hrel0
    · exact absurd rfl h393
  · refine g_tableIn 398 dL_law_32 (by decide) (by decide) (off := 366) (by decide) rfl ?_
    have cg := R_c_late l (d + 13) lt_SM σ hcc hkp (l.2.2 (k + 1)) (l.2.2 (k + 2))
    have rel := hR.late (l.2.2 (k + 1)) (l.2.2 (k + 2))
    have hi : ∀ a, 76 ≤ a → (if ok_late (σ 77) (l.2.2 (k + 1)) (l.2.2 (k + 2)) && can_late (σ 77) (tN (l.2.2 (k + 1))) (l.2.2 (k + 2)) then S_clate σ nx c (σ 77) T N (tN (l.2.2 (k + 1))) (l.2.2 (k + 2)) else σ) a = σ a := by
      intro a ha
      refine if_hi ?_
      unfold S_clate
      split
      · rw [lt_up_nr _ _ _ (by omega), S_work_ne _ _ _ _ (by omega), S_clate1_far σ _ _ _ hx (by omega) (by omega) (by omega)]
      · rw [S_work_ne _ _ _ _ (by omega), S_clate1_far σ _ _ _ hx (by omega) (by omega) (by omega)]
    generalize (if ok_late (σ 77) (l.2.2 (k + 1)) (l.2.2 (k + 2)) && can_late (σ 77) (tN (l.2.2 (k + 1))) (l.2.2 (k + 2)) then S_clate σ nx c (σ 77) T N (tN (l.2.2 (k + 1))) (l.2.2 (k + 2)) else σ) = σ1 at cg rel hi
    obtain ⟨q1, q2, q3, -, -⟩ := law_hi hR hi
    refine g_al1 (pc2 := 399) dL_law_398 rfl ?_
    refine g_al0 (pc2 := 400) dL_law_399 rfl ?_
    refine g_il3 (pc2 := 401) dL_law_400 rfl ?_
    refine g_iconst (pc2 := 402) dL_law_401 k_iconst_1 rfl ?_
    refine g_iaddN (pc2 := 403) dL_law_402 rfl ?_
    refine g_xald (pc2 := 404) (by omega) (by omega) dL_law_403 rfl ?_
    refine g_al0 (pc2 := 405) dL_law_404 rfl ?_
    refine g_il3 (pc2 := 406) dL_law_405 rfl ?_
    refine g_iconst (pc2 := 407) dL_law_406 k_iconst_2 rfl ?_
    refine g_iaddN (pc2 := 408) dL_law_407 rfl ?_
    refine g_xald (pc2 := 409) (by omega) (by omega) dL_law_408 rfl ?_
    refine g_cVi (pc2 := 412) (cg) meX7_late mlL_57 (by rfl) ⟨_, rfl, rfl⟩ rfl rfl (by simp) ⟨h1, h2⟩ dL_law_409 rfl ?_
    refine g_al2 (pc2 := 413) dL_law_412 rfl ?_
    refine g_al0 (pc2 := 414) dL_law_413 rfl ?_
    refine g_il3 (pc2 := 415) dL_law_414 rfl ?_
    refine g_iconst (pc2 := 416) dL_law_415 k_iconst_1 rfl ?_
    refine g_iaddN (pc2 := 417) dL_law_416 rfl ?_
    refine g_xald (pc2 := 418) (by omega) (by omega) dL_law_417 rfl ?_
    refine g_al0 (pc2 := 419) dL_law_418 rfl ?_
    refine g_il3 (pc2 := 420) dL_law_419 rfl ?_
    refine g_iconst (pc2 := 421) dL_law_420 k_iconst_2 rfl ?_
    refine g_iaddN (pc2 := 422) dL_law_421 rfl ?_
    refine g_xald (pc2 := 423) (by omega) (by omega) dL_law_422 rfl ?_
    refine g_cVi (pc2 := 426) (R_m_late l (d + 14) σ1 q2 q3 hc6 _ _) meX8_late mlL_60 (by rfl) ⟨_, rfl, rfl⟩ rfl rfl (by simp) ⟨h1, h2⟩ dL_law_423 rfl ?_
    refine g_icmp_eq 668 429 dL_law_426 rfl rfl (fun h426 => ?_) (fun h426 => ?_)
    · exact nxt _ rel
    · exact absurd (by rw [q1]) h426
  · refine g_tableIn 431 dL_law_32 (by decide) (by decide) (off := 399) (by decide) rfl ?_
    have cg := R_c_wish l (d + 16) lt_SM σ hcc hkp (l.2.2 (k + 1)) (l.2.2 (k + 2))
    have rel := hR.wish (l.2.2 (k + 1)) (l.2.2 (k + 2))
    have hi : ∀ a, 76 ≤ a → (if ok_wish (σ 77) (l.2.2 (k + 1)) (l.2.2 (k + 2)) && !decide (σ 77 (16 + 7 * tN (l.2.2 (k + 1)) + 4) = (if (l.2.2 (k + 2)) = nI 9 then -4 else (l.2.2 (k + 2)))) then lt_up (S_ckeep σ nx c) 21 (tN (l.2.2 (k + 1))) (l.2.2 (k + 2)) else σ) a = σ a := by
      intro a ha
      refine if_hi ?_
      rw [lt_up_nr _ _ _ (by omega), S_ckeep_ne σ (by omega) hx]
    generalize (if ok_wish (σ 77) (l.2.2 (k + 1)) (l.2.2 (k + 2)) && !decide (σ 77 (16 + 7 * tN (l.2.2 (k + 1)) + 4) = (if (l.2.2 (k + 2)) = nI 9 then -4 else (l.2.2 (k + 2)))) then lt_up (S_ckeep σ nx c) 21 (tN (l.2.2 (k + 1))) (l.2.2 (k + 2)) else σ) = σ1 at cg rel hi
    obtain ⟨q1, q2, q3, -, -⟩ := law_hi hR hi
    refine g_al1 (pc2 := 432) dL_law_431 rfl ?_
    refine g_al0 (pc2 := 433) dL_law_432 rfl ?_
    refine g_il3 (pc2 := 434) dL_law_433 rfl ?_
    refine g_iconst (pc2 := 435) dL_law_434 k_iconst_1 rfl ?_
    refine g_iaddN (pc2 := 436) dL_law_435 rfl ?_
    refine g_xald (pc2 := 437) (by omega) (by omega) dL_law_436 rfl ?_
    refine g_al0 (pc2 := 438) dL_law_437 rfl ?_
    refine g_il3 (pc2 := 439) dL_law_438 rfl ?_
    refine g_iconst (pc2 := 440) dL_law_439 k_iconst_2 rfl ?_
    refine g_iaddN (pc2 := 441) dL_law_440 rfl ?_
    refine g_xald (pc2 := 442) (by omega) (by omega) dL_law_441 rfl ?_
    refine g_cVi (pc2 := 445) (cg) meX7_wish mlL_61 (by rfl) ⟨_, rfl, rfl⟩ rfl rfl (by simp) ⟨h1, h2⟩ dL_law_442 rfl ?_
    refine g_al2 (pc2 := 446) dL_law_445 rfl ?_
    refine g_al0 (pc2 := 447) dL_law_446 rfl ?_
    refine g_il3 (pc2 := 448) dL_law_447 rfl ?_
    refine g_iconst (pc2 := 449) dL_law_448 k_iconst_1 rfl ?_
    refine g_iaddN (pc2 := 450) dL_law_449 rfl ?_
    refine g_xald (pc2 := 451) (by omega) (by omega) dL_law_450 rfl ?_
    refine g_al0 (pc2 := 452) dL_law_451 rfl ?_
    refine g_il3 (pc2 := 453) dL_law_452 rfl ?_
    refine g_iconst (pc2 := 454) dL_law_453 k_iconst_2 rfl ?_
    refine g_iaddN (pc2 := 455) dL_law_454 rfl ?_
    refine g_xald (pc2 := 456) (by omega) (by omega) dL_law_455 rfl ?_
    refine g_cVi (pc2 := 459) (R_m_wish l (d + 16) σ1 q2 q3 hc6 _ _) meX8_wish mlL_64 (by rfl) ⟨_, rfl, rfl⟩ rfl rfl (by simp) ⟨h1, h2⟩ dL_law_456 rfl ?_
    refine g_icmp_eq 668 462 dL_law_459 rfl rfl (fun h459 => ?_) (fun h459 => ?_)
    · exact nxt _ rel
    · exact absurd (by rw [q1]) h459
  · refine g_tableIn 464 dL_law_32 (by decide) (by decide) (off := 432) (by decide) rfl ?_
    have go : ∀ σ1, Scrc σ σ1 → σ1 77 = σ 77 → lt_G l (d + 20) 600000 7302250 mL ck cn lt_SA σ1 478 [some (.ref 0), some (.ref 10), some (.ref 76), some (.int (nI k))] [.int (F_way (σ 77) T N (l.2.2 (k + 1)) (l.2.2 (k + 2)))] QL := by
      intro σ1 u1 q1
      have mg := R_m_way l (d + 13) σ1 (by rw [q1]; exact hw) (l.2.2 (k + 1)) (l.2.2 (k + 2))
      rw [q1] at mg
      refine g_al2 (pc2 := 479) dL_law_478 rfl ?_
      refine g_al0 (pc2 := 480) dL_law_479 rfl ?_
      refine g_il3 (pc2 := 481) dL_law_480 rfl ?_
      refine g_iconst (pc2 := 482) dL_law_481 k_iconst_1 rfl ?_
      refine g_iaddN (pc2 := 483) dL_law_482 rfl ?_
      refine g_xald (pc2 := 484) (by omega) (by omega) dL_law_483 rfl ?_
      refine g_al0 (pc2 := 485) dL_law_484 rfl ?_
      refine g_il3 (pc2 := 486) dL_law_485 rfl ?_
      refine g_iconst (pc2 := 487) dL_law_486 k_iconst_2 rfl ?_
      refine g_iaddN (pc2 := 488) dL_law_487 rfl ?_
      refine g_xald (pc2 := 489) (by omega) (by omega) dL_law_488 rfl ?_
      refine g_callV (pc2 := 492) (mg) meX8_way mlL_68 (by rfl) ⟨_, rfl, rfl⟩ rfl rfl (by simp) ⟨h1, h2⟩ dL_law_489 rfl ?_
      rintro r2 sh2 σ2 ⟨rfl, rfl, u2⟩
      refine g_icmp_eq 668 495 dL_law_492 rfl rfl (fun _ => ?_) (fun h => absurd rfl h)
      exact nxt _ (hR.scratch u1 u2)
    refine g_al1 (pc2 := 465) dL_law_464 rfl ?_
    refine g_al0 (pc2 := 466) dL_law_465 rfl ?_
    refine g_il3 (pc2 := 467) dL_law_466 rfl ?_
    refine g_iconst (pc2 := 468) dL_law_467 k_iconst_1 rfl ?_
    refine g_iaddN (pc2 := 469) dL_law_468 rfl ?_
    refine g_xald (pc2 := 470) (by omega) (by omega) dL_law_469 rfl ?_
    refine g_al0 (pc2 := 471) dL_law_470 rfl ?_
    refine g_il3 (pc2 := 472) dL_law_471 rfl ?_
    refine g_iconst (pc2 := 473) dL_law_472 k_iconst_2 rfl ?_
    refine g_iaddN (pc2 := 474) dL_law_473 rfl ?_
    refine g_xald (pc2 := 475) (by omega) (by omega) dL_law_474 rfl ?_
    refine g_callV (pc2 := 478) (R_c_way l (d + 6) lt_SM σ hcc (l.2.2 (k + 1)) (l.2.2 (k + 2))) meX7_way mlL_65 (by rfl) ⟨_, rfl, rfl⟩ rfl rfl (by simp) ⟨h1, h2⟩ dL_law_475 rfl ?_
    rintro r1 sh1 σ1 ⟨rfl, rfl, u1⟩
    have q1 : σ1 77 = σ 77 := u1.1 77 (by decide)
    exact go σ1 u1 q1
  · refine g_tableIn 497 dL_law_32 (by decide) (by decide) (off := 465) (by decide) rfl ?_
    have cg := R_c_adopt l (d + 6) lt_SM σ hcc hkp (l.2.2 (k + 1))
    cases hb : hasB (l.2.2 (k + 1)) (nI 2) with
    | false =>
      rw [hb] at cg
      have mg := R_m_adopt l (d + 13) σ hw hR.2.2.2.2.1 hc6 (l.2.2 (k + 1))
      rw [hb] at mg
      have go : lt_G l (d + 20) 600000 7302250 mL ck cn lt_SA σ 506 [some (.ref 0), some (.ref 10), some (.ref 76), some (.int (nI k))] [.int (F_adopt (σ 77) T N (l.2.2 (k + 1)))] QL := by
        refine g_al2 (pc2 := 507) dL_law_506 rfl ?_
        refine g_al0 (pc2 := 508) dL_law_507 rfl ?_
        refine g_il3 (pc2 := 509) dL_law_508 rfl ?_
        refine g_iconst (pc2 := 510) dL_law_509 k_iconst_1 rfl ?_
        refine g_iaddN (pc2 := 511) dL_law_510 rfl ?_
        refine g_xald (pc2 := 512) (by omega) (by omega) dL_law_511 rfl ?_
        refine g_callV (pc2 := 515) (mg) meX8_adopt mlL_72 (by rfl) ⟨_, rfl, rfl⟩ rfl rfl (by simp) ⟨h1, h2⟩ dL_law_512 rfl ?_
        rintro r2 sh2 σ2 ⟨rfl, rfl, u2⟩
        rw [if_neg (by decide)] at u2
        subst u2
        refine g_icmp_eq 668 518 dL_law_515 rfl rfl (fun _ => ?_) (fun h => absurd rfl h)
        exact nxt _ hrel0
      refine g_al1 (pc2 := 498) dL_law_497 rfl ?_
      refine g_al0 (pc2 := 499) dL_law_498 rfl ?_
      refine g_il3 (pc2 := 500) dL_law_499 rfl ?_
      refine g_iconst (pc2 := 501) dL_law_500 k_iconst_1 rfl ?_
      refine g_iaddN (pc2 := 502) dL_law_501 rfl ?_
      refine g_xald (pc2 := 503) (by omega) (by omega) dL_law_502 rfl ?_
      refine g_callV (pc2 := 506) (cg) meX7_adopt mlL_69 (by rfl) ⟨_, rfl, rfl⟩ rfl rfl (by simp) ⟨h1, h2⟩ dL_law_503 rfl ?_
      rintro r1 sh1 σ1 ⟨rfl, rfl, u1⟩
      rw [if_neg (by decide)] at u1
      subst u1
      exact go
    | true =>
      rw [hb] at cg
      have go : ∀ σ2 σ1, Scrc σ σ1 → (∀ j, j < N → σ1 43 j = asT (wayG (σ 77) (l.2.2 (k + 1)) (nI 0) T N j)) → σ2 = lt_ur (S_ckeep σ1 nx c) 22 (va_cpy (σ1 43) (σ1 22) 0 0 N) → lt_G l (d + 20) 600000 7302250 mL ck cn lt_SA σ2 506 [some (.ref 0), some (.ref 10), some (.ref 76), some (.int (nI k))] [.int (F_adopt (σ 77) T N (l.2.2 (k + 1)))] QL := by
        intro σ2 σ1 u1 u2 u3
        have hi : ∀ a, 76 ≤ a → σ2 a = σ a := fun a ha => by rw [u3, lt_ur_ne _ _ (by omega), S_ckeep_ne σ1 (by omega) hx]; exact u1.1 a (by omega)
        obtain ⟨q1, q2, q3, -, -⟩ := law_hi hR hi
        have mg := R_m_adopt l (d + 13) σ2 q2 q3 hc6 (l.2.2 (k + 1))
        rw [hb] at mg
        have eF : F_adopt (σ 77) T N (l.2.2 (k + 1)) = F_adopt (σ2 77) T N (l.2.2 (k + 1)) := by rw [q1]
        rw [eF]
        refine g_al2 (pc2 := 507) dL_law_506 rfl ?_
        refine g_al0 (pc2 := 508) dL_law_507 rfl ?_
        refine g_il3 (pc2 := 509) dL_law_508 rfl ?_
        refine g_iconst (pc2 := 510) dL_law_509 k_iconst_1 rfl ?_
        refine g_iaddN (pc2 := 511) dL_law_510 rfl ?_
        refine g_xald (pc2 := 512) (by omega) (by omega) dL_law_511 rfl ?_
        refine g_callV (pc2 := 515) (mg) meX8_adopt mlL_72 (by rfl) ⟨_, rfl, rfl⟩ rfl rfl (by simp) ⟨h1, h2⟩ dL_law_512 rfl ?_
        rintro r2 sh2 σ3 ⟨rfl, rfl, v2⟩
        rw [if_pos rfl] at v2
        obtain ⟨σm, v3, v4⟩ := v2
        refine g_icmp_eq 668 518 dL_law_515 rfl rfl (fun _ => ?_) (fun h => absurd rfl h)
        exact nxt _ (hR.adopt (l.2.2 (k + 1)) u1 u2 u3 v3 v4)
      refine g_al1 (pc2 := 498) dL_law_497 rfl ?_
      refine g_al0 (pc2 := 499) dL_law_498 rfl ?_
      refine g_il3 (pc2 := 500) dL_law_499 rfl ?_
      refine g_iconst (pc2 := 501) dL_law_500 k_iconst_1 rfl ?_
      refine g_iaddN (pc2 := 502) dL_law_501 rfl ?_
      refine g_xald (pc2 := 503) (by omega) (by omega) dL_law_502 rfl ?_
      refine g_callV (pc2 := 506) (cg) meX7_adopt mlL_69 (by rfl) ⟨_, rfl, rfl⟩ rfl rfl (by simp) ⟨h1, h2⟩ dL_law_503 rfl ?_
      rintro r1 sh1 σ2 ⟨rfl, rfl, u1⟩
      rw [if_pos rfl] at u1
      obtain ⟨σ1, u2, u3, u4⟩ := u1
      exact go σ2 σ1 u2 u3 u4
  · refine g_tableIn 520 dL_law_32 (by decide) (by decide) (off := 488) (by decide) rfl ?_
    have go : ∀ σ1, Scrc σ σ1 → σ1 77 = σ 77 → lt_G l (d + 20) 600000 7302250 mL ck cn lt_SA σ1 529 [some (.ref 0), some (.ref 10), some (.ref 76), some (.int (nI k))] [.int (if hasB (l.2.2 (k + 1)) (nI 12) then nI (noneN (wayG (σ 77) (nI 0) (nI 1 <<< ((l.2.2 (k + 1)) &&& 31)) T N) N) else -1)] QL := by
      intro σ1 u1 q1
      have mg := R_m_without l (d + 13) σ1 (by rw [q1]; exact hw) (l.2.2 (k + 1))
      rw [q1] at mg
      refine g_al2 (pc2 := 530) dL_law_529 rfl ?_
      refine g_al0 (pc2 := 531) dL_law_530 rfl ?_
      refine g_il3 (pc2 := 532) dL_law_531 rfl ?_
      refine g_iconst (pc2 := 533) dL_law_532 k_iconst_1 rfl ?_
      refine g_iaddN (pc2 := 534) dL_law_533 rfl ?_
      refine g_xald (pc2 := 535) (by omega) (by omega) dL_law_534 rfl ?_
      refine g_callV (pc2 := 538) (mg) meX8_without mlL_76 (by rfl) ⟨_, rfl, rfl⟩ rfl rfl (by simp) ⟨h1, h2⟩ dL_law_535 rfl ?_
      rintro r2 sh2 σ2 ⟨rfl, rfl, u2⟩
      refine g_icmp_eq 668 541 dL_law_538 rfl rfl (fun _ => ?_) (fun h => absurd rfl h)
      exact nxt _ (hR.scratch u1 u2)
    refine g_al1 (pc2 := 521) dL_law_520 rfl ?_
    refine g_al0 (pc2 := 522) dL_law_521 rfl ?_
    refine g_il3 (pc2 := 523) dL_law_522 rfl ?_
    refine g_iconst (pc2 := 524) dL_law_523 k_iconst_1 rfl ?_
    refine g_iaddN (pc2 := 525) dL_law_524 rfl ?_
    refine g_xald (pc2 := 526) (by omega) (by omega) dL_law_525 rfl ?_
    refine g_callV (pc2 := 529) (R_c_without l (d + 6) lt_SM σ hcc (l.2.2 (k + 1))) meX7_without mlL_73 (by rfl) ⟨_, rfl, rfl⟩ rfl rfl (by simp) ⟨h1, h2⟩ dL_law_526 rfl ?_
    rintro r1 sh1 σ1 ⟨rfl, rfl, u1⟩
    have q1 : σ1 77 = σ 77 := u1.1 77 (by decide)
    exact go σ1 u1 q1
  · refine g_tableIn 543 dL_law_32 (by decide) (by decide) (off := 511) (by decide) rfl ?_
    have cg := R_c_undo l (d + 13) lt_SM σ (w' := (va_cpy (σ 79) (σ 77) (65 * (c - 1)) 0 65)) hcc hkp (fun hc => hR.prev hc)
    by_cases h0 : c = 0
    · rw [if_pos h0, if_pos h0] at cg
      have mg := R_m_undo l (d + 18) σ hR.2.2.2.2.1 hc6
      rw [if_pos h0, if_pos h0] at mg
      refine g_al1 (pc2 := 544) dL_law_543 rfl ?_
      refine g_cVi (pc2 := 547) (cg) meX7_undo mlL_77 (by rfl) ⟨_, rfl, rfl⟩ rfl rfl (by simp) ⟨h1, h2⟩ dL_law_544 rfl ?_
      refine g_al2 (pc2 := 548) dL_law_547 rfl ?_
      refine g_cVi (pc2 := 551) (mg) meX8_undo mlL_80 (by rfl) ⟨_, rfl, rfl⟩ rfl rfl (by simp) ⟨h1, h2⟩ dL_law_548 rfl ?_
      refine g_icmp_eq 668 554 dL_law_551 rfl rfl (fun h551 => ?_) (fun h551 => ?_)
      · exact nxt _ hrel0
      · exact absurd rfl h551
    · rw [if_neg h0, if_neg h0] at cg
      have rel := hR.undo (by omega)
      have hi : ∀ a, 76 ≤ a → S_work (S_cback σ nx c) (va_cpy (σ 79) (σ 77) (65 * (c - 1)) 0 65) T N a = σ a := by
        intro a ha
        rw [S_work_ne _ _ _ _ (by omega)]
        unfold S_cback
        rw [S_copy_ne _ _ _ (by omega), lt_up_nr _ _ _ (by omega), lt_up_nr _ _ _ (by omega)]
      generalize S_work (S_cback σ nx c) (va_cpy (σ 79) (σ 77) (65 * (c - 1)) 0 65) T N = σ1 at cg rel hi
      obtain ⟨q1, q2, q3, -, -⟩ := law_hi hR hi
      have mg := R_m_undo l (d + 18) σ1 q3 hc6
      rw [if_neg h0, if_neg h0] at mg
      refine g_al1 (pc2 := 544) dL_law_543 rfl ?_
      refine g_cVi (pc2 := 547) (cg) meX7_undo mlL_77 (by rfl) ⟨_, rfl, rfl⟩ rfl rfl (by simp) ⟨h1, h2⟩ dL_law_544 rfl ?_
      refine g_al2 (pc2 := 548) dL_law_547 rfl ?_
      refine g_cVi (pc2 := 551) (mg) meX8_undo mlL_80 (by rfl) ⟨_, rfl, rfl⟩ rfl rfl (by simp) ⟨h1, h2⟩ dL_law_548 rfl ?_
      refine g_icmp_eq 668 554 dL_law_551 rfl rfl (fun h551 => ?_) (fun h551 => ?_)
      · exact nxt _ rel
      · exact absurd rfl h551
  · refine g_tableIn 556 dL_law_32 (by decide) (by decide) (off := 524) (by decide) rfl ?_
    refine g_al1 (pc2 := 557) dL_law_556 rfl ?_
    refine g_al0 (pc2 := 558) dL_law_557 rfl ?_
    refine g_il3 (pc2 := 559) dL_law_558 rfl ?_
    refine g_iconst (pc2 := 560) dL_law_559 k_iconst_1 rfl ?_
    refine g_iaddN (pc2 := 561) dL_law_560 rfl ?_
    refine g_xald (pc2 := 562) (by omega) (by omega) dL_law_561 rfl ?_
    refine g_al0 (pc2 := 563) dL_law_562 rfl ?_
    refine g_il3 (pc2 := 564) dL_law_563 rfl ?_
    refine g_iconst (pc2 := 565) dL_law_564 k_iconst_2 rfl ?_
    refine g_iaddN (pc2 := 566) dL_law_565 rfl ?_
    refine g_xald (pc2 := 567) (by omega) (by omega) dL_law_566 rfl ?_
    refine g_cVi (pc2 := 570) (R_c_on l (d + 17) lt_SM σ hcc _ _) meX7_on mlL_81 (by rfl) ⟨_, rfl, rfl⟩ rfl rfl (by simp) ⟨h1, h2⟩ dL_law_567 rfl ?_
    refine g_al2 (pc2 := 571) dL_law_570 rfl ?_
    refine g_al0 (pc2 := 572) dL_law_571 rfl ?_
    refine g_il3 (pc2 := 573) dL_law_572 rfl ?_
    refine g_iconst (pc2 := 574) dL_law_573 k_iconst_1 rfl ?_
    refine g_iaddN (pc2 := 575) dL_law_574 rfl ?_
    refine g_xald (pc2 := 576) (by omega) (by omega) dL_law_575 rfl ?_
    refine g_al0 (pc2 := 577) dL_law_576 rfl ?_
    refine g_il3 (pc2 := 578) dL_law_577 rfl ?_
    refine g_iconst (pc2 := 579) dL_law_578 k_iconst_2 rfl ?_
    refine g_iaddN (pc2 := 580) dL_law_579 rfl ?_
    refine g_xald (pc2 := 581) (by omega) (by omega) dL_law_580 rfl ?_
    refine g_cVi (pc2 := 584) (R_m_on l (d + 16) σ hw _ _) meX8_on mlL_84 (by rfl) ⟨_, rfl, rfl⟩ rfl rfl (by simp) ⟨h1, h2⟩ dL_law_581 rfl ?_
    refine g_icmp_eq 668 587 dL_law_584 rfl rfl (fun h584 => ?_) (fun h584 => ?_)
    · exact nxt _ hrel0
    · exact absurd rfl h584
  · refine g_tableIn 589 dL_law_32 (by decide) (by decide) (off := 557) (by decide) rfl ?_
    refine g_al1 (pc2 := 590) dL_law_589 rfl ?_
    refine g_al0 (pc2 := 591) dL_law_590 rfl ?_
    refine g_il3 (pc2 := 592) dL_law_591 rfl ?_
    refine g_iconst (pc2 := 593) dL_law_592 k_iconst_1 rfl ?_
    refine g_iaddN (pc2 := 594) dL_law_593 rfl ?_
    refine g_xald (pc2 := 595) (by omega) (by omega) dL_law_594 rfl ?_
    refine g_cVi (pc2 := 598) (R_c_taken l (d + 16) lt_SM σ hcc _) meX7_taken mlL_85 (by rfl) ⟨_, rfl, rfl⟩ rfl rfl (by simp) ⟨h1, h2⟩ dL_law_595 rfl ?_
    refine g_al2 (pc2 := 599) dL_law_598 rfl ?_
    refine g_al0 (pc2 := 600) dL_law_599 rfl ?_
    refine g_il3 (pc2 := 601) dL_law_600 rfl ?_
    refine g_iconst (pc2 := 602) dL_law_601 k_iconst_1 rfl ?_
    refine g_iaddN (pc2 := 603) dL_law_602 rfl ?_
    refine g_xald (pc2 := 604) (by omega) (by omega) dL_law_603 rfl ?_
    refine g_cVi (pc2 := 607) (R_m_taken l (d + 15) σ hw _) meX8_taken mlL_88 (by rfl) ⟨_, rfl, rfl⟩ rfl rfl (by simp) ⟨h1, h2⟩ dL_law_604 rfl ?_
    refine g_icmp_eq 668 610 dL_law_607 rfl rfl (fun h607 => ?_) (fun h607 => ?_)
    · exact nxt _ hrel0
    · exact absurd rfl h607
  · refine g_tableIn 612 dL_law_32 (by decide) (by decide) (off := 580) (by decide) rfl ?_
    refine g_al1 (pc2 := 613) dL_law_612 rfl ?_
    refine g_al0 (pc2 := 614) dL_law_613 rfl ?_
    refine g_il3 (pc2 := 615) dL_law_614 rfl ?_
    refine g_iconst (pc2 := 616) dL_law_615 k_iconst_1 rfl ?_
    refine g_iaddN (pc2 := 617) dL_law_616 rfl ?_
    refine g_xald (pc2 := 618) (by omega) (by omega) dL_law_617 rfl ?_
    refine g_al0 (pc2 := 619) dL_law_618 rfl ?_
    refine g_il3 (pc2 := 620) dL_law_619 rfl ?_
    refine g_iconst (pc2 := 621) dL_law_620 k_iconst_2 rfl ?_
    refine g_iaddN (pc2 := 622) dL_law_621 rfl ?_
    refine g_xald (pc2 := 623) (by omega) (by omega) dL_law_622 rfl ?_
    refine g_cVi (pc2 := 626) (R_c_use l (d + 15) lt_SM σ hcc _ _) meX7_use mlL_89 (by rfl) ⟨_, rfl, rfl⟩ rfl rfl (by simp) ⟨h1, h2⟩ dL_law_623 rfl ?_
    refine g_al2 (pc2 := 627) dL_law_626 rfl ?_
    refine g_al0 (pc2 := 628) dL_law_627 rfl ?_
    refine g_il3 (pc2 := 629) dL_law_628 rfl ?_
    refine g_iconst (pc2 := 630) dL_law_629 k_iconst_1 rfl ?_
    refine g_iaddN (pc2 := 631) dL_law_630 rfl ?_
    refine g_xald (pc2 := 632) (by omega) (by omega) dL_law_631 rfl ?_
    refine g_al0 (pc2 := 633) dL_law_632 rfl ?_
    refine g_il3 (pc2 := 634) dL_law_633 rfl ?_
    refine g_iconst (pc2 := 635) dL_law_634 k_iconst_2 rfl ?_
    refine g_iaddN (pc2 := 636) dL_law_635 rfl ?_
    refine g_xald (pc2 := 637) (by omega) (by omega) dL_law_636 rfl ?_
    refine g_cVi (pc2 := 640) (R_m_use l (d + 15) σ hw _ _) meX8_use mlL_92 (by rfl) ⟨_, rfl, rfl⟩ rfl rfl (by simp) ⟨h1, h2⟩ dL_law_637 rfl ?_
    refine g_icmp_eq 668 643 dL_law_640 rfl rfl (fun h640 => ?_) (fun h640 => ?_)
    · exact nxt _ hrel0
    · exact absurd rfl h640
  · refine g_tableIn 645 dL_law_32 (by decide) (by decide) (off := 613) (by decide) rfl ?_
    have e1 : σ 44 2 = σ 76 3 := hkp.2.2.1.trans hR.2.2.2.2.1.symm
    have e2 : σ 11 1 = σ 76 5 := hTC.1.trans hTX.1.symm
    refine g_al1 (pc2 := 646) dL_law_645 rfl ?_
    refine g_al0 (pc2 := 647) dL_law_646 rfl ?_
    refine g_il3 (pc2 := 648) dL_law_647 rfl ?_
    refine g_iconst (pc2 := 649) dL_law_648 k_iconst_1 rfl ?_
    refine g_iaddN (pc2 := 650) dL_law_649 rfl ?_
    refine g_xald (pc2 := 651) (by omega) (by omega) dL_law_650 rfl ?_
    refine g_cVi (pc2 := 654) (R_c_count l (d + 17) lt_SM σ hcc _) meX7_count mlL_93 (by rfl) ⟨_, rfl, rfl⟩ rfl rfl (by simp) ⟨h1, h2⟩ dL_law_651 rfl ?_
    refine g_al2 (pc2 := 655) dL_law_654 rfl ?_
    refine g_al0 (pc2 := 656) dL_law_655 rfl ?_
    refine g_il3 (pc2 := 657) dL_law_656 rfl ?_
    refine g_iconst (pc2 := 658) dL_law_657 k_iconst_1 rfl ?_
    refine g_iaddN (pc2 := 659) dL_law_658 rfl ?_
    refine g_xald (pc2 := 660) (by omega) (by omega) dL_law_659 rfl ?_
    refine g_cVi (pc2 := 663) (R_m_count l (d + 16) σ hw _) meX8_count mlL_96 (by rfl) ⟨_, rfl, rfl⟩ rfl rfl (by simp) ⟨h1, h2⟩ dL_law_660 rfl ?_
    refine g_icmp_eq 668 666 dL_law_663 rfl rfl (fun h663 => ?_) (fun h663 => ?_)
    · exact nxt _ hrel0
    · exact absurd (by rw [e1, e2]) h663
  · have e9 : (nI j).toInt = j := nI_toInt (by omega)
    refine g_tableOut 668 dL_law_32 (Or.inr (by rw [e9]; omega)) rfl ?_
    exact nxt _ hrel0
theorem law_loop (l : lt_L) (d ck cn : Nat) (hL : l.2.1 ≤ 2560) (h1 : ck ≤ 600000) (h2 : cn ≤ 7302250) : ∀ (n k : Nat) (σ : lt_S), l.2.1 ≤ k + n → k ≤ 2565 → RelE σ → lt_G l (d + 20) 600000 7302250 mL ck cn lt_SA σ 18 [some (.ref 0), some (.ref 10), some (.ref 76), some (.int (nI k))] [] QL := by
  intro n
  induction n with
  | zero =>
    intro k σ hn hk hrel
    refine g_il3 (pc2 := 19) dL_law_18 rfl ?_
    refine g_al0 (pc2 := 20) dL_law_19 rfl ?_
    refine g_xlen (pc2 := 21) dL_law_20 rfl ?_
    refine g_iconst (pc2 := 22) dL_law_21 k_iconst_5 rfl ?_
    refine g_isub (pc2 := 23) dL_law_22 rfl ?_
    refine g_icmp_gt 674 26 dL_law_23 rfl rfl (fun _ => ?_) (fun h => absurd ?_ h)
    · refine g_iconst (pc2 := 675) dL_law_674 k_iconst_1 rfl ?_
      exact g_zret dL_law_675 rfl (bI_nar true) h1 h2 rfl
    · rw [Int32.lt_iff_toInt_lt, pk_sub_toInt (by omega) (by decide), nI_toInt (by omega)]
      omega
  | succ n ih =>
    intro k σ hn hk hrel
    refine g_il3 (pc2 := 19) dL_law_18 rfl ?_
    refine g_al0 (pc2 := 20) dL_law_19 rfl ?_
    refine g_xlen (pc2 := 21) dL_law_20 rfl ?_
    refine g_iconst (pc2 := 22) dL_law_21 k_iconst_5 rfl ?_
    refine g_isub (pc2 := 23) dL_law_22 rfl ?_
    refine g_icmp_gt 674 26 dL_law_23 rfl rfl (fun _ => ?_) (fun h => ?_)
    · refine g_iconst (pc2 := 675) dL_law_674 k_iconst_1 rfl ?_
      exact g_zret dL_law_675 rfl (bI_nar true) h1 h2 rfl
    · rw [Int32.lt_iff_toInt_lt, pk_sub_toInt (by omega) (by decide), nI_toInt (by omega)] at h
      refine law_step l d ck cn hL h1 h2 k (by omega) σ hrel (fun σ2 hrel2 => ?_)
      refine g_in3 (pc2 := 671) dL_law_668 (show nI k + Int32.ofInt 5 = nI (k + 5) from nI_add k 5) (by decide) rfl ?_
      refine g_goto 18 dL_law_671 rfl ?_
      exact ih (k + 5) σ2 (by omega) (by omega) hrel2
