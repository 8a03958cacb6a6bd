/-! the reference: come, pair, an item, the text -/
theorem R_m_takesTrain (l : lt_L) (d : Nat) (σ : lt_S) {n p ln T N : Nat} {tx : Nat → Nat} (hT : TX σ n tx) (hp : σ 76 6 = nI p) (hp2 : p ≤ 200) (hW : Wp (σ 78) ln T N) (h0 : ¬ σ 78 0 = nI 0) : lt_R l (d + 5) 0 0 mX8_takesTrain lt_SA σ [.ref 76] (itQ σ (itK tx n (σ 78) 2 p)) := by
  refine lt_R.of [some (.ref 76), none] rfl rfl (Nat.le_of_ble_eq_true rfl) ?_
  have hI9 : ∀ ns, itemR (σ 78) 2 ns = if okCome (σ 78) ns then some (rowCome (σ 78) ns) else none := by
    intro ns
    unfold itemR
    rw [if_neg (by decide), if_neg h0, if_neg (by decide), if_pos rfl]
  have w0 := hW.1
  have w1 := hW.2.1
  have w2 := hW.2.2.1
  have e0 : tN (σ 78 0) = ln := by rw [w0.1]; exact tN_nI (by omega)
  have e1 : tN (σ 78 1) = T := by rw [w1.1]; exact tN_nI (by omega)
  have e2 : tN (σ 78 2) = N := by rw [w2.1]; exact tN_nI (by omega)
  have fin : ∀ σ1, PN σ σ1 → (∀ q, numsAt tx n 6 (p + 5) = some q → 5 ≤ q.1.length → q.1.length ≤ 5 → Told σ1 q.1 q.2) → lt_G l (d + 5) 0 0 mX8_takesTrain 0 0 lt_SA σ1 6 [some (.ref 76), none] [.int (bI (lenB (numsAt tx n 6 (p + 5)) 5 5))] (itQ σ (itK tx n (σ 78) 2 p)) := by
    intro σ1 hP hTold
    have e78 : σ1 78 = σ 78 := hP.1 78 (by decide) (by decide)
    have rb : ∀ j x, σ 78 j = x → σ1 78 j = x := fun j x h => by rw [e78]; exact h
    have r0 := rb _ _ w0.1
    have r1 := rb _ _ w1.1
    have r2 := rb _ _ w2.1
    cases hq : numsAt tx n 6 (p + 5) with
    | none =>
      have hb : itK tx n (σ 78) 2 p = none := itK_bad (fun q hq2 => by rw [hq] at hq2; cases hq2)
      refine g_if_eqB 89 9 dX8_takesTrain_6 rfl rfl (fun h6 => ?_) (fun h6 => ?_)
      · refine g_iconst (pc2 := 90) dX8_takesTrain_89 k_iconst_0 rfl ?_
        refine g_is1 (pc2 := 91) dX8_takesTrain_90 (by decide) rfl ?_
        refine g_il1 (pc2 := 92) dX8_takesTrain_91 rfl ?_
        refine g_if_eq 121 95 dX8_takesTrain_92 rfl rfl (fun _ => ?_) (fun h => absurd nI_0 h)
        refine g_iconst (pc2 := 122) dX8_takesTrain_121 k_iconst_0 rfl ?_
        exact g_zret dX8_takesTrain_122 rfl (nz true) (Nat.le_refl _) (Nat.le_refl _) (itQ_bad hb hP.pr)
      · cases h6
    | some q =>
      have hle := (numsAt_le hq).1
      have g0 := getD_le hle 0
      have g1 := getD_le hle 1
      have g2 := getD_le hle 2
      have g3 := getD_le hle 3
      have g4 := getD_le hle 4
      by_cases hlen : q.1.length = 5
      · obtain ⟨t1, t2, t3⟩ := hTold q hq (by omega) (by omega)
        have v0 := t3 0 (by omega)
        have v1 := t3 1 (by omega)
        have v2 := t3 2 (by omega)
        have v3 := t3 3 (by omega)
        have v4 := t3 4 (by omega)
        by_cases hok : okCome (σ 78) q.1 = true
        · have hc := hok
          simp only [okCome, Bool.and_eq_true, Bool.or_eq_true, decide_eq_true_eq] at hc
          rw [e0, e1, e2] at hc
          have hI : itemR (σ 78) 2 q.1 = some (rowCome (σ 78) q.1) := by rw [hI9, if_pos hok]
          refine g_if_eqB 89 9 dX8_takesTrain_6 rfl rfl (fun h6 => ?_) (fun h6 => ?_)
          · simp [lenB, hlen] at h6
          · refine g_al0 (pc2 := 10) dX8_takesTrain_9 rfl ?_
            refine g_getr (pc2 := 13) (by rfl) (by rfl) flX8_13 dX8_takesTrain_10 rfl ?_
            refine g_iconst (pc2 := 14) dX8_takesTrain_13 k_iconst_2 rfl ?_
            refine g_iald (pc2 := 15) (by rfl) (by omega) (by decide) dX8_takesTrain_14 rfl ?_
            rw [r2]
            refine g_bipush (pc2 := 17) dX8_takesTrain_15 k_bipush_7 rfl ?_
            refine g_icmpN_ge 89 20 dX8_takesTrain_17 rfl rfl (by omega) (by omega) (fun h17 => ?_) (fun h17 => ?_)
            · omega
            · refine g_al0 (pc2 := 21) dX8_takesTrain_20 rfl ?_
              refine g_getr (pc2 := 24) (by rfl) (by rfl) flX8_22 dX8_takesTrain_21 rfl ?_
              refine g_iconst (pc2 := 25) dX8_takesTrain_24 k_iconst_0 rfl ?_
              refine g_iald (pc2 := 26) (by rfl) (by omega) (by decide) dX8_takesTrain_25 rfl ?_
              rw [v0]
              refine g_al0 (pc2 := 27) dX8_takesTrain_26 rfl ?_
              refine g_getr (pc2 := 30) (by rfl) (by rfl) flX8_13 dX8_takesTrain_27 rfl ?_
              refine g_iconst (pc2 := 31) dX8_takesTrain_30 k_iconst_0 rfl ?_
              refine g_iald (pc2 := 32) (by rfl) (by omega) (by decide) dX8_takesTrain_31 rfl ?_
              rw [r0]
              refine g_icmpN_ge 89 35 dX8_takesTrain_32 rfl rfl (by omega) (by omega) (fun h32 => ?_) (fun h32 => ?_)
              · omega
              · refine g_al0 (pc2 := 36) dX8_takesTrain_35 rfl ?_
                refine g_getr (pc2 := 39) (by rfl) (by rfl) flX8_22 dX8_takesTrain_36 rfl ?_
                refine g_iconst (pc2 := 40) dX8_takesTrain_39 k_iconst_1 rfl ?_
                refine g_iald (pc2 := 41) (by rfl) (by omega) (by decide) dX8_takesTrain_40 rfl ?_
                rw [v1]
                refine g_al0 (pc2 := 42) dX8_takesTrain_41 rfl ?_
                refine g_getr (pc2 := 45) (by rfl) (by rfl) flX8_13 dX8_takesTrain_42 rfl ?_
                refine g_iconst (pc2 := 46) dX8_takesTrain_45 k_iconst_0 rfl ?_
                refine g_iald (pc2 := 47) (by rfl) (by omega) (by decide) dX8_takesTrain_46 rfl ?_
                rw [r0]
                refine g_icmpN_ge 89 50 dX8_takesTrain_47 rfl rfl (by omega) (by omega) (fun h47 => ?_) (fun h47 => ?_)
                · omega
                · refine g_al0 (pc2 := 51) dX8_takesTrain_50 rfl ?_
                  refine g_getr (pc2 := 54) (by rfl) (by rfl) flX8_22 dX8_takesTrain_51 rfl ?_
                  refine g_iconst (pc2 := 55) dX8_takesTrain_54 k_iconst_2 rfl ?_
                  refine g_iald (pc2 := 56) (by rfl) (by omega) (by decide) dX8_takesTrain_55 rfl ?_
                  rw [v2]
                  refine g_iconst (pc2 := 57) dX8_takesTrain_56 k_iconst_1 rfl ?_
                  refine g_bipush (pc2 := 59) dX8_takesTrain_57 k_bipush_98 rfl ?_
                  refine g_cSi (pc2 := 62) (R_m_in l (d + 3) _ _ _ _ _) meX8_in mlX8_58 rfl rfl (by simp) ⟨Nat.le_refl _, Nat.le_refl _⟩ dX8_takesTrain_59 rfl ?_
                  rw [inB_N (by omega) (by decide) (by decide)]
                  refine g_if_eqB 89 65 dX8_takesTrain_62 rfl rfl (fun h62 => ?_) (fun h62 => ?_)
                  · simp only [Bool.and_eq_false_iff, decide_eq_false_iff_not] at h62; omega
                  · refine g_al0 (pc2 := 66) dX8_takesTrain_65 rfl ?_
                    refine g_getr (pc2 := 69) (by rfl) (by rfl) flX8_22 dX8_takesTrain_66 rfl ?_
                    refine g_iconst (pc2 := 70) dX8_takesTrain_69 k_iconst_3 rfl ?_
                    refine g_iald (pc2 := 71) (by rfl) (by omega) (by decide) dX8_takesTrain_70 rfl ?_
                    rw [v3]
                    refine g_al0 (pc2 := 72) dX8_takesTrain_71 rfl ?_
                    refine g_getr (pc2 := 75) (by rfl) (by rfl) flX8_22 dX8_takesTrain_72 rfl ?_
                    refine g_iconst (pc2 := 76) dX8_takesTrain_75 k_iconst_2 rfl ?_
                    refine g_iald (pc2 := 77) (by rfl) (by omega) (by decide) dX8_takesTrain_76 rfl ?_
                    rw [v2]
                    refine g_bipush (pc2 := 79) dX8_takesTrain_77 k_bipush_98 rfl ?_
                    refine g_cSi (pc2 := 82) (R_m_in l (d + 3) _ _ _ _ _) meX8_in mlX8_58 rfl rfl (by simp) ⟨Nat.le_refl _, Nat.le_refl _⟩ dX8_takesTrain_79 rfl ?_
                    rw [inB_N (by omega) (by omega) (by decide)]
                    refine g_if_eqB 89 85 dX8_takesTrain_82 rfl rfl (fun h82 => ?_) (fun h82 => ?_)
                    · simp only [Bool.and_eq_false_iff, decide_eq_false_iff_not] at h82; omega
                    · refine g_iconst (pc2 := 86) dX8_takesTrain_85 k_iconst_1 rfl ?_
                      refine g_goto 90 dX8_takesTrain_86 rfl ?_
                      refine g_is1 (pc2 := 91) dX8_takesTrain_90 (by decide) rfl ?_
                      refine g_il1 (pc2 := 92) dX8_takesTrain_91 rfl ?_
                      refine g_if_eq 121 95 dX8_takesTrain_92 rfl rfl (fun h => absurd h (nI_ne0 (by decide) (by decide))) (fun _ => ?_)
                      refine g_al0 (pc2 := 96) dX8_takesTrain_95 rfl ?_
                      refine g_getr (pc2 := 99) (by rfl) (by rfl) flX8_22 dX8_takesTrain_96 rfl ?_
                      refine g_iconst (pc2 := 100) dX8_takesTrain_99 k_iconst_4 rfl ?_
                      refine g_iald (pc2 := 101) (by rfl) (by omega) (by decide) dX8_takesTrain_100 rfl ?_
                      rw [v4]
                      refine g_al0 (pc2 := 102) dX8_takesTrain_101 rfl ?_
                      refine g_getr (pc2 := 105) (by rfl) (by rfl) flX8_13 dX8_takesTrain_102 rfl ?_
                      refine g_iconst (pc2 := 106) dX8_takesTrain_105 k_iconst_1 rfl ?_
                      refine g_iald (pc2 := 107) (by rfl) (by omega) (by decide) dX8_takesTrain_106 rfl ?_
                      rw [r1]
                      refine g_icmpN_lt 123 110 dX8_takesTrain_107 rfl rfl (by omega) (by omega) (fun h107 => ?_) (fun h107 => ?_)
                      · refine g_al0 (pc2 := 124) dX8_takesTrain_123 rfl ?_
                        refine g_al0 (pc2 := 125) dX8_takesTrain_124 rfl ?_
                        refine g_getr (pc2 := 128) (by rfl) (by rfl) flX8_22 dX8_takesTrain_125 rfl ?_
                        refine g_iconst (pc2 := 129) dX8_takesTrain_128 k_iconst_0 rfl ?_
                        refine g_iald (pc2 := 130) (by rfl) (by omega) (by decide) dX8_takesTrain_129 rfl ?_
                        rw [v0]
                        refine g_al0 (pc2 := 131) dX8_takesTrain_130 rfl ?_
                        refine g_getr (pc2 := 134) (by rfl) (by rfl) flX8_22 dX8_takesTrain_131 rfl ?_
                        refine g_iconst (pc2 := 135) dX8_takesTrain_134 k_iconst_1 rfl ?_
                        refine g_iald (pc2 := 136) (by rfl) (by omega) (by decide) dX8_takesTrain_135 rfl ?_
                        rw [v1]
                        refine g_al0 (pc2 := 137) dX8_takesTrain_136 rfl ?_
                        refine g_getr (pc2 := 140) (by rfl) (by rfl) flX8_22 dX8_takesTrain_137 rfl ?_
                        refine g_iconst (pc2 := 141) dX8_takesTrain_140 k_iconst_2 rfl ?_
                        refine g_iald (pc2 := 142) (by rfl) (by omega) (by decide) dX8_takesTrain_141 rfl ?_
                        rw [v2]
                        refine g_al0 (pc2 := 143) dX8_takesTrain_142 rfl ?_
                        refine g_getr (pc2 := 146) (by rfl) (by rfl) flX8_22 dX8_takesTrain_143 rfl ?_
                        refine g_iconst (pc2 := 147) dX8_takesTrain_146 k_iconst_3 rfl ?_
                        refine g_iald (pc2 := 148) (by rfl) (by omega) (by decide) dX8_takesTrain_147 rfl ?_
                        rw [v3]
                        refine g_al0 (pc2 := 149) dX8_takesTrain_148 rfl ?_
                        refine g_getr (pc2 := 152) (by rfl) (by rfl) flX8_22 dX8_takesTrain_149 rfl ?_
                        refine g_iconst (pc2 := 153) dX8_takesTrain_152 k_iconst_4 rfl ?_
                        refine g_iald (pc2 := 154) (by rfl) (by omega) (by decide) dX8_takesTrain_153 rfl ?_
                        rw [v4]
                        refine g_bipush (pc2 := 156) dX8_takesTrain_154 k_bipush_9 rfl ?_
                        refine g_icmpN_ne 164 159 dX8_takesTrain_156 rfl rfl (by omega) (by omega) (fun h156 => ?_) (fun h156 => ?_)
                        · refine g_al0 (pc2 := 165) dX8_takesTrain_164 rfl ?_
                          refine g_getr (pc2 := 168) (by rfl) (by rfl) flX8_22 dX8_takesTrain_165 rfl ?_
                          refine g_iconst (pc2 := 169) dX8_takesTrain_168 k_iconst_4 rfl ?_
                          refine g_iald (pc2 := 170) (by rfl) (by omega) (by decide) dX8_takesTrain_169 rfl ?_
                          try rw [v4]
                          refine g_cVv (pc2 := 173) (R_m_comes l (d + 3) _ r2 (by omega) _ _ _ _ _) meX8_comes mlX8_41 (by rfl) ⟨_, rfl, rfl⟩ rfl rfl (by simp) ⟨Nat.le_refl _, Nat.le_refl _⟩ dX8_takesTrain_170 rfl ?_
                          refine g_iconst (pc2 := 174) dX8_takesTrain_173 k_iconst_1 rfl ?_
                          exact g_zret dX8_takesTrain_174 rfl (no true) (Nat.le_refl _) (Nat.le_refl _) (itQ_ok (itK_ok hq hI) ⟨fun a h1 h3 h4 => by rw [lt_ur_ne _ _ h3]; exact hP.1 a h1 h4, fun k h1 h3 => hP.2 k h1 h3⟩ (by rw [lt_ur_eq, e78]; first | (unfold rowCome; rw [if_pos h156]; done) | (unfold rowCome; rw [if_neg h156]; done)) t1)
                        · refine g_bipush (pc2 := 161) dX8_takesTrain_159 k_bipush_m4 rfl ?_
                          refine g_goto 170 dX8_takesTrain_161 rfl ?_
                          try rw [v4]
                          refine g_cVv (pc2 := 173) (R_m_comes l (d + 3) _ r2 (by omega) _ _ _ _ _) meX8_comes mlX8_41 (by rfl) ⟨_, rfl, rfl⟩ rfl rfl (by simp) ⟨Nat.le_refl _, Nat.le_refl _⟩ dX8_takesTrain_170 rfl ?_
                          refine g_iconst (pc2 := 174) dX8_takesTrain_173 k_iconst_1 rfl ?_
                          exact g_zret dX8_takesTrain_174 rfl (no true) (Nat.le_refl _) (Nat.le_refl _) (itQ_ok (itK_ok hq hI) ⟨fun a h1 h3 h4 => by rw [lt_ur_ne _ _ h3]; exact hP.1 a h1 h4, fun k h1 h3 => hP.2 k h1 h3⟩ (by rw [lt_ur_eq, e78]; first | (unfold rowCome; rw [if_pos h156]; done) | (unfold rowCome; rw [if_neg h156]; done)) t1)
                      · refine g_al0 (pc2 := 111) dX8_takesTrain_110 rfl ?_
                        refine g_getr (pc2 := 114) (by rfl) (by rfl) flX8_22 dX8_takesTrain_111 rfl ?_
                        refine g_iconst (pc2 := 115) dX8_takesTrain_114 k_iconst_4 rfl ?_
                        refine g_iald (pc2 := 116) (by rfl) (by omega) (by decide) dX8_takesTrain_115 rfl ?_
                        rw [v4]
                        refine g_bipush (pc2 := 118) dX8_takesTrain_116 k_bipush_9 rfl ?_
                        refine g_icmpN_eq 123 121 dX8_takesTrain_118 rfl rfl (by omega) (by omega) (fun h118 => ?_) (fun h118 => ?_)
                        · refine g_al0 (pc2 := 124) dX8_takesTrain_123 rfl ?_
                          refine g_al0 (pc2 := 125) dX8_takesTrain_124 rfl ?_
                          refine g_getr (pc2 := 128) (by rfl) (by rfl) flX8_22 dX8_takesTrain_125 rfl ?_
                          refine g_iconst (pc2 := 129) dX8_takesTrain_128 k_iconst_0 rfl ?_
                          refine g_iald (pc2 := 130) (by rfl) (by omega) (by decide) dX8_takesTrain_129 rfl ?_
                          rw [v0]
                          refine g_al0 (pc2 := 131) dX8_takesTrain_130 rfl ?_
                          refine g_getr (pc2 := 134) (by rfl) (by rfl) flX8_22 dX8_takesTrain_131 rfl ?_
                          refine g_iconst (pc2 := 135) dX8_takesTrain_134 k_iconst_1 rfl ?_
                          refine g_iald (pc2 := 136) (by rfl) (by omega) (by decide) dX8_takesTrain_135 rfl ?_
                          rw [v1]
                          refine g_al0 (pc2 := 137) dX8_takesTrain_136 rfl ?_
                          refine g_getr (pc2 := 140) (by rfl) (by rfl) flX8_22 dX8_takesTrain_137 rfl ?_
                          refine g_iconst (pc2 := 141) dX8_takesTrain_140 k_iconst_2 rfl ?_
                          refine g_iald (pc2 := 142) (by rfl) (by omega) (by decide) dX8_takesTrain_141 rfl ?_
                          rw [v2]
                          refine g_al0 (pc2 := 143) dX8_takesTrain_142 rfl ?_
                          refine g_getr (pc2 := 146) (by rfl) (by rfl) flX8_22 dX8_takesTrain_143 rfl ?_
                          refine g_iconst (pc2 := 147) dX8_takesTrain_146 k_iconst_3 rfl ?_
                          refine g_iald (pc2 := 148) (by rfl) (by omega) (by decide) dX8_takesTrain_147 rfl ?_
                          rw [v3]
                          refine g_al0 (pc2 := 149) dX8_takesTrain_148 rfl ?_
                          refine g_getr (pc2 := 152) (by rfl) (by rfl) flX8_22 dX8_takesTrain_149 rfl ?_
                          refine g_iconst (pc2 := 153) dX8_takesTrain_152 k_iconst_4 rfl ?_
                          refine g_iald (pc2 := 154) (by rfl) (by omega) (by decide) dX8_takesTrain_153 rfl ?_
                          rw [v4]
                          refine g_bipush (pc2 := 156) dX8_takesTrain_154 k_bipush_9 rfl ?_
                          refine g_icmpN_ne 164 159 dX8_takesTrain_156 rfl rfl (by omega) (by omega) (fun h156 => ?_) (fun h156 => ?_)
                          · refine g_al0 (pc2 := 165) dX8_takesTrain_164 rfl ?_
                            refine g_getr (pc2 := 168) (by rfl) (by rfl) flX8_22 dX8_takesTrain_165 rfl ?_
                            refine g_iconst (pc2 := 169) dX8_takesTrain_168 k_iconst_4 rfl ?_
                            refine g_iald (pc2 := 170) (by rfl) (by omega) (by decide) dX8_takesTrain_169 rfl ?_
                            try rw [v4]
                            refine g_cVv (pc2 := 173) (R_m_comes l (d + 3) _ r2 (by omega) _ _ _ _ _) meX8_comes mlX8_41 (by rfl) ⟨_, rfl, rfl⟩ rfl rfl (by simp) ⟨Nat.le_refl _, Nat.le_refl _⟩ dX8_takesTrain_170 rfl ?_
                            refine g_iconst (pc2 := 174) dX8_takesTrain_173 k_iconst_1 rfl ?_
                            exact g_zret dX8_takesTrain_174 rfl (no true) (Nat.le_refl _) (Nat.le_refl _) (itQ_ok (itK_ok hq hI) ⟨fun a h1 h3 h4 => by rw [lt_ur_ne _ _ h3]; exact hP.1 a h1 h4, fun k h1 h3 => hP.2 k h1 h3⟩ (by rw [lt_ur_eq, e78]; first | (unfold rowCome; rw [if_pos h156]; done) | (unfold rowCome; rw [if_neg h156]; done)) t1)
                          · refine g_bipush (pc2 := 161) dX8_takesTrain_159 k_bipush_m4 rfl ?_
                            refine g_goto 170 dX8_takesTrain_161 rfl ?_
                            try rw [v4]
                            refine g_cVv (pc2 := 173) (R_m_comes l (d + 3) _ r2 (by omega) _ _ _ _ _) meX8_comes mlX8_41 (by rfl) ⟨_, rfl, rfl⟩ rfl rfl (by simp) ⟨Nat.le_refl _, Nat.le_refl _⟩ dX8_takesTrain_170 rfl ?_
                            refine g_iconst (pc2 := 174) dX8_takesTrain_173 k_iconst_1 rfl ?_
                            exact g_zret dX8_takesTrain_174 rfl (no true) (Nat.le_refl _) (Nat.le_refl _) (itQ_ok (itK_ok hq hI) ⟨fun a h1 h3 h4 => by rw [lt_ur_ne _ _ h3]; exact hP.1 a h1 h4, fun k h1 h3 => hP.2 k h1 h3⟩ (by rw [lt_ur_eq, e78]; first | (unfold rowCome; rw [if_pos h156]; done) | (unfold rowCome; rw [if_neg h156]; done)) t1)
                        · omega
        · have hb : itK tx n (σ 78) 2 p = none := itK_bad (fun q2 hq2 => by rw [hq] at hq2; cases hq2; rw [hI9, if_neg hok])
          have bad : okCome (σ 78) q.1 = true → False := hok
          refine g_if_eqB 89 9 dX8_takesTrain_6 rfl rfl (fun h6 => ?_) (fun h6 => ?_)
          · simp [lenB, hlen] at h6
          · refine g_al0 (pc2 := 10) dX8_takesTrain_9 rfl ?_
            refine g_getr (pc2 := 13) (by rfl) (by rfl) flX8_13 dX8_takesTrain_10 rfl ?_
            refine g_iconst (pc2 := 14) dX8_takesTrain_13 k_iconst_2 rfl ?_
            refine g_iald (pc2 := 15) (by rfl) (by omega) (by decide) dX8_takesTrain_14 rfl ?_
            rw [r2]
            refine g_bipush (pc2 := 17) dX8_takesTrain_15 k_bipush_7 rfl ?_
            refine g_icmpN_ge 89 20 dX8_takesTrain_17 rfl rfl (by omega) (by omega) (fun h17 => ?_) (fun h17 => ?_)
            · refine g_iconst (pc2 := 90) dX8_takesTrain_89 k_iconst_0 rfl ?_
              refine g_is1 (pc2 := 91) dX8_takesTrain_90 (by decide) rfl ?_
              refine g_il1 (pc2 := 92) dX8_takesTrain_91 rfl ?_
              refine g_if_eq 121 95 dX8_takesTrain_92 rfl rfl (fun _ => ?_) (fun h => absurd nI_0 h)
              refine g_iconst (pc2 := 122) dX8_takesTrain_121 k_iconst_0 rfl ?_
              exact g_zret dX8_takesTrain_122 rfl (nz true) (Nat.le_refl _) (Nat.le_refl _) (itQ_bad hb hP.pr)
            · refine g_al0 (pc2 := 21) dX8_takesTrain_20 rfl ?_
              refine g_getr (pc2 := 24) (by rfl) (by rfl) flX8_22 dX8_takesTrain_21 rfl ?_
              refine g_iconst (pc2 := 25) dX8_takesTrain_24 k_iconst_0 rfl ?_
              refine g_iald (pc2 := 26) (by rfl) (by omega) (by decide) dX8_takesTrain_25 rfl ?_
              rw [v0]
              refine g_al0 (pc2 := 27) dX8_takesTrain_26 rfl ?_
              refine g_getr (pc2 := 30) (by rfl) (by rfl) flX8_13 dX8_takesTrain_27 rfl ?_
              refine g_iconst (pc2 := 31) dX8_takesTrain_30 k_iconst_0 rfl ?_
              refine g_iald (pc2 := 32) (by rfl) (by omega) (by decide) dX8_takesTrain_31 rfl ?_
              rw [r0]
              refine g_icmpN_ge 89 35 dX8_takesTrain_32 rfl rfl (by omega) (by omega) (fun h32 => ?_) (fun h32 => ?_)
              · refine g_iconst (pc2 := 90) dX8_takesTrain_89 k_iconst_0 rfl ?_
                refine g_is1 (pc2 := 91) dX8_takesTrain_90 (by decide) rfl ?_
                refine g_il1 (pc2 := 92) dX8_takesTrain_91 rfl ?_
                refine g_if_eq 121 95 dX8_takesTrain_92 rfl rfl (fun _ => ?_) (fun h => absurd nI_0 h)
                refine g_iconst (pc2 := 122) dX8_takesTrain_121 k_iconst_0 rfl ?_
                exact g_zret dX8_takesTrain_122 rfl (nz true) (Nat.le_refl _) (Nat.le_refl _) (itQ_bad hb hP.pr)
              · refine g_al0 (pc2 := 36) dX8_takesTrain_35 rfl ?_
                refine g_getr (pc2 := 39) (by rfl) (by rfl) flX8_22 dX8_takesTrain_36 rfl ?_
                refine g_iconst (pc2 := 40) dX8_takesTrain_39 k_iconst_1 rfl ?_
                refine g_iald (pc2 := 41) (by rfl) (by omega) (by decide) dX8_takesTrain_40 rfl ?_
                rw [v1]
                refine g_al0 (pc2 := 42) dX8_takesTrain_41 rfl ?_
                refine g_getr (pc2 := 45) (by rfl) (by rfl) flX8_13 dX8_takesTrain_42 rfl ?_
                refine g_iconst (pc2 := 46) dX8_takesTrain_45 k_iconst_0 rfl ?_
                refine g_iald (pc2 := 47) (by rfl) (by omega) (by decide) dX8_takesTrain_46 rfl ?_
                rw [r0]
                refine g_icmpN_ge 89 50 dX8_takesTrain_47 rfl rfl (by omega) (by omega) (fun h47 => ?_) (fun h47 => ?_)
                · refine g_iconst (pc2 := 90) dX8_takesTrain_89 k_iconst_0 rfl ?_
                  refine g_is1 (pc2 := 91) dX8_takesTrain_90 (by decide) rfl ?_
                  refine g_il1 (pc2 := 92) dX8_takesTrain_91 rfl ?_
                  refine g_if_eq 121 95 dX8_takesTrain_92 rfl rfl (fun _ => ?_) (fun h => absurd nI_0 h)
                  refine g_iconst (pc2 := 122) dX8_takesTrain_121 k_iconst_0 rfl ?_
                  exact g_zret dX8_takesTrain_122 rfl (nz true) (Nat.le_refl _) (Nat.le_refl _) (itQ_bad hb hP.pr)
                · refine g_al0 (pc2 := 51) dX8_takesTrain_50 rfl ?_
                  refine g_getr (pc2 := 54) (by rfl) (by rfl) flX8_22 dX8_takesTrain_51 rfl ?_
                  refine g_iconst (pc2 := 55) dX8_takesTrain_54 k_iconst_2 rfl ?_
                  refine g_iald (pc2 := 56) (by rfl) (by omega) (by decide) dX8_takesTrain_55 rfl ?_
                  rw [v2]
                  refine g_iconst (pc2 := 57) dX8_takesTrain_56 k_iconst_1 rfl ?_
                  refine g_bipush (pc2 := 59) dX8_takesTrain_57 k_bipush_98 rfl ?_
                  refine g_cSi (pc2 := 62) (R_m_in l (d + 3) _ _ _ _ _) meX8_in mlX8_58 rfl rfl (by simp) ⟨Nat.le_refl _, Nat.le_refl _⟩ dX8_takesTrain_59 rfl ?_
                  rw [inB_N (by omega) (by decide) (by decide)]
                  refine g_if_eqB 89 65 dX8_takesTrain_62 rfl rfl (fun h62 => ?_) (fun h62 => ?_)
                  · refine g_iconst (pc2 := 90) dX8_takesTrain_89 k_iconst_0 rfl ?_
                    refine g_is1 (pc2 := 91) dX8_takesTrain_90 (by decide) rfl ?_
                    refine g_il1 (pc2 := 92) dX8_takesTrain_91 rfl ?_
                    refine g_if_eq 121 95 dX8_takesTrain_92 rfl rfl (fun _ => ?_) (fun h => absurd nI_0 h)
                    refine g_iconst (pc2 := 122) dX8_takesTrain_121 k_iconst_0 rfl ?_
                    exact g_zret dX8_takesTrain_122 rfl (nz true) (Nat.le_refl _) (Nat.le_refl _) (itQ_bad hb hP.pr)
                  · refine g_al0 (pc2 := 66) dX8_takesTrain_65 rfl ?_
                    refine g_getr (pc2 := 69) (by rfl) (by rfl) flX8_22 dX8_takesTrain_66 rfl ?_
                    refine g_iconst (pc2 := 70) dX8_takesTrain_69 k_iconst_3 rfl ?_
                    refine g_iald (pc2 := 71) (by rfl) (by omega) (by decide) dX8_takesTrain_70 rfl ?_
                    rw [v3]
                    refine g_al0 (pc2 := 72) dX8_takesTrain_71 rfl ?_
                    refine g_getr (pc2 := 75) (by rfl) (by rfl) flX8_22 dX8_takesTrain_72 rfl ?_
                    refine g_iconst (pc2 := 76) dX8_takesTrain_75 k_iconst_2 rfl ?_
                    refine g_iald (pc2 := 77) (by rfl) (by omega) (by decide) dX8_takesTrain_76 rfl ?_
                    rw [v2]
                    refine g_bipush (pc2 := 79) dX8_takesTrain_77 k_bipush_98 rfl ?_
                    refine g_cSi (pc2 := 82) (R_m_in l (d + 3) _ _ _ _ _) meX8_in mlX8_58 rfl rfl (by simp) ⟨Nat.le_refl _, Nat.le_refl _⟩ dX8_takesTrain_79 rfl ?_
                    rw [inB_N (by omega) (by omega) (by decide)]
                    refine g_if_eqB 89 85 dX8_takesTrain_82 rfl rfl (fun h82 => ?_) (fun h82 => ?_)
                    · refine g_iconst (pc2 := 90) dX8_takesTrain_89 k_iconst_0 rfl ?_
                      refine g_is1 (pc2 := 91) dX8_takesTrain_90 (by decide) rfl ?_
                      refine g_il1 (pc2 := 92) dX8_takesTrain_91 rfl ?_
                      refine g_if_eq 121 95 dX8_takesTrain_92 rfl rfl (fun _ => ?_) (fun h => absurd nI_0 h)
                      refine g_iconst (pc2 := 122) dX8_takesTrain_121 k_iconst_0 rfl ?_
                      exact g_zret dX8_takesTrain_122 rfl (nz true) (Nat.le_refl _) (Nat.le_refl _) (itQ_bad hb hP.pr)
                    · refine g_iconst (pc2 := 86) dX8_takesTrain_85 k_iconst_1 rfl ?_
                      refine g_goto 90 dX8_takesTrain_86 rfl ?_
                      refine g_is1 (pc2 := 91) dX8_takesTrain_90 (by decide) rfl ?_
                      refine g_il1 (pc2 := 92) dX8_takesTrain_91 rfl ?_
                      refine g_if_eq 121 95 dX8_takesTrain_92 rfl rfl (fun h => absurd h (nI_ne0 (by decide) (by decide))) (fun _ => ?_)
                      refine g_al0 (pc2 := 96) dX8_takesTrain_95 rfl ?_
                      refine g_getr (pc2 := 99) (by rfl) (by rfl) flX8_22 dX8_takesTrain_96 rfl ?_
                      refine g_iconst (pc2 := 100) dX8_takesTrain_99 k_iconst_4 rfl ?_
                      refine g_iald (pc2 := 101) (by rfl) (by omega) (by decide) dX8_takesTrain_100 rfl ?_
                      rw [v4]
                      refine g_al0 (pc2 := 102) dX8_takesTrain_101 rfl ?_
                      refine g_getr (pc2 := 105) (by rfl) (by rfl) flX8_13 dX8_takesTrain_102 rfl ?_
                      refine g_iconst (pc2 := 106) dX8_takesTrain_105 k_iconst_1 rfl ?_
                      refine g_iald (pc2 := 107) (by rfl) (by omega) (by decide) dX8_takesTrain_106 rfl ?_
                      rw [r1]
                      refine g_icmpN_lt 123 110 dX8_takesTrain_107 rfl rfl (by omega) (by omega) (fun h107 => ?_) (fun h107 => ?_)
                      · exfalso; apply bad; simp only [okCome, Bool.and_eq_true, Bool.or_eq_true, decide_eq_true_eq]; simp only [Bool.and_eq_true, decide_eq_true_eq] at h62 h82; rw [e0, e1, e2]; omega
                      · refine g_al0 (pc2 := 111) dX8_takesTrain_110 rfl ?_
                        refine g_getr (pc2 := 114) (by rfl) (by rfl) flX8_22 dX8_takesTrain_111 rfl ?_
                        refine g_iconst (pc2 := 115) dX8_takesTrain_114 k_iconst_4 rfl ?_
                        refine g_iald (pc2 := 116) (by rfl) (by omega) (by decide) dX8_takesTrain_115 rfl ?_
                        rw [v4]
                        refine g_bipush (pc2 := 118) dX8_takesTrain_116 k_bipush_9 rfl ?_
                        refine g_icmpN_eq 123 121 dX8_takesTrain_118 rfl rfl (by omega) (by omega) (fun h118 => ?_) (fun h118 => ?_)
                        · exfalso; apply bad; simp only [okCome, Bool.and_eq_true, Bool.or_eq_true, decide_eq_true_eq]; simp only [Bool.and_eq_true, decide_eq_true_eq] at h62 h82; rw [e0, e1, e2]; omega
                        · refine g_iconst (pc2 := 122) dX8_takesTrain_121 k_iconst_0 rfl ?_
                          exact g_zret dX8_takesTrain_122 rfl (nz true) (Nat.le_refl _) (Nat.le_refl _) (itQ_bad hb hP.pr)
      · have hb : itK tx n (σ 78) 2 p = none := itK_bad (fun q2 hq2 => by rw [hq] at hq2; cases hq2; rw [hI9]; simp [okCome, hlen])
        refine g_if_eqB 89 9 dX8_takesTrain_6 rfl rfl (fun h6 => ?_) (fun h6 => ?_)
        · refine g_iconst (pc2 := 90) dX8_takesTrain_89 k_iconst_0 rfl ?_
          refine g_is1 (pc2 := 91) dX8_takesTrain_90 (by decide) rfl ?_
          refine g_il1 (pc2 := 92) dX8_takesTrain_91 rfl ?_
          refine g_if_eq 121 95 dX8_takesTrain_92 rfl rfl (fun _ => ?_) (fun h => absurd nI_0 h)
          refine g_iconst (pc2 := 122) dX8_takesTrain_121 k_iconst_0 rfl ?_
          exact g_zret dX8_takesTrain_122 rfl (nz true) (Nat.le_refl _) (Nat.le_refl _) (itQ_bad hb hP.pr)
        · simp [lenB] at h6; omega
  refine g_al0 (pc2 := 1) dX8_takesTrain_0 rfl ?_
  refine g_iconst (pc2 := 2) dX8_takesTrain_1 k_iconst_5 rfl ?_
  refine g_iconst (pc2 := 3) dX8_takesTrain_2 k_iconst_5 rfl ?_
  refine g_callV (pc2 := 6) (R_m_tn l d σ hT hp hp2 5 5 (by decide) (by decide)) meX8_takesNumbers mlX8_73 (by rfl) ⟨_, rfl, rfl⟩ rfl rfl (by simp) ⟨Nat.le_refl _, Nat.le_refl _⟩ dX8_takesTrain_3 rfl ?_
  rintro r sh2 σ1 ⟨rfl, rfl, hP, hTold⟩
  exact fin σ1 hP hTold
theorem R_m_takesPair (l : lt_L) (d : Nat) (σ : lt_S) {n p ln T N : Nat} {tx : Nat → Nat} (hT : TX σ n tx) (hp : σ 76 6 = nI p) (hp2 : p ≤ 200) (hW : Wp (σ 78) ln T N) (h0 : ¬ σ 78 0 = nI 0) : lt_R l (d + 5) 0 0 mX8_takesPair lt_SA σ [.ref 76] (itQ σ (itK tx n (σ 78) 3 p)) := by
  refine lt_R.of [some (.ref 76), none, none, none] rfl rfl (Nat.le_of_ble_eq_true rfl) ?_
  have hI9 : ∀ ns, itemR (σ 78) 3 ns = if okPair (σ 78) ns then some (rowPair (σ 78) ns) else none := by
    intro ns
    unfold itemR
    rw [if_neg (by decide), if_neg h0, if_neg (by decide), if_neg (by decide), if_pos rfl]
  have w2 := hW.2.2.1
  have e2 : tN (σ 78 2) = N := by rw [w2.1]; exact tN_nI (by omega)
  have fin : ∀ σ1, PN σ σ1 → (∀ q, numsAt tx n 6 (p + 5) = some q → 2 ≤ q.1.length → q.1.length ≤ 2 → Told σ1 q.1 q.2) → lt_G l (d + 5) 0 0 mX8_takesPair 0 0 lt_SA σ1 6 [some (.ref 76), none, none, none] [.int (bI (lenB (numsAt tx n 6 (p + 5)) 2 2))] (itQ σ (itK tx n (σ 78) 3 p)) := by
    intro σ1 hP hTold
    have e78 : σ1 78 = σ 78 := hP.1 78 (by decide) (by decide)
    have r2 : σ1 78 2 = nI N := by rw [e78]; exact w2.1
    cases hq : numsAt tx n 6 (p + 5) with
    | none =>
      have hb : itK tx n (σ 78) 3 p = none := itK_bad (fun q hq2 => by rw [hq] at hq2; cases hq2)
      refine g_if_eqB 54 9 dX8_takesPair_6 rfl rfl (fun h6 => ?_) (fun h6 => ?_)
      · refine g_iconst (pc2 := 55) dX8_takesPair_54 k_iconst_0 rfl ?_
        exact g_zret dX8_takesPair_55 rfl (nz true) (Nat.le_refl _) (Nat.le_refl _) (itQ_bad hb hP.pr)
      · cases h6
    | some q =>
      have hle := (numsAt_le hq).1
      have g0 := getD_le hle 0
      have g1 := getD_le hle 1
      by_cases hlen : q.1.length = 2
      · obtain ⟨t1, t2, t3⟩ := hTold q hq (by omega) (by omega)
        have v0 := t3 0 (by omega)
        have v1 := t3 1 (by omega)
        by_cases hok : okPair (σ 78) q.1 = true
        · have hc := hok
          simp only [okPair, Bool.and_eq_true, Bool.not_eq_true', decide_eq_true_eq, decide_eq_false_iff_not] at hc
          rw [e2] at hc
          have hI : itemR (σ 78) 3 q.1 = some (rowPair (σ 78) q.1) := by rw [hI9, if_pos hok]
          refine g_if_eqB 54 9 dX8_takesPair_6 rfl rfl (fun h6 => ?_) (fun h6 => ?_)
          · simp [lenB, hlen] at h6
          · refine g_al0 (pc2 := 10) dX8_takesPair_9 rfl ?_
            refine g_getr (pc2 := 13) (by rfl) (by rfl) flX8_22 dX8_takesPair_10 rfl ?_
            refine g_iconst (pc2 := 14) dX8_takesPair_13 k_iconst_0 rfl ?_
            refine g_iald (pc2 := 15) (by rfl) (by omega) (by decide) dX8_takesPair_14 rfl ?_
            rw [v0]
            refine g_al0 (pc2 := 16) dX8_takesPair_15 rfl ?_
            refine g_getr (pc2 := 19) (by rfl) (by rfl) flX8_22 dX8_takesPair_16 rfl ?_
            refine g_iconst (pc2 := 20) dX8_takesPair_19 k_iconst_1 rfl ?_
            refine g_iald (pc2 := 21) (by rfl) (by omega) (by decide) dX8_takesPair_20 rfl ?_
            rw [v1]
            refine g_icmpN_eq 54 24 dX8_takesPair_21 rfl rfl (by omega) (by omega) (fun h21 => ?_) (fun h21 => ?_)
            · omega
            · refine g_al0 (pc2 := 25) dX8_takesPair_24 rfl ?_
              refine g_getr (pc2 := 28) (by rfl) (by rfl) flX8_22 dX8_takesPair_25 rfl ?_
              refine g_iconst (pc2 := 29) dX8_takesPair_28 k_iconst_0 rfl ?_
              refine g_iald (pc2 := 30) (by rfl) (by omega) (by decide) dX8_takesPair_29 rfl ?_
              rw [v0]
              refine g_al0 (pc2 := 31) dX8_takesPair_30 rfl ?_
              refine g_getr (pc2 := 34) (by rfl) (by rfl) flX8_13 dX8_takesPair_31 rfl ?_
              refine g_iconst (pc2 := 35) dX8_takesPair_34 k_iconst_2 rfl ?_
              refine g_iald (pc2 := 36) (by rfl) (by omega) (by decide) dX8_takesPair_35 rfl ?_
              rw [r2]
              refine g_icmpN_ge 54 39 dX8_takesPair_36 rfl rfl (by omega) (by omega) (fun h36 => ?_) (fun h36 => ?_)
              · omega
              · refine g_al0 (pc2 := 40) dX8_takesPair_39 rfl ?_
                refine g_getr (pc2 := 43) (by rfl) (by rfl) flX8_22 dX8_takesPair_40 rfl ?_
                refine g_iconst (pc2 := 44) dX8_takesPair_43 k_iconst_1 rfl ?_
                refine g_iald (pc2 := 45) (by rfl) (by omega) (by decide) dX8_takesPair_44 rfl ?_
                rw [v1]
                refine g_al0 (pc2 := 46) dX8_takesPair_45 rfl ?_
                refine g_getr (pc2 := 49) (by rfl) (by rfl) flX8_13 dX8_takesPair_46 rfl ?_
                refine g_iconst (pc2 := 50) dX8_takesPair_49 k_iconst_2 rfl ?_
                refine g_iald (pc2 := 51) (by rfl) (by omega) (by decide) dX8_takesPair_50 rfl ?_
                rw [r2]
                refine g_icmpN_lt 56 54 dX8_takesPair_51 rfl rfl (by omega) (by omega) (fun h51 => ?_) (fun h51 => ?_)
                · refine g_bipush (pc2 := 58) dX8_takesPair_56 k_bipush_16 rfl ?_
                  refine g_bipush (pc2 := 60) dX8_takesPair_58 k_bipush_7 rfl ?_
                  refine g_al0 (pc2 := 61) dX8_takesPair_60 rfl ?_
                  refine g_getr (pc2 := 64) (by rfl) (by rfl) flX8_22 dX8_takesPair_61 rfl ?_
                  refine g_iconst (pc2 := 65) dX8_takesPair_64 k_iconst_0 rfl ?_
                  refine g_iald (pc2 := 66) (by rfl) (by omega) (by decide) dX8_takesPair_65 rfl ?_
                  rw [v0]
                  refine g_imulN (pc2 := 67) dX8_takesPair_66 rfl ?_
                  refine g_iaddN (pc2 := 68) dX8_takesPair_67 rfl ?_
                  refine g_iconst (pc2 := 69) dX8_takesPair_68 k_iconst_5 rfl ?_
                  refine g_iaddN (pc2 := 70) dX8_takesPair_69 rfl ?_
                  refine g_is1 (pc2 := 71) dX8_takesPair_70 (by decide) rfl ?_
                  refine g_bipush (pc2 := 73) dX8_takesPair_71 k_bipush_16 rfl ?_
                  refine g_bipush (pc2 := 75) dX8_takesPair_73 k_bipush_7 rfl ?_
                  refine g_al0 (pc2 := 76) dX8_takesPair_75 rfl ?_
                  refine g_getr (pc2 := 79) (by rfl) (by rfl) flX8_22 dX8_takesPair_76 rfl ?_
                  refine g_iconst (pc2 := 80) dX8_takesPair_79 k_iconst_1 rfl ?_
                  refine g_iald (pc2 := 81) (by rfl) (by omega) (by decide) dX8_takesPair_80 rfl ?_
                  rw [v1]
                  refine g_imulN (pc2 := 82) dX8_takesPair_81 rfl ?_
                  refine g_iaddN (pc2 := 83) dX8_takesPair_82 rfl ?_
                  refine g_iconst (pc2 := 84) dX8_takesPair_83 k_iconst_5 rfl ?_
                  refine g_iaddN (pc2 := 85) dX8_takesPair_84 rfl ?_
                  refine g_is2 (pc2 := 86) dX8_takesPair_85 (by decide) rfl ?_
                  refine g_al0 (pc2 := 87) dX8_takesPair_86 rfl ?_
                  refine g_getr (pc2 := 90) (by rfl) (by rfl) flX8_13 dX8_takesPair_87 rfl ?_
                  refine g_il1 (pc2 := 91) dX8_takesPair_90 rfl ?_
                  refine g_iald (pc2 := 92) (by rfl) (by omega) (by decide) dX8_takesPair_91 rfl ?_
                  rw [e78]
                  refine g_bipush (pc2 := 94) dX8_takesPair_92 k_bipush_m4 rfl ?_
                  refine g_icmp_ne 112 97 dX8_takesPair_94 rfl rfl (fun h94 => ?_) (fun h94 => ?_)
                  · exact absurd hc.2.2.2.2.1 h94
                  · refine g_al0 (pc2 := 98) dX8_takesPair_97 rfl ?_
                    refine g_getr (pc2 := 101) (by rfl) (by rfl) flX8_13 dX8_takesPair_98 rfl ?_
                    refine g_il2 (pc2 := 102) dX8_takesPair_101 rfl ?_
                    refine g_iald (pc2 := 103) (by rfl) (by omega) (by decide) dX8_takesPair_102 rfl ?_
                    rw [e78]
                    refine g_bipush (pc2 := 105) dX8_takesPair_103 k_bipush_m4 rfl ?_
                    refine g_icmp_ne 112 108 dX8_takesPair_105 rfl rfl (fun h105 => ?_) (fun h105 => ?_)
                    · exact absurd hc.2.2.2.2.2 h105
                    · refine g_iconst (pc2 := 109) dX8_takesPair_108 k_iconst_1 rfl ?_
                      refine g_goto 113 dX8_takesPair_109 rfl ?_
                      refine g_is3 (pc2 := 114) dX8_takesPair_113 (by decide) rfl ?_
                      refine g_al0 (pc2 := 115) dX8_takesPair_114 rfl ?_
                      refine g_getr (pc2 := 118) (by rfl) (by rfl) flX8_13 dX8_takesPair_115 rfl ?_
                      refine g_il1 (pc2 := 119) dX8_takesPair_118 rfl ?_
                      refine g_al0 (pc2 := 120) dX8_takesPair_119 rfl ?_
                      refine g_getr (pc2 := 123) (by rfl) (by rfl) flX8_22 dX8_takesPair_120 rfl ?_
                      refine g_iconst (pc2 := 124) dX8_takesPair_123 k_iconst_1 rfl ?_
                      refine g_iald (pc2 := 125) (by rfl) (by omega) (by decide) dX8_takesPair_124 rfl ?_
                      rw [v1]
                      refine g_iast (pc2 := 126) (by rfl) (by omega) (by decide) dX8_takesPair_125 rfl ?_
                      refine g_al0 (pc2 := 127) dX8_takesPair_126 rfl ?_
                      refine g_getr (pc2 := 130) (by rfl) (by rfl) flX8_13 dX8_takesPair_127 rfl ?_
                      refine g_il2 (pc2 := 131) dX8_takesPair_130 rfl ?_
                      refine g_al0 (pc2 := 132) dX8_takesPair_131 rfl ?_
                      refine g_getr (pc2 := 135) (by rfl) (by rfl) flX8_22 dX8_takesPair_132 rfl ?_
                      refine g_iconst (pc2 := 136) dX8_takesPair_135 k_iconst_0 rfl ?_
                      refine g_iald (pc2 := 137) (by rfl) (by omega) (by decide) dX8_takesPair_136 rfl ?_
                      rw [show lt_up σ1 78 (16 + 7 * q.1.getD 0 0 + 5) (nI (q.1.getD 1 0)) 81 0 = σ1 81 0 from rfl, v0]
                      refine g_iast (pc2 := 138) (by rfl) (by omega) (by decide) dX8_takesPair_137 rfl ?_
                      refine g_il3 (pc2 := 139) dX8_takesPair_138 rfl ?_
                      exact g_zret dX8_takesPair_139 rfl (no true) (Nat.le_refl _) (Nat.le_refl _) (itQ_ok (itK_ok hq hI) ((hP.pr.read _ _).read _ _) (by rw [lt_up_row, lt_up_row, e78]; rfl) t1)
                · omega
        · have hb : itK tx n (σ 78) 3 p = none := itK_bad (fun q2 hq2 => by rw [hq] at hq2; cases hq2; rw [hI9, if_neg hok])
          refine g_if_eqB 54 9 dX8_takesPair_6 rfl rfl (fun h6 => ?_) (fun h6 => ?_)
          · simp [lenB, hlen] at h6
          · refine g_al0 (pc2 := 10) dX8_takesPair_9 rfl ?_
            refine g_getr (pc2 := 13) (by rfl) (by rfl) flX8_22 dX8_takesPair_10 rfl ?_
            refine g_iconst (pc2 := 14) dX8_takesPair_13 k_iconst_0 rfl ?_
            refine g_iald (pc2 := 15) (by rfl) (by omega) (by decide) dX8_takesPair_14 rfl ?_
            rw [v0]
            refine g_al0 (pc2 := 16) dX8_takesPair_15 rfl ?_
            refine g_getr (pc2 := 19) (by rfl) (by rfl) flX8_22 dX8_takesPair_16 rfl ?_
            refine g_iconst (pc2 := 20) dX8_takesPair_19 k_iconst_1 rfl ?_
            refine g_iald (pc2 := 21) (by rfl) (by omega) (by decide) dX8_takesPair_20 rfl ?_
            rw [v1]
            refine g_icmpN_eq 54 24 dX8_takesPair_21 rfl rfl (by omega) (by omega) (fun h21 => ?_) (fun h21 => ?_)
            · refine g_iconst (pc2 := 55) dX8_takesPair_54 k_iconst_0 rfl ?_
              exact g_zret dX8_takesPair_55 rfl (nz true) (Nat.le_refl _) (Nat.le_refl _) (itQ_bad hb hP.pr)
            · refine g_al0 (pc2 := 25) dX8_takesPair_24 rfl ?_
              refine g_getr (pc2 := 28) (by rfl) (by rfl) flX8_22 dX8_takesPair_25 rfl ?_
              refine g_iconst (pc2 := 29) dX8_takesPair_28 k_iconst_0 rfl ?_
              refine g_iald (pc2 := 30) (by rfl) (by omega) (by decide) dX8_takesPair_29 rfl ?_
              rw [v0]
              refine g_al0 (pc2 := 31) dX8_takesPair_30 rfl ?_
              refine g_getr (pc2 := 34) (by rfl) (by rfl) flX8_13 dX8_takesPair_31 rfl ?_
              refine g_iconst (pc2 := 35) dX8_takesPair_34 k_iconst_2 rfl ?_
              refine g_iald (pc2 := 36) (by rfl) (by omega) (by decide) dX8_takesPair_35 rfl ?_
              rw [r2]
              refine g_icmpN_ge 54 39 dX8_takesPair_36 rfl rfl (by omega) (by omega) (fun h36 => ?_) (fun h36 => ?_)
              · refine g_iconst (pc2 := 55) dX8_takesPair_54 k_iconst_0 rfl ?_
                exact g_zret dX8_takesPair_55 rfl (nz true) (Nat.le_refl _) (Nat.le_refl _) (itQ_bad hb hP.pr)
              · refine g_al0 (pc2 := 40) dX8_takesPair_39 rfl ?_
                refine g_getr (pc2 := 43) (by rfl) (by rfl) flX8_22 dX8_takesPair_40 rfl ?_
                refine g_iconst (pc2 := 44) dX8_takesPair_43 k_iconst_1 rfl ?_
                refine g_iald (pc2 := 45) (by rfl) (by omega) (by decide) dX8_takesPair_44 rfl ?_
                rw [v1]
                refine g_al0 (pc2 := 46) dX8_takesPair_45 rfl ?_
                refine g_getr (pc2 := 49) (by rfl) (by rfl) flX8_13 dX8_takesPair_46 rfl ?_
                refine g_iconst (pc2 := 50) dX8_takesPair_49 k_iconst_2 rfl ?_
                refine g_iald (pc2 := 51) (by rfl) (by omega) (by decide) dX8_takesPair_50 rfl ?_
                rw [r2]
                refine g_icmpN_lt 56 54 dX8_takesPair_51 rfl rfl (by omega) (by omega) (fun h51 => ?_) (fun h51 => ?_)
                · refine g_bipush (pc2 := 58) dX8_takesPair_56 k_bipush_16 rfl ?_
                  refine g_bipush (pc2 := 60) dX8_takesPair_58 k_bipush_7 rfl ?_
                  refine g_al0 (pc2 := 61) dX8_takesPair_60 rfl ?_
                  refine g_getr (pc2 := 64) (by rfl) (by rfl) flX8_22 dX8_takesPair_61 rfl ?_
                  refine g_iconst (pc2 := 65) dX8_takesPair_64 k_iconst_0 rfl ?_
                  refine g_iald (pc2 := 66) (by rfl) (by omega) (by decide) dX8_takesPair_65 rfl ?_
                  rw [v0]
                  refine g_imulN (pc2 := 67) dX8_takesPair_66 rfl ?_
                  refine g_iaddN (pc2 := 68) dX8_takesPair_67 rfl ?_
                  refine g_iconst (pc2 := 69) dX8_takesPair_68 k_iconst_5 rfl ?_
                  refine g_iaddN (pc2 := 70) dX8_takesPair_69 rfl ?_
                  refine g_is1 (pc2 := 71) dX8_takesPair_70 (by decide) rfl ?_
                  refine g_bipush (pc2 := 73) dX8_takesPair_71 k_bipush_16 rfl ?_
                  refine g_bipush (pc2 := 75) dX8_takesPair_73 k_bipush_7 rfl ?_
                  refine g_al0 (pc2 := 76) dX8_takesPair_75 rfl ?_
                  refine g_getr (pc2 := 79) (by rfl) (by rfl) flX8_22 dX8_takesPair_76 rfl ?_
                  refine g_iconst (pc2 := 80) dX8_takesPair_79 k_iconst_1 rfl ?_
                  refine g_iald (pc2 := 81) (by rfl) (by omega) (by decide) dX8_takesPair_80 rfl ?_
                  rw [v1]
                  refine g_imulN (pc2 := 82) dX8_takesPair_81 rfl ?_
                  refine g_iaddN (pc2 := 83) dX8_takesPair_82 rfl ?_
                  refine g_iconst (pc2 := 84) dX8_takesPair_83 k_iconst_5 rfl ?_
                  refine g_iaddN (pc2 := 85) dX8_takesPair_84 rfl ?_
                  refine g_is2 (pc2 := 86) dX8_takesPair_85 (by decide) rfl ?_
                  refine g_al0 (pc2 := 87) dX8_takesPair_86 rfl ?_
                  refine g_getr (pc2 := 90) (by rfl) (by rfl) flX8_13 dX8_takesPair_87 rfl ?_
                  refine g_il1 (pc2 := 91) dX8_takesPair_90 rfl ?_
                  refine g_iald (pc2 := 92) (by rfl) (by omega) (by decide) dX8_takesPair_91 rfl ?_
                  rw [e78]
                  refine g_bipush (pc2 := 94) dX8_takesPair_92 k_bipush_m4 rfl ?_
                  refine g_icmp_ne 112 97 dX8_takesPair_94 rfl rfl (fun h94 => ?_) (fun h94 => ?_)
                  · refine g_iconst (pc2 := 113) dX8_takesPair_112 k_iconst_0 rfl ?_
                    refine g_is3 (pc2 := 114) dX8_takesPair_113 (by decide) rfl ?_
                    refine g_al0 (pc2 := 115) dX8_takesPair_114 rfl ?_
                    refine g_getr (pc2 := 118) (by rfl) (by rfl) flX8_13 dX8_takesPair_115 rfl ?_
                    refine g_il1 (pc2 := 119) dX8_takesPair_118 rfl ?_
                    refine g_al0 (pc2 := 120) dX8_takesPair_119 rfl ?_
                    refine g_getr (pc2 := 123) (by rfl) (by rfl) flX8_22 dX8_takesPair_120 rfl ?_
                    refine g_iconst (pc2 := 124) dX8_takesPair_123 k_iconst_1 rfl ?_
                    refine g_iald (pc2 := 125) (by rfl) (by omega) (by decide) dX8_takesPair_124 rfl ?_
                    rw [v1]
                    refine g_iast (pc2 := 126) (by rfl) (by omega) (by decide) dX8_takesPair_125 rfl ?_
                    refine g_al0 (pc2 := 127) dX8_takesPair_126 rfl ?_
                    refine g_getr (pc2 := 130) (by rfl) (by rfl) flX8_13 dX8_takesPair_127 rfl ?_
                    refine g_il2 (pc2 := 131) dX8_takesPair_130 rfl ?_
                    refine g_al0 (pc2 := 132) dX8_takesPair_131 rfl ?_
                    refine g_getr (pc2 := 135) (by rfl) (by rfl) flX8_22 dX8_takesPair_132 rfl ?_
                    refine g_iconst (pc2 := 136) dX8_takesPair_135 k_iconst_0 rfl ?_
                    refine g_iald (pc2 := 137) (by rfl) (by omega) (by decide) dX8_takesPair_136 rfl ?_
                    rw [show lt_up σ1 78 (16 + 7 * q.1.getD 0 0 + 5) (nI (q.1.getD 1 0)) 81 0 = σ1 81 0 from rfl, v0]
                    refine g_iast (pc2 := 138) (by rfl) (by omega) (by decide) dX8_takesPair_137 rfl ?_
                    refine g_il3 (pc2 := 139) dX8_takesPair_138 rfl ?_
                    exact g_zret dX8_takesPair_139 rfl (nz true) (Nat.le_refl _) (Nat.le_refl _) (itQ_bad hb ((hP.pr.read _ _).read _ _))
                  · refine g_al0 (pc2 := 98) dX8_takesPair_97 rfl ?_
                    refine g_getr (pc2 := 101) (by rfl) (by rfl) flX8_13 dX8_takesPair_98 rfl ?_
                    refine g_il2 (pc2 := 102) dX8_takesPair_101 rfl ?_
                    refine g_iald (pc2 := 103) (by rfl) (by omega) (by decide) dX8_takesPair_102 rfl ?_
                    rw [e78]
                    refine g_bipush (pc2 := 105) dX8_takesPair_103 k_bipush_m4 rfl ?_
                    refine g_icmp_ne 112 108 dX8_takesPair_105 rfl rfl (fun h105 => ?_) (fun h105 => ?_)
                    · refine g_iconst (pc2 := 113) dX8_takesPair_112 k_iconst_0 rfl ?_
                      refine g_is3 (pc2 := 114) dX8_takesPair_113 (by decide) rfl ?_
                      refine g_al0 (pc2 := 115) dX8_takesPair_114 rfl ?_
                      refine g_getr (pc2 := 118) (by rfl) (by rfl) flX8_13 dX8_takesPair_115 rfl ?_
                      refine g_il1 (pc2 := 119) dX8_takesPair_118 rfl ?_
                      refine g_al0 (pc2 := 120) dX8_takesPair_119 rfl ?_
                      refine g_getr (pc2 := 123) (by rfl) (by rfl) flX8_22 dX8_takesPair_120 rfl ?_
                      refine g_iconst (pc2 := 124) dX8_takesPair_123 k_iconst_1 rfl ?_
                      refine g_iald (pc2 := 125) (by rfl) (by omega) (by decide) dX8_takesPair_124 rfl ?_
                      rw [v1]
                      refine g_iast (pc2 := 126) (by rfl) (by omega) (by decide) dX8_takesPair_125 rfl ?_
                      refine g_al0 (pc2 := 127) dX8_takesPair_126 rfl ?_
                      refine g_getr (pc2 := 130) (by rfl) (by rfl) flX8_13 dX8_takesPair_127 rfl ?_
                      refine g_il2 (pc2 := 131) dX8_takesPair_130 rfl ?_
                      refine g_al0 (pc2 := 132) dX8_takesPair_131 rfl ?_
                      refine g_getr (pc2 := 135) (by rfl) (by rfl) flX8_22 dX8_takesPair_132 rfl ?_
                      refine g_iconst (pc2 := 136) dX8_takesPair_135 k_iconst_0 rfl ?_
                      refine g_iald (pc2 := 137) (by rfl) (by omega) (by decide) dX8_takesPair_136 rfl ?_
                      rw [show lt_up σ1 78 (16 + 7 * q.1.getD 0 0 + 5) (nI (q.1.getD 1 0)) 81 0 = σ1 81 0 from rfl, v0]
                      refine g_iast (pc2 := 138) (by rfl) (by omega) (by decide) dX8_takesPair_137 rfl ?_
                      refine g_il3 (pc2 := 139) dX8_takesPair_138 rfl ?_
                      exact g_zret dX8_takesPair_139 rfl (nz true) (Nat.le_refl _) (Nat.le_refl _) (itQ_bad hb ((hP.pr.read _ _).read _ _))
                    · exfalso; apply hok; simp only [okPair, Bool.and_eq_true, Bool.not_eq_true', decide_eq_true_eq, decide_eq_false_iff_not]; rw [e2]; exact ⟨hlen, h21, by omega, h51, h94, h105⟩
                · refine g_iconst (pc2 := 55) dX8_takesPair_54 k_iconst_0 rfl ?_
                  exact g_zret dX8_takesPair_55 rfl (nz true) (Nat.le_refl _) (Nat.le_refl _) (itQ_bad hb hP.pr)
      · have hb : itK tx n (σ 78) 3 p = none := itK_bad (fun q2 hq2 => by rw [hq] at hq2; cases hq2; rw [hI9]; simp [okPair, hlen])
        refine g_if_eqB 54 9 dX8_takesPair_6 rfl rfl (fun h6 => ?_) (fun h6 => ?_)
        · refine g_iconst (pc2 := 55) dX8_takesPair_54 k_iconst_0 rfl ?_
          exact g_zret dX8_takesPair_55 rfl (nz true) (Nat.le_refl _) (Nat.le_refl _) (itQ_bad hb hP.pr)
        · simp [lenB] at h6; omega
  refine g_al0 (pc2 := 1) dX8_takesPair_0 rfl ?_
  refine g_iconst (pc2 := 2) dX8_takesPair_1 k_iconst_2 rfl ?_
  refine g_iconst (pc2 := 3) dX8_takesPair_2 k_iconst_2 rfl ?_
  refine g_callV (pc2 := 6) (R_m_tn l d σ hT hp hp2 2 2 (by decide) (by decide)) meX8_takesNumbers mlX8_73 (by rfl) ⟨_, rfl, rfl⟩ rfl rfl (by simp) ⟨Nat.le_refl _, Nat.le_refl _⟩ dX8_takesPair_3 rfl ?_
  rintro r sh2 σ1 ⟨rfl, rfl, hP, hTold⟩
  exact fin σ1 hP hTold
theorem kindAt_ne0 {tx : Nat → Nat} {n p : Nat} (h : wordB tx n p 121 97 114 100 = false) : kindAt tx n p ≠ some 0 := by
  unfold kindAt
  rw [h, if_neg (by decide)]
  intro e
  split at e
  · cases e
  · split at e
    · cases e
    · split at e
      · cases e
      · split at e
        · cases e
        · cases e
theorem R_m_takesItem (l : lt_L) (d : Nat) (σ : lt_S) {n p ln T N : Nat} {tx : Nat → Nat} (hT : TX σ n tx) (hp : σ 76 6 = nI p) (hp2 : p ≤ 200) (hW : Wp (σ 78) ln T N) : lt_R l (d + 6) 0 0 mX8_takesItem lt_SA σ [.ref 76] (itQ σ (itemAt tx n (σ 78) p)) := by
  refine lt_R.of [some (.ref 76)] rfl rfl (Nat.le_of_ble_eq_true rfl) ?_
  have e0 : nI 0 = 0 := nI_0
  have key : ∀ k, kindAt tx n p = some k → itemAt tx n (σ 78) p = itK tx n (σ 78) k p := by
    intro k hk
    unfold itemAt itK
    rw [hk]
    simp only
    cases numsAt tx n 6 (p + 5) with
    | none => rfl
    | some q => cases itemR (σ 78) k q.1 <;> rfl
  have bad : kindAt tx n p = none → itemAt tx n (σ 78) p = none := by
    intro hk
    unfold itemAt
    rw [hk]
  have bad0 : σ 78 0 = nI 0 → kindAt tx n p ≠ some 0 → itemAt tx n (σ 78) p = none := by
    intro h0 hk
    cases hk2 : kindAt tx n p with
    | none => exact bad hk2
    | some k =>
      rw [key k hk2]
      refine itK_bad (fun q _ => ?_)
      unfold itemR
      rw [if_neg (fun e => hk (by rw [hk2, e])), if_pos h0]
  refine g_al0 (pc2 := 1) dX8_takesItem_0 rfl ?_
  refine g_bipush (pc2 := 3) dX8_takesItem_1 k_bipush_121 rfl ?_
  refine g_bipush (pc2 := 5) dX8_takesItem_3 k_bipush_97 rfl ?_
  refine g_bipush (pc2 := 7) dX8_takesItem_5 k_bipush_114 rfl ?_
  refine g_bipush (pc2 := 9) dX8_takesItem_7 k_bipush_100 rfl ?_
  refine g_cVi (pc2 := 12) (R_m_isWord l (d + 4) _ hT hp (by omega) _ _ _ _ (by decide) (by decide) (by decide) (by decide)) meX8_isWord mlX8_76 (by rfl) ⟨_, rfl, rfl⟩ rfl rfl (by simp) ⟨Nat.le_refl _, Nat.le_refl _⟩ dX8_takesItem_9 rfl ?_
  refine g_if_eqB 20 15 dX8_takesItem_12 rfl rfl (fun h12 => ?_) (fun h12 => ?_)
  · refine g_al0 (pc2 := 21) dX8_takesItem_20 rfl ?_
    refine g_getr (pc2 := 24) (by rfl) (by rfl) flX8_13 dX8_takesItem_21 rfl ?_
    refine g_iconst (pc2 := 25) dX8_takesItem_24 k_iconst_0 rfl ?_
    refine g_iald (pc2 := 26) (by rfl) (by omega) (by decide) dX8_takesItem_25 rfl ?_
    refine g_if_ne 31 29 dX8_takesItem_26 rfl rfl (fun h26 => ?_) (fun h26 => ?_)
    · refine g_al0 (pc2 := 32) dX8_takesItem_31 rfl ?_
      refine g_bipush (pc2 := 34) dX8_takesItem_32 k_bipush_112 rfl ?_
      refine g_bipush (pc2 := 36) dX8_takesItem_34 k_bipush_97 rfl ?_
      refine g_bipush (pc2 := 38) dX8_takesItem_36 k_bipush_116 rfl ?_
      refine g_bipush (pc2 := 40) dX8_takesItem_38 k_bipush_104 rfl ?_
      refine g_cVi (pc2 := 43) (R_m_isWord l (d + 4) _ hT hp (by omega) _ _ _ _ (by decide) (by decide) (by decide) (by decide)) meX8_isWord mlX8_76 (by rfl) ⟨_, rfl, rfl⟩ rfl rfl (by simp) ⟨Nat.le_refl _, Nat.le_refl _⟩ dX8_takesItem_40 rfl ?_
      refine g_if_eqB 51 46 dX8_takesItem_43 rfl rfl (fun h43 => ?_) (fun h43 => ?_)
      · refine g_al0 (pc2 := 52) dX8_takesItem_51 rfl ?_
        refine g_bipush (pc2 := 54) dX8_takesItem_52 k_bipush_99 rfl ?_
        refine g_bipush (pc2 := 56) dX8_takesItem_54 k_bipush_111 rfl ?_
        refine g_bipush (pc2 := 58) dX8_takesItem_56 k_bipush_109 rfl ?_
        refine g_bipush (pc2 := 60) dX8_takesItem_58 k_bipush_101 rfl ?_
        refine g_cVi (pc2 := 63) (R_m_isWord l (d + 4) _ hT hp (by omega) _ _ _ _ (by decide) (by decide) (by decide) (by decide)) meX8_isWord mlX8_76 (by rfl) ⟨_, rfl, rfl⟩ rfl rfl (by simp) ⟨Nat.le_refl _, Nat.le_refl _⟩ dX8_takesItem_60 rfl ?_
        refine g_if_eqB 71 66 dX8_takesItem_63 rfl rfl (fun h63 => ?_) (fun h63 => ?_)
        · refine g_al0 (pc2 := 72) dX8_takesItem_71 rfl ?_
          refine g_bipush (pc2 := 74) dX8_takesItem_72 k_bipush_112 rfl ?_
          refine g_bipush (pc2 := 76) dX8_takesItem_74 k_bipush_97 rfl ?_
          refine g_bipush (pc2 := 78) dX8_takesItem_76 k_bipush_105 rfl ?_
          refine g_bipush (pc2 := 80) dX8_takesItem_78 k_bipush_114 rfl ?_
          refine g_cVi (pc2 := 83) (R_m_isWord l (d + 4) _ hT hp (by omega) _ _ _ _ (by decide) (by decide) (by decide) (by decide)) meX8_isWord mlX8_76 (by rfl) ⟨_, rfl, rfl⟩ rfl rfl (by simp) ⟨Nat.le_refl _, Nat.le_refl _⟩ dX8_takesItem_80 rfl ?_
          refine g_if_eqB 91 86 dX8_takesItem_83 rfl rfl (fun h83 => ?_) (fun h83 => ?_)
          · refine g_al0 (pc2 := 92) dX8_takesItem_91 rfl ?_
            refine g_bipush (pc2 := 94) dX8_takesItem_92 k_bipush_115 rfl ?_
            refine g_bipush (pc2 := 96) dX8_takesItem_94 k_bipush_112 rfl ?_
            refine g_bipush (pc2 := 98) dX8_takesItem_96 k_bipush_97 rfl ?_
            refine g_bipush (pc2 := 100) dX8_takesItem_98 k_bipush_110 rfl ?_
            refine g_cVi (pc2 := 103) (R_m_isWord l (d + 4) _ hT hp (by omega) _ _ _ _ (by decide) (by decide) (by decide) (by decide)) meX8_isWord mlX8_76 (by rfl) ⟨_, rfl, rfl⟩ rfl rfl (by simp) ⟨Nat.le_refl _, Nat.le_refl _⟩ dX8_takesItem_100 rfl ?_
            refine g_if_eqB 117 106 dX8_takesItem_103 rfl rfl (fun h103 => ?_) (fun h103 => ?_)
            · refine g_iconst (pc2 := 118) dX8_takesItem_117 k_iconst_0 rfl ?_
              exact g_zret dX8_takesItem_118 rfl (nz true) (Nat.le_refl _) (Nat.le_refl _) (itQ_bad (bad (by simp [kindAt, h12, h43, h63, h83, h103])) (PR.rf σ))
            · refine g_al0 (pc2 := 107) dX8_takesItem_106 rfl ?_
              rw [key 4 (by simp [kindAt, h12, h43, h63, h83, h103])]
              refine g_callV (pc2 := 110) (R_m_takesGap l d σ hT hp hp2 (by rw [e0]; exact h26)) meX8_takesGap mlX8_92 (by rfl) ⟨_, rfl, rfl⟩ rfl rfl (by simp) ⟨Nat.le_refl _, Nat.le_refl _⟩ dX8_takesItem_107 rfl ?_
              rintro r sh2 σ1 ⟨rfl, rfl, hP, hu⟩
              refine g_if_eqB 117 113 dX8_takesItem_110 rfl rfl (fun hz => ?_) (fun hz => ?_)
              · refine g_iconst (pc2 := 118) dX8_takesItem_117 k_iconst_0 rfl ?_
                exact g_zret dX8_takesItem_118 rfl (nz true) (Nat.le_refl _) (Nat.le_refl _) ⟨by rw [hz]; rfl, rfl, hP, hu⟩
              · refine g_iconst (pc2 := 114) dX8_takesItem_113 k_iconst_1 rfl ?_
                refine g_goto 118 dX8_takesItem_114 rfl ?_
                exact g_zret dX8_takesItem_118 rfl (no true) (Nat.le_refl _) (Nat.le_refl _) ⟨by rw [hz]; rfl, rfl, hP, hu⟩
          · refine g_al0 (pc2 := 87) dX8_takesItem_86 rfl ?_
            rw [key 3 (by simp [kindAt, h12, h43, h63, h83])]
            refine g_callV (pc2 := 90) (R_m_takesPair l d σ hT hp hp2 hW (by rw [e0]; exact h26)) meX8_takesPair mlX8_89 (by rfl) ⟨_, rfl, rfl⟩ rfl rfl (by simp) ⟨Nat.le_refl _, Nat.le_refl _⟩ dX8_takesItem_87 rfl ?_
            rintro r sh2 σ1 ⟨rfl, rfl, hP, hu⟩
            exact g_zret dX8_takesItem_90 rfl (bI_nar _) (Nat.le_refl _) (Nat.le_refl _) ⟨rfl, rfl, hP, hu⟩
        · refine g_al0 (pc2 := 67) dX8_takesItem_66 rfl ?_
          rw [key 2 (by simp [kindAt, h12, h43, h63])]
          refine g_callV (pc2 := 70) (R_m_takesTrain l d σ hT hp hp2 hW (by rw [e0]; exact h26)) meX8_takesTrain mlX8_86 (by rfl) ⟨_, rfl, rfl⟩ rfl rfl (by simp) ⟨Nat.le_refl _, Nat.le_refl _⟩ dX8_takesItem_67 rfl ?_
          rintro r sh2 σ1 ⟨rfl, rfl, hP, hu⟩
          exact g_zret dX8_takesItem_70 rfl (bI_nar _) (Nat.le_refl _) (Nat.le_refl _) ⟨rfl, rfl, hP, hu⟩
      · refine g_al0 (pc2 := 47) dX8_takesItem_46 rfl ?_
        rw [key 1 (by simp [kindAt, h12, h43])]
        refine g_callV (pc2 := 50) (R_m_takesPath l d σ hT hp hp2 hW (by rw [e0]; exact h26)) meX8_takesPath mlX8_83 (by rfl) ⟨_, rfl, rfl⟩ rfl rfl (by simp) ⟨Nat.le_refl _, Nat.le_refl _⟩ dX8_takesItem_47 rfl ?_
        rintro r sh2 σ1 ⟨rfl, rfl, hP, hu⟩
        exact g_zret dX8_takesItem_50 rfl (bI_nar _) (Nat.le_refl _) (Nat.le_refl _) ⟨rfl, rfl, hP, hu⟩
    · refine g_iconst (pc2 := 30) dX8_takesItem_29 k_iconst_0 rfl ?_
      exact g_zret dX8_takesItem_30 rfl (nz true) (Nat.le_refl _) (Nat.le_refl _) (itQ_bad (bad0 (by rw [e0]; exact h26) (kindAt_ne0 h12)) (PR.rf σ))
  · refine g_al0 (pc2 := 16) dX8_takesItem_15 rfl ?_
    rw [key 0 (by simp [kindAt, h12])]
    refine g_callV (pc2 := 19) (R_m_takesYard l d σ hT hp hp2) meX8_takesYard mlX8_80 (by rfl) ⟨_, rfl, rfl⟩ rfl rfl (by simp) ⟨Nat.le_refl _, Nat.le_refl _⟩ dX8_takesItem_16 rfl ?_
    rintro r sh2 σ1 ⟨rfl, rfl, hP, hu⟩
    exact g_zret dX8_takesItem_19 rfl (bI_nar _) (Nat.le_refl _) (Nat.le_refl _) ⟨rfl, rfl, hP, hu⟩
