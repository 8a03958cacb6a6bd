/-! the class: train, count -/
theorem R_c_train (l : lt_L) (d : Nat) (t : lt_H) (σ : lt_S) {w : Nat → Int32} {ln T N : Nat} (hc : CC σ w ln T N) (i k : Int32) : lt_T l (d + 5) mX7_train (lt_SC ++ t) σ [.ref 10, .int i, .int k] (some (F_train w i k)) σ := by
  refine lt_T.of [some (.ref 10), some (.int i), some (.int k)] rfl rfl (Nat.le_of_ble_eq_true rfl) ?_
  have hw := hc.1
  have hN := hw.2.2.1
  have hT := hw.2.1
  have e2 : σ 13 2 = w 2 := hc.2.1.1.2.2.1
  generalize hr : some (F_train w i k) = r
  have fin : hasB i (w 2) = true → lt_g l (d + 5) mX7_train (lt_SC ++ t) σ 13 [some (.ref 10), some (.int i), some (.int k)] [] r σ := by
    intro h1
    have h1b := h1
    rw [hN.1] at h1
    obtain ⟨i, hi, rfl⟩ := hasB_ix (by omega) h1
    have t1 := tN_nI (show i < 2 ^ 31 by omega)
    obtain ⟨y0, y1, y5⟩ := hc.2.1.2.2 i hi
    obtain ⟨p2, p3, p4, p6⟩ := hc.2.2.1 i hi
    have z0 : σ 15 i = w (16 + 7 * i + 0) := y0
    have z1 : σ 16 i = w (16 + 7 * i + 1) := y1
    have z5 : σ 17 i = w (16 + 7 * i + 5) := y5
    have z2 : σ 19 i = w (16 + 7 * i + 2) := p2
    have z3 : σ 20 i = w (16 + 7 * i + 3) := p3
    have z4 : σ 21 i = if w (16 + 7 * i + 4) = -4 then nI 9 else w (16 + 7 * i + 4) := p4
    have z6 : σ 22 i = w (16 + 7 * i + 6) := p6
    subst hr
    cases h : hasB k (nI 9) with
    | false =>
      have ho := hasB_out (by decide) h
      refine g_il2 (pc2 := 14) dX7_train_13 rfl ?_
      refine g_tableOut 168 dX7_train_14 (by omega) rfl ?_
      refine g_iconst (pc2 := 169) dX7_train_168 k_iconst_m1 rfl ?_
      exact g_iretT dX7_train_169 rfl (Nat.le_refl _) (Nat.le_refl _) (by simp [F_train, h]) (rfl)
    | true =>
      obtain ⟨k, hk, rfl⟩ := hasB_ix (by decide) h
      unfold F_train
      rw [h1b, h, Bool.and_self, if_pos rfl, t1, tN_nI (by omega)]
      clear h
      rcases (show k = 0 ∨ k = 1 ∨ k = 2 ∨ k = 3 ∨ k = 4 ∨ k = 5 ∨ k = 6 ∨ k = 7 ∨ k = 8 by omega) with rfl | rfl | rfl | rfl | rfl | rfl | rfl | rfl | rfl
      · refine g_il2 (pc2 := 14) dX7_train_13 rfl ?_
        refine g_tableIn 64 dX7_train_14 (by decide) (by decide) (off := 50) (by decide) rfl ?_
        refine g_al0 (pc2 := 65) dX7_train_64 rfl ?_
        refine g_getr (pc2 := 68) (by rfl) (by rfl) flX7_19 dX7_train_65 rfl ?_
        refine g_getr (pc2 := 71) (by rfl) (by rfl) flX7_125 dX7_train_68 rfl ?_
        refine g_il1 (pc2 := 72) dX7_train_71 rfl ?_
        refine g_iald (pc2 := 73) (by rfl) (by omega) (by decide) dX7_train_72 rfl ?_
        rw [z0]
        exact g_iretT dX7_train_73 rfl (Nat.le_refl _) (Nat.le_refl _) (by rw [if_pos (by decide)]) (rfl)
      · refine g_il2 (pc2 := 14) dX7_train_13 rfl ?_
        refine g_tableIn 74 dX7_train_14 (by decide) (by decide) (off := 60) (by decide) rfl ?_
        refine g_al0 (pc2 := 75) dX7_train_74 rfl ?_
        refine g_getr (pc2 := 78) (by rfl) (by rfl) flX7_19 dX7_train_75 rfl ?_
        refine g_getr (pc2 := 81) (by rfl) (by rfl) flX7_129 dX7_train_78 rfl ?_
        refine g_il1 (pc2 := 82) dX7_train_81 rfl ?_
        refine g_iald (pc2 := 83) (by rfl) (by omega) (by decide) dX7_train_82 rfl ?_
        rw [z1]
        exact g_iretT dX7_train_83 rfl (Nat.le_refl _) (Nat.le_refl _) (by rw [if_pos (by decide)]) (rfl)
      · refine g_il2 (pc2 := 14) dX7_train_13 rfl ?_
        refine g_tableIn 84 dX7_train_14 (by decide) (by decide) (off := 70) (by decide) rfl ?_
        refine g_al0 (pc2 := 85) dX7_train_84 rfl ?_
        refine g_getr (pc2 := 88) (by rfl) (by rfl) flX7_26 dX7_train_85 rfl ?_
        refine g_getr (pc2 := 91) (by rfl) (by rfl) flX7_132 dX7_train_88 rfl ?_
        refine g_il1 (pc2 := 92) dX7_train_91 rfl ?_
        refine g_iald (pc2 := 93) (by rfl) (by omega) (by decide) dX7_train_92 rfl ?_
        rw [z2]
        exact g_iretT dX7_train_93 rfl (Nat.le_refl _) (Nat.le_refl _) (by rw [if_pos (by decide)]) (rfl)
      · refine g_il2 (pc2 := 14) dX7_train_13 rfl ?_
        refine g_tableIn 94 dX7_train_14 (by decide) (by decide) (off := 80) (by decide) rfl ?_
        refine g_al0 (pc2 := 95) dX7_train_94 rfl ?_
        refine g_getr (pc2 := 98) (by rfl) (by rfl) flX7_26 dX7_train_95 rfl ?_
        refine g_getr (pc2 := 101) (by rfl) (by rfl) flX7_135 dX7_train_98 rfl ?_
        refine g_il1 (pc2 := 102) dX7_train_101 rfl ?_
        refine g_iald (pc2 := 103) (by rfl) (by omega) (by decide) dX7_train_102 rfl ?_
        rw [z3]
        exact g_iretT dX7_train_103 rfl (Nat.le_refl _) (Nat.le_refl _) (by rw [if_pos (by decide)]) (rfl)
      · have hv := (hw.2.2.2.2 i hi).2.2.2.1
        have hcase : (if w (16 + 7 * i + 4) = -4 then nI 9 else w (16 + 7 * i + 4)) = nI 9 ↔ w (16 + 7 * i + 4) = -4 := (wishC hT.2.2 hv (Or.inl rfl)).trans (by rw [if_pos rfl])
        refine g_il2 (pc2 := 14) dX7_train_13 rfl ?_
        refine g_tableIn 104 dX7_train_14 (by decide) (by decide) (off := 90) (by decide) rfl ?_
        refine g_al0 (pc2 := 105) dX7_train_104 rfl ?_
        refine g_getr (pc2 := 108) (by rfl) (by rfl) flX7_26 dX7_train_105 rfl ?_
        refine g_getr (pc2 := 111) (by rfl) (by rfl) flX7_138 dX7_train_108 rfl ?_
        refine g_il1 (pc2 := 112) dX7_train_111 rfl ?_
        refine g_iald (pc2 := 113) (by rfl) (by omega) (by decide) dX7_train_112 rfl ?_
        rw [z4]
        refine g_bipush (pc2 := 115) dX7_train_113 k_bipush_9 rfl ?_
        refine g_icmp_ne 123 118 dX7_train_115 rfl rfl (fun h115 => ?_) (fun h115 => ?_)
        · refine g_al0 (pc2 := 124) dX7_train_123 rfl ?_
          refine g_getr (pc2 := 127) (by rfl) (by rfl) flX7_26 dX7_train_124 rfl ?_
          refine g_getr (pc2 := 130) (by rfl) (by rfl) flX7_138 dX7_train_127 rfl ?_
          refine g_il1 (pc2 := 131) dX7_train_130 rfl ?_
          refine g_iald (pc2 := 132) (by rfl) (by omega) (by decide) dX7_train_131 rfl ?_
          try rw [z4]
          exact g_iretT dX7_train_132 rfl (Nat.le_refl _) (Nat.le_refl _) (by rw [if_pos (show 4 < 7 by decide)]; first | (exact (hcase.mp h115).symm) | (rw [if_neg (fun q => h115 (hcase.mpr q))])) (rfl)
        · refine g_bipush (pc2 := 120) dX7_train_118 k_bipush_m4 rfl ?_
          refine g_goto 132 dX7_train_120 rfl ?_
          try rw [z4]
          exact g_iretT dX7_train_132 rfl (Nat.le_refl _) (Nat.le_refl _) (by rw [if_pos (show 4 < 7 by decide)]; first | (exact (hcase.mp h115).symm) | (rw [if_neg (fun q => h115 (hcase.mpr q))])) (rfl)
      · refine g_il2 (pc2 := 14) dX7_train_13 rfl ?_
        refine g_tableIn 133 dX7_train_14 (by decide) (by decide) (off := 119) (by decide) rfl ?_
        refine g_al0 (pc2 := 134) dX7_train_133 rfl ?_
        refine g_getr (pc2 := 137) (by rfl) (by rfl) flX7_19 dX7_train_134 rfl ?_
        refine g_getr (pc2 := 140) (by rfl) (by rfl) flX7_141 dX7_train_137 rfl ?_
        refine g_il1 (pc2 := 141) dX7_train_140 rfl ?_
        refine g_iald (pc2 := 142) (by rfl) (by omega) (by decide) dX7_train_141 rfl ?_
        rw [z5]
        exact g_iretT dX7_train_142 rfl (Nat.le_refl _) (Nat.le_refl _) (by rw [if_pos (by decide)]) (rfl)
      · refine g_il2 (pc2 := 14) dX7_train_13 rfl ?_
        refine g_tableIn 143 dX7_train_14 (by decide) (by decide) (off := 129) (by decide) rfl ?_
        refine g_al0 (pc2 := 144) dX7_train_143 rfl ?_
        refine g_getr (pc2 := 147) (by rfl) (by rfl) flX7_26 dX7_train_144 rfl ?_
        refine g_getr (pc2 := 150) (by rfl) (by rfl) flX7_144 dX7_train_147 rfl ?_
        refine g_il1 (pc2 := 151) dX7_train_150 rfl ?_
        refine g_iald (pc2 := 152) (by rfl) (by omega) (by decide) dX7_train_151 rfl ?_
        rw [z6]
        exact g_iretT dX7_train_152 rfl (Nat.le_refl _) (Nat.le_refl _) (by rw [if_pos (by decide)]) (rfl)
      · refine g_il2 (pc2 := 14) dX7_train_13 rfl ?_
        refine g_tableIn 153 dX7_train_14 (by decide) (by decide) (off := 139) (by decide) rfl ?_
        refine g_al0 (pc2 := 154) dX7_train_153 rfl ?_
        refine g_il1 (pc2 := 155) dX7_train_154 rfl ?_
        refine g_cVi (pc2 := 158) (R_c_fittingTracks l (d + 1) _ _ hc _ hi) meX7_fittingTracks mlX7_147 (by rfl) ⟨_, rfl, rfl⟩ rfl rfl (by simp) ⟨Nat.le_refl _, Nat.le_refl _⟩ dX7_train_155 rfl ?_
        exact g_iretT dX7_train_158 rfl (Nat.le_refl _) (Nat.le_refl _) (by rw [if_neg (by decide), if_pos rfl]) (rfl)
      · refine g_il2 (pc2 := 14) dX7_train_13 rfl ?_
        refine g_tableIn 159 dX7_train_14 (by decide) (by decide) (off := 145) (by decide) rfl ?_
        refine g_al0 (pc2 := 160) dX7_train_159 rfl ?_
        refine g_getr (pc2 := 163) (by rfl) (by rfl) flX7_47 dX7_train_160 rfl ?_
        refine g_il1 (pc2 := 164) dX7_train_163 rfl ?_
        refine g_cVi (pc2 := 167) (R_c_freeTracks l d _ _ hc _ hi) meX0_freeTracks mlX7_150 (by rfl) ⟨_, rfl, rfl⟩ rfl rfl (by simp) ⟨Nat.le_refl _, Nat.le_refl _⟩ dX7_train_164 rfl ?_
        exact g_iretT dX7_train_167 rfl (Nat.le_refl _) (Nat.le_refl _) (by rw [if_neg (by decide), if_neg (by decide)]) (rfl)
  refine g_al0 (pc2 := 1) dX7_train_0 rfl ?_
  refine g_getr (pc2 := 4) (by rfl) (by rfl) flX7_19 dX7_train_1 rfl ?_
  refine g_il1 (pc2 := 5) dX7_train_4 rfl ?_
  refine g_cVi (pc2 := 8) (R_c_hasTrain13 l (d + 3) _ _ _) meX6_hasTrain mlX7_122 (by rfl) ⟨_, rfl, rfl⟩ rfl rfl (by simp) ⟨Nat.le_refl _, Nat.le_refl _⟩ dX7_train_5 rfl ?_
  rw [e2]
  refine g_if_neB 13 11 dX7_train_8 rfl rfl (fun h8 => ?_) (fun h8 => ?_)
  · exact fin h8
  · subst hr
    refine g_iconst (pc2 := 12) dX7_train_11 k_iconst_m1 rfl ?_
    exact g_iretT dX7_train_12 rfl (Nat.le_refl _) (Nat.le_refl _) (by simp [F_train, h8]) (rfl)
theorem R_c_count (l : lt_L) (d : Nat) (t : lt_H) (σ : lt_S) {w : Nat → Int32} {ln T N : Nat} (hc : CC σ w ln T N) (x : Int32) : lt_T l (d + 2) mX7_count (lt_SC ++ t) σ [.ref 10, .int x] (some (F_count w (σ 44 2) (σ 11 1) x)) σ := by
  refine lt_T.of [some (.ref 10), some (.int x)] rfl rfl (Nat.le_of_ble_eq_true rfl) ?_
  have hw := hc.1
  have hT := hw.2.1
  have e0 : σ 13 0 = w 0 := hc.2.1.1.1
  have e1 : σ 13 1 = w 1 := hc.2.1.1.2.1
  have e2 : σ 13 2 = w 2 := hc.2.1.1.2.2.1
  have e3 : σ 13 3 = w 3 := hc.2.1.1.2.2.2
  have h22 : ∀ i, i < N → σ 22 i = w (16 + 7 * i + 6) := fun i hi => (hc.2.2.1 i hi).2.2.2
  have h22b : ∀ i, i < N → σ 22 i = (fun i => w (16 + 7 * i + 6)) i ∧ ((fun i => w (16 + 7 * i + 6)) i = -4 ∨ ∃ t, t < 5 ∧ (fun i => w (16 + 7 * i + 6)) i = nI t) := fun i hi => ⟨h22 i hi, by
    rcases (hw.2.2.2.2 i hi).2.2.2.2.2 with e | ⟨u, hu, e, -⟩
    · exact Or.inl e
    · exact Or.inr ⟨u, by omega, e⟩⟩
  have hwi : sumF (fun i => !decide ((fun i => w (16 + 7 * i + 6)) i = -4) && decide ((fun i => w (16 + 7 * i + 6)) i = w (16 + 7 * i + 4))) N = pf_wished w := by unfold pf_wished; rw [hw.tr.2.1]
  cases h : hasB x (nI 8) with
  | false =>
    have ho := hasB_out (by decide) h
    refine g_il1 (pc2 := 1) dX7_count_0 rfl ?_
    refine g_tableOut 113 dX7_count_1 (by omega) rfl ?_
    refine g_iconst (pc2 := 114) dX7_count_113 k_iconst_m1 rfl ?_
    exact g_iretT dX7_count_114 rfl (Nat.le_refl _) (Nat.le_refl _) (by simp [F_count, h]) (rfl)
  | true =>
    obtain ⟨k, hk, rfl⟩ := hasB_ix (by decide) h
    unfold F_count
    rw [h, if_pos rfl, tN_nI (by omega)]
    clear h
    rcases (show k = 0 ∨ k = 1 ∨ k = 2 ∨ k = 3 ∨ k = 4 ∨ k = 5 ∨ k = 6 ∨ k = 7 by omega) with rfl | rfl | rfl | rfl | rfl | rfl | rfl | rfl
    · refine g_il1 (pc2 := 1) dX7_count_0 rfl ?_
      refine g_tableIn 48 dX7_count_1 (by decide) (by decide) (off := 47) (by decide) rfl ?_
      refine g_al0 (pc2 := 49) dX7_count_48 rfl ?_
      refine g_getr (pc2 := 52) (by rfl) (by rfl) flX7_19 dX7_count_49 rfl ?_
      refine g_geti (pc2 := 55) (by rfl) (by rfl) flX7_100 dX7_count_52 rfl ?_
      rw [e0]
      exact g_iretT dX7_count_55 rfl (Nat.le_refl _) (Nat.le_refl _) (rfl) (rfl)
    · refine g_il1 (pc2 := 1) dX7_count_0 rfl ?_
      refine g_tableIn 56 dX7_count_1 (by decide) (by decide) (off := 55) (by decide) rfl ?_
      refine g_al0 (pc2 := 57) dX7_count_56 rfl ?_
      refine g_getr (pc2 := 60) (by rfl) (by rfl) flX7_19 dX7_count_57 rfl ?_
      refine g_geti (pc2 := 63) (by rfl) (by rfl) flX7_153 dX7_count_60 rfl ?_
      rw [e1]
      exact g_iretT dX7_count_63 rfl (Nat.le_refl _) (Nat.le_refl _) (rfl) (rfl)
    · refine g_il1 (pc2 := 1) dX7_count_0 rfl ?_
      refine g_tableIn 64 dX7_count_1 (by decide) (by decide) (off := 63) (by decide) rfl ?_
      refine g_al0 (pc2 := 65) dX7_count_64 rfl ?_
      refine g_getr (pc2 := 68) (by rfl) (by rfl) flX7_19 dX7_count_65 rfl ?_
      refine g_geti (pc2 := 71) (by rfl) (by rfl) flX7_109 dX7_count_68 rfl ?_
      rw [e2]
      exact g_iretT dX7_count_71 rfl (Nat.le_refl _) (Nat.le_refl _) (rfl) (rfl)
    · refine g_il1 (pc2 := 1) dX7_count_0 rfl ?_
      refine g_tableIn 72 dX7_count_1 (by decide) (by decide) (off := 71) (by decide) rfl ?_
      refine g_al0 (pc2 := 73) dX7_count_72 rfl ?_
      refine g_getr (pc2 := 76) (by rfl) (by rfl) flX7_19 dX7_count_73 rfl ?_
      refine g_geti (pc2 := 79) (by rfl) (by rfl) flX7_224 dX7_count_76 rfl ?_
      rw [e3]
      exact g_iretT dX7_count_79 rfl (Nat.le_refl _) (Nat.le_refl _) (rfl) (rfl)
    · refine g_il1 (pc2 := 1) dX7_count_0 rfl ?_
      refine g_tableIn 80 dX7_count_1 (by decide) (by decide) (off := 79) (by decide) rfl ?_
      refine g_al0 (pc2 := 81) dX7_count_80 rfl ?_
      refine g_cVi (pc2 := 84) (R_c_placedTrains l d _ _ hw e2 h22) meX7_placedTrains mlX7_167 (by rfl) ⟨_, rfl, rfl⟩ rfl rfl (by simp) ⟨Nat.le_refl _, Nat.le_refl _⟩ dX7_count_81 rfl ?_
      exact g_iretT dX7_count_84 rfl (Nat.le_refl _) (Nat.le_refl _) (rfl) (rfl)
    · refine g_il1 (pc2 := 1) dX7_count_0 rfl ?_
      refine g_tableIn 85 dX7_count_1 (by decide) (by decide) (off := 84) (by decide) rfl ?_
      refine g_al0 (pc2 := 86) dX7_count_85 rfl ?_
      refine g_al0 (pc2 := 87) dX7_count_86 rfl ?_
      refine g_getr (pc2 := 90) (by rfl) (by rfl) flX7_26 dX7_count_87 rfl ?_
      refine g_getr (pc2 := 93) (by rfl) (by rfl) flX7_144 dX7_count_90 rfl ?_
      refine g_cVi (pc2 := 96) (R_c_wishesMet22 l d _ _ hc _ h22b) meX7_wishesMet mlX7_193 (by rfl) ⟨_, rfl, rfl⟩ rfl rfl (by simp) ⟨Nat.le_refl _, Nat.le_refl _⟩ dX7_count_93 rfl ?_
      exact g_iretT dX7_count_96 rfl (Nat.le_refl _) (Nat.le_refl _) (by rw [hwi]; rfl) (rfl)
    · refine g_il1 (pc2 := 1) dX7_count_0 rfl ?_
      refine g_tableIn 97 dX7_count_1 (by decide) (by decide) (off := 96) (by decide) rfl ?_
      refine g_al0 (pc2 := 98) dX7_count_97 rfl ?_
      refine g_getr (pc2 := 101) (by rfl) (by rfl) flX7_63 dX7_count_98 rfl ?_
      refine g_geti (pc2 := 104) (by rfl) (by rfl) flX7_106 dX7_count_101 rfl ?_
      exact g_iretT dX7_count_104 rfl (Nat.le_refl _) (Nat.le_refl _) (rfl) (rfl)
    · refine g_il1 (pc2 := 1) dX7_count_0 rfl ?_
      refine g_tableIn 105 dX7_count_1 (by decide) (by decide) (off := 104) (by decide) rfl ?_
      refine g_al0 (pc2 := 106) dX7_count_105 rfl ?_
      refine g_getr (pc2 := 109) (by rfl) (by rfl) flX7_10 dX7_count_106 rfl ?_
      refine g_geti (pc2 := 112) (by rfl) (by rfl) flX7_93 dX7_count_109 rfl ?_
      exact g_iretT dX7_count_112 rfl (Nat.le_refl _) (Nat.le_refl _) (rfl) (rfl)
