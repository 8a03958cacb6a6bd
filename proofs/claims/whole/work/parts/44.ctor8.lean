/-! the reference's constructor -/
def oM0 : lt_C := .inr (.inr (8, [some .null, some .null, some .null, none, some .null, none, none, some .null, none, some .null, some .null, some .null, some .null, none, none]))
def m8_0 : lt_H := [.inr (.inr (8, [some .null, some .null, some .null, none, some .null, none, none, some .null, none, some .null, some .null, some .null, some .null, none, none]))]
def m8_1 : lt_H := [.inr (.inr (8, [some .null, some .null, some .null, none, some .null, none, none, some .null, none, some .null, some .null, some .null, some .null, none, none])), .inl (0, 65)]
def m8_2 : lt_H := [.inr (.inr (8, [some (.ref 77), some .null, some .null, none, some .null, none, none, some .null, none, some .null, some .null, some .null, some .null, none, none])), .inl (0, 65)]
def m8_3 : lt_H := [.inr (.inr (8, [some (.ref 77), some .null, some .null, none, some .null, none, none, some .null, none, some .null, some .null, some .null, some .null, none, none])), .inl (0, 65), .inl (0, 65)]
def m8_4 : lt_H := [.inr (.inr (8, [some (.ref 77), some (.ref 78), some .null, none, some .null, none, none, some .null, none, some .null, some .null, some .null, some .null, none, none])), .inl (0, 65), .inl (0, 65)]
def m8_5 : lt_H := [.inr (.inr (8, [some (.ref 77), some (.ref 78), some .null, none, some .null, none, none, some .null, none, some .null, some .null, some .null, some .null, none, none])), .inl (0, 65), .inl (0, 65), .inl (0, 390)]
def m8_6 : lt_H := [.inr (.inr (8, [some (.ref 77), some (.ref 78), some (.ref 79), none, some .null, none, none, some .null, none, some .null, some .null, some .null, some .null, none, none])), .inl (0, 65), .inl (0, 65), .inl (0, 390)]
def m8_7 : lt_H := [.inr (.inr (8, [some (.ref 77), some (.ref 78), some (.ref 79), none, some .null, none, none, some .null, none, some .null, some .null, some .null, some .null, none, none])), .inl (0, 65), .inl (0, 65), .inl (0, 390), .inl (0, 200)]
def m8_8 : lt_H := [.inr (.inr (8, [some (.ref 77), some (.ref 78), some (.ref 79), none, some (.ref 80), none, none, some .null, none, some .null, some .null, some .null, some .null, none, none])), .inl (0, 65), .inl (0, 65), .inl (0, 390), .inl (0, 200)]
def m8_9 : lt_H := [.inr (.inr (8, [some (.ref 77), some (.ref 78), some (.ref 79), none, some (.ref 80), none, none, some .null, none, some .null, some .null, some .null, some .null, none, none])), .inl (0, 65), .inl (0, 65), .inl (0, 390), .inl (0, 200), .inl (0, 6)]
def m8_10 : lt_H := [.inr (.inr (8, [some (.ref 77), some (.ref 78), some (.ref 79), none, some (.ref 80), none, none, some (.ref 81), none, some .null, some .null, some .null, some .null, none, none])), .inl (0, 65), .inl (0, 65), .inl (0, 390), .inl (0, 200), .inl (0, 6)]
def m8_11 : lt_H := [.inr (.inr (8, [some (.ref 77), some (.ref 78), some (.ref 79), none, some (.ref 80), none, none, some (.ref 81), none, some .null, some .null, some .null, some .null, none, none])), .inl (0, 65), .inl (0, 65), .inl (0, 390), .inl (0, 200), .inl (0, 6), .inl (2, 28)]
def m8_12 : lt_H := [.inr (.inr (8, [some (.ref 77), some (.ref 78), some (.ref 79), none, some (.ref 80), none, none, some (.ref 81), none, some (.ref 82), some .null, some .null, some .null, none, none])), .inl (0, 65), .inl (0, 65), .inl (0, 390), .inl (0, 200), .inl (0, 6), .inl (2, 28)]
def m8_13 : lt_H := [.inr (.inr (8, [some (.ref 77), some (.ref 78), some (.ref 79), none, some (.ref 80), none, none, some (.ref 81), none, some (.ref 82), some .null, some .null, some .null, none, none])), .inl (0, 65), .inl (0, 65), .inl (0, 390), .inl (0, 200), .inl (0, 6), .inl (2, 28), .inl (2, 784)]
def m8_14 : lt_H := [.inr (.inr (8, [some (.ref 77), some (.ref 78), some (.ref 79), none, some (.ref 80), none, none, some (.ref 81), none, some (.ref 82), some (.ref 83), some .null, some .null, none, none])), .inl (0, 65), .inl (0, 65), .inl (0, 390), .inl (0, 200), .inl (0, 6), .inl (2, 28), .inl (2, 784)]
def m8_15 : lt_H := [.inr (.inr (8, [some (.ref 77), some (.ref 78), some (.ref 79), none, some (.ref 80), none, none, some (.ref 81), none, some (.ref 82), some (.ref 83), some .null, some .null, none, none])), .inl (0, 65), .inl (0, 65), .inl (0, 390), .inl (0, 200), .inl (0, 6), .inl (2, 28), .inl (2, 784), .inl (0, 7)]
def m8_16 : lt_H := [.inr (.inr (8, [some (.ref 77), some (.ref 78), some (.ref 79), none, some (.ref 80), none, none, some (.ref 81), none, some (.ref 82), some (.ref 83), some (.ref 84), some .null, none, none])), .inl (0, 65), .inl (0, 65), .inl (0, 390), .inl (0, 200), .inl (0, 6), .inl (2, 28), .inl (2, 784), .inl (0, 7)]
def m8_17 : lt_H := [.inr (.inr (8, [some (.ref 77), some (.ref 78), some (.ref 79), none, some (.ref 80), none, none, some (.ref 81), none, some (.ref 82), some (.ref 83), some (.ref 84), some .null, none, none])), .inl (0, 65), .inl (0, 65), .inl (0, 390), .inl (0, 200), .inl (0, 6), .inl (2, 28), .inl (2, 784), .inl (0, 7), .inl (0, 7)]
def m8_18 : lt_H := [.inr (.inr (8, [some (.ref 77), some (.ref 78), some (.ref 79), none, some (.ref 80), none, none, some (.ref 81), none, some (.ref 82), some (.ref 83), some (.ref 84), some (.ref 85), none, none])), .inl (0, 65), .inl (0, 65), .inl (0, 390), .inl (0, 200), .inl (0, 6), .inl (2, 28), .inl (2, 784), .inl (0, 7), .inl (0, 7)]
def mr0 : Nat → Int32 := begRow (fun _ => 0)
def mr1 : Nat → Int32 := upd mr0 0 (nI 2)
def mr2 : Nat → Int32 := upd mr1 1 (nI 3)
def mr3 : Nat → Int32 := upd mr2 3 (nI 1)
def mr4 : Nat → Int32 := upd mr3 4 (nI 2)
def mr5 : Nat → Int32 := upd mr4 5 (nI 6)
def mr6 : Nat → Int32 := upd mr5 6 (nI 14)
def mr7 : Nat → Int32 := upd mr6 8 (nI 48)
def mr8 : Nat → Int32 := upd mr7 9 (nI 16)
def mr9 : Nat → Int32 := upd mr8 10 (nI 8)
def mr10 : Nat → Int32 := comeRow mr9 (nI 0) (nI 1) (nI 10) (nI 20) (nI 1)
def mr11 : Nat → Int32 := comeRow mr10 (nI 1) (nI 0) (nI 12) (nI 18) (-4)
def mr12 : Nat → Int32 := comeRow mr11 (nI 0) (nI 0) (nI 15) (nI 25) (nI 1)
def mr13 : Nat → Int32 := comeRow mr12 (nI 1) (nI 1) (nI 22) (nI 30) (nI 0)
theorem mr_at : ∀ j, j < 65 → mr13 j = (parseM (chN 0) 158 mr0).2 j := by decide +kernel
theorem mr_eq : pat mr13 (fun _ => 0) = (parseM (chN 0) 158 r00).2 := by
  have h : parseM (chN 0) 158 r00 = ((parseM (chN 0) 158 mr0).1, pat (parseM (chN 0) 158 mr0).2 (fun _ => 0)) := pat_M (begRow_beg _) _
  rw [h]
  show pat mr13 (fun _ => 0) = pat (parseM (chN 0) 158 mr0).2 (fun _ => 0)
  funext j
  by_cases hj : j < 65
  · rw [pat_in _ _ hj, pat_in _ _ hj]; exact mr_at j hj
  · exact (show pat mr13 (fun _ => 0) j = 0 from if_neg hj).trans (show pat (parseM (chN 0) 158 mr0).2 (fun _ => 0) j = 0 from if_neg hj).symm
def Q8 (σ : lt_S) : lt_Q := fun r sh' σ' => r = none ∧ sh' = lt_SA ∧ (∀ a, a < 76 → σ' a = σ a) ∧ σ' 76 3 = nI 0 ∧ σ' 76 5 = nI 0 ∧ σ' 77 = (parseM (chN 0) 158 r00).2
theorem R_i_m8 (l : lt_L) (d : Nat) (σ σ1 : lt_S) (h5 : σ 76 5 = nI 0) (lo : ∀ a, a < 77 → σ1 a = σ a) (e77 : σ1 77 = fun _ => 0) (e78 : σ1 78 = fun _ => 0) : lt_G l (d + 2) 9 1552 mX8_init 9 1552 lt_SA σ1 79 [some (.ref 76)] [] (Q8 σ) := by
  refine g_al0 (pc2 := 80) dX8_init_79 rfl ?_
  refine g_cVv (pc2 := 83) (R_m_begins l d σ1) meX8_begins mlX8_38 (by rfl) ⟨_, rfl, rfl⟩ rfl rfl (by simp) ⟨Nat.le_refl _, Nat.le_refl _⟩ dX8_init_80 rfl ?_
  rw [e78]
  show lt_G l (d + 2) 9 1552 mX8_init 9 1552 lt_SA (lt_ur σ1 78 mr0) 83 _ [] _
  refine g_al0 (pc2 := 84) dX8_init_83 rfl ?_
  refine g_getr (pc2 := 87) (by rfl) (by rfl) flX8_13 dX8_init_84 rfl ?_
  refine g_iconst (pc2 := 88) dX8_init_87 k_iconst_0 rfl ?_
  refine g_iconst (pc2 := 89) dX8_init_88 k_iconst_2 rfl ?_
  refine g_iast (pc2 := 90) (by rfl) (show 0 < 65 by decide) (by decide) dX8_init_89 rfl ?_
  rw [show lt_up (lt_ur σ1 78 mr0) 78 0 (nI 2) = lt_ur σ1 78 mr1 from by rw [lt_up_ur, lt_ur_eq, lt_ur_ur]; rfl]
  refine g_al0 (pc2 := 91) dX8_init_90 rfl ?_
  refine g_getr (pc2 := 94) (by rfl) (by rfl) flX8_13 dX8_init_91 rfl ?_
  refine g_iconst (pc2 := 95) dX8_init_94 k_iconst_1 rfl ?_
  refine g_iconst (pc2 := 96) dX8_init_95 k_iconst_3 rfl ?_
  refine g_iast (pc2 := 97) (by rfl) (show 1 < 65 by decide) (by decide) dX8_init_96 rfl ?_
  rw [show lt_up (lt_ur σ1 78 mr1) 78 1 (nI 3) = lt_ur σ1 78 mr2 from by rw [lt_up_ur, lt_ur_eq, lt_ur_ur]; rfl]
  refine g_al0 (pc2 := 98) dX8_init_97 rfl ?_
  refine g_getr (pc2 := 101) (by rfl) (by rfl) flX8_13 dX8_init_98 rfl ?_
  refine g_iconst (pc2 := 102) dX8_init_101 k_iconst_3 rfl ?_
  refine g_iconst (pc2 := 103) dX8_init_102 k_iconst_1 rfl ?_
  refine g_iast (pc2 := 104) (by rfl) (show 3 < 65 by decide) (by decide) dX8_init_103 rfl ?_
  rw [show lt_up (lt_ur σ1 78 mr2) 78 3 (nI 1) = lt_ur σ1 78 mr3 from by rw [lt_up_ur, lt_ur_eq, lt_ur_ur]; rfl]
  refine g_al0 (pc2 := 105) dX8_init_104 rfl ?_
  refine g_getr (pc2 := 108) (by rfl) (by rfl) flX8_13 dX8_init_105 rfl ?_
  refine g_iconst (pc2 := 109) dX8_init_108 k_iconst_4 rfl ?_
  refine g_iconst (pc2 := 110) dX8_init_109 k_iconst_2 rfl ?_
  refine g_iast (pc2 := 111) (by rfl) (show 4 < 65 by decide) (by decide) dX8_init_110 rfl ?_
  rw [show lt_up (lt_ur σ1 78 mr3) 78 4 (nI 2) = lt_ur σ1 78 mr4 from by rw [lt_up_ur, lt_ur_eq, lt_ur_ur]; rfl]
  refine g_al0 (pc2 := 112) dX8_init_111 rfl ?_
  refine g_getr (pc2 := 115) (by rfl) (by rfl) flX8_13 dX8_init_112 rfl ?_
  refine g_iconst (pc2 := 116) dX8_init_115 k_iconst_5 rfl ?_
  refine g_bipush (pc2 := 118) dX8_init_116 k_bipush_6 rfl ?_
  refine g_iast (pc2 := 119) (by rfl) (show 5 < 65 by decide) (by decide) dX8_init_118 rfl ?_
  rw [show lt_up (lt_ur σ1 78 mr4) 78 5 (nI 6) = lt_ur σ1 78 mr5 from by rw [lt_up_ur, lt_ur_eq, lt_ur_ur]; rfl]
  refine g_al0 (pc2 := 120) dX8_init_119 rfl ?_
  refine g_getr (pc2 := 123) (by rfl) (by rfl) flX8_13 dX8_init_120 rfl ?_
  refine g_bipush (pc2 := 125) dX8_init_123 k_bipush_6 rfl ?_
  refine g_bipush (pc2 := 127) dX8_init_125 k_bipush_14 rfl ?_
  refine g_iast (pc2 := 128) (by rfl) (show 6 < 65 by decide) (by decide) dX8_init_127 rfl ?_
  rw [show lt_up (lt_ur σ1 78 mr5) 78 6 (nI 14) = lt_ur σ1 78 mr6 from by rw [lt_up_ur, lt_ur_eq, lt_ur_ur]; rfl]
  refine g_al0 (pc2 := 129) dX8_init_128 rfl ?_
  refine g_getr (pc2 := 132) (by rfl) (by rfl) flX8_13 dX8_init_129 rfl ?_
  refine g_bipush (pc2 := 134) dX8_init_132 k_bipush_8 rfl ?_
  refine g_bipush (pc2 := 136) dX8_init_134 k_bipush_48 rfl ?_
  refine g_iast (pc2 := 137) (by rfl) (show 8 < 65 by decide) (by decide) dX8_init_136 rfl ?_
  rw [show lt_up (lt_ur σ1 78 mr6) 78 8 (nI 48) = lt_ur σ1 78 mr7 from by rw [lt_up_ur, lt_ur_eq, lt_ur_ur]; rfl]
  refine g_al0 (pc2 := 138) dX8_init_137 rfl ?_
  refine g_getr (pc2 := 141) (by rfl) (by rfl) flX8_13 dX8_init_138 rfl ?_
  refine g_bipush (pc2 := 143) dX8_init_141 k_bipush_9 rfl ?_
  refine g_bipush (pc2 := 145) dX8_init_143 k_bipush_16 rfl ?_
  refine g_iast (pc2 := 146) (by rfl) (show 9 < 65 by decide) (by decide) dX8_init_145 rfl ?_
  rw [show lt_up (lt_ur σ1 78 mr7) 78 9 (nI 16) = lt_ur σ1 78 mr8 from by rw [lt_up_ur, lt_ur_eq, lt_ur_ur]; rfl]
  refine g_al0 (pc2 := 147) dX8_init_146 rfl ?_
  refine g_getr (pc2 := 150) (by rfl) (by rfl) flX8_13 dX8_init_147 rfl ?_
  refine g_bipush (pc2 := 152) dX8_init_150 k_bipush_10 rfl ?_
  refine g_bipush (pc2 := 154) dX8_init_152 k_bipush_8 rfl ?_
  refine g_iast (pc2 := 155) (by rfl) (show 10 < 65 by decide) (by decide) dX8_init_154 rfl ?_
  rw [show lt_up (lt_ur σ1 78 mr8) 78 10 (nI 8) = lt_ur σ1 78 mr9 from by rw [lt_up_ur, lt_ur_eq, lt_ur_ur]; rfl]
  refine g_al0 (pc2 := 156) dX8_init_155 rfl ?_
  refine g_iconst (pc2 := 157) dX8_init_156 k_iconst_0 rfl ?_
  refine g_iconst (pc2 := 158) dX8_init_157 k_iconst_1 rfl ?_
  refine g_bipush (pc2 := 160) dX8_init_158 k_bipush_10 rfl ?_
  refine g_bipush (pc2 := 162) dX8_init_160 k_bipush_20 rfl ?_
  refine g_iconst (pc2 := 163) dX8_init_162 k_iconst_1 rfl ?_
  refine g_cVv (pc2 := 166) (R_m_comes l d _ (N := 0) (by rw [lt_ur_eq]; decide +kernel) (by decide) _ _ _ _ _) meX8_comes mlX8_41 (by rfl) ⟨_, rfl, rfl⟩ rfl rfl (by simp) ⟨Nat.le_refl _, Nat.le_refl _⟩ dX8_init_163 rfl ?_
  rw [lt_ur_eq, lt_ur_ur]
  show lt_G l (d + 2) 9 1552 mX8_init 9 1552 lt_SA (lt_ur σ1 78 mr10) 166 _ [] _
  refine g_al0 (pc2 := 167) dX8_init_166 rfl ?_
  refine g_iconst (pc2 := 168) dX8_init_167 k_iconst_1 rfl ?_
  refine g_iconst (pc2 := 169) dX8_init_168 k_iconst_0 rfl ?_
  refine g_bipush (pc2 := 171) dX8_init_169 k_bipush_12 rfl ?_
  refine g_bipush (pc2 := 173) dX8_init_171 k_bipush_18 rfl ?_
  refine g_bipush (pc2 := 175) dX8_init_173 k_bipush_m4 rfl ?_
  refine g_cVv (pc2 := 178) (R_m_comes l d _ (N := 1) (by rw [lt_ur_eq]; decide +kernel) (by decide) _ _ _ _ _) meX8_comes mlX8_41 (by rfl) ⟨_, rfl, rfl⟩ rfl rfl (by simp) ⟨Nat.le_refl _, Nat.le_refl _⟩ dX8_init_175 rfl ?_
  rw [lt_ur_eq, lt_ur_ur]
  show lt_G l (d + 2) 9 1552 mX8_init 9 1552 lt_SA (lt_ur σ1 78 mr11) 178 _ [] _
  refine g_al0 (pc2 := 179) dX8_init_178 rfl ?_
  refine g_iconst (pc2 := 180) dX8_init_179 k_iconst_0 rfl ?_
  refine g_iconst (pc2 := 181) dX8_init_180 k_iconst_0 rfl ?_
  refine g_bipush (pc2 := 183) dX8_init_181 k_bipush_15 rfl ?_
  refine g_bipush (pc2 := 185) dX8_init_183 k_bipush_25 rfl ?_
  refine g_iconst (pc2 := 186) dX8_init_185 k_iconst_1 rfl ?_
  refine g_cVv (pc2 := 189) (R_m_comes l d _ (N := 2) (by rw [lt_ur_eq]; decide +kernel) (by decide) _ _ _ _ _) meX8_comes mlX8_41 (by rfl) ⟨_, rfl, rfl⟩ rfl rfl (by simp) ⟨Nat.le_refl _, Nat.le_refl _⟩ dX8_init_186 rfl ?_
  rw [lt_ur_eq, lt_ur_ur]
  show lt_G l (d + 2) 9 1552 mX8_init 9 1552 lt_SA (lt_ur σ1 78 mr12) 189 _ [] _
  refine g_al0 (pc2 := 190) dX8_init_189 rfl ?_
  refine g_iconst (pc2 := 191) dX8_init_190 k_iconst_1 rfl ?_
  refine g_iconst (pc2 := 192) dX8_init_191 k_iconst_1 rfl ?_
  refine g_bipush (pc2 := 194) dX8_init_192 k_bipush_22 rfl ?_
  refine g_bipush (pc2 := 196) dX8_init_194 k_bipush_30 rfl ?_
  refine g_iconst (pc2 := 197) dX8_init_196 k_iconst_0 rfl ?_
  refine g_cVv (pc2 := 200) (R_m_comes l d _ (N := 3) (by rw [lt_ur_eq]; decide +kernel) (by decide) _ _ _ _ _) meX8_comes mlX8_41 (by rfl) ⟨_, rfl, rfl⟩ rfl rfl (by simp) ⟨Nat.le_refl _, Nat.le_refl _⟩ dX8_init_197 rfl ?_
  rw [lt_ur_eq, lt_ur_ur]
  show lt_G l (d + 2) 9 1552 mX8_init 9 1552 lt_SA (lt_ur σ1 78 mr13) 200 _ [] _
  refine g_al0 (pc2 := 201) dX8_init_200 rfl ?_
  refine g_cVv (pc2 := 204) (R_m_takesAll l d _) meX8_takesAll mlX8_45 (by rfl) ⟨_, rfl, rfl⟩ rfl rfl (by simp) ⟨Nat.le_refl _, Nat.le_refl _⟩ dX8_init_201 rfl ?_
  rw [lt_ur_eq, lt_ur_ne _ _ (show (77 : Nat) ≠ 78 by decide), e77, cpy_pat, mr_eq]
  refine g_ret dX8_init_204 rfl (Nat.le_refl _) (Nat.le_refl _) ⟨rfl, rfl, fun a ha => ?_, ?_, ?_, ?_⟩
  · rw [lt_up_nr _ _ _ (by omega), lt_ur_ne _ _ (by omega), lt_ur_ne _ _ (by omega)]; exact lo a (by omega)
  · rw [lt_up_at]
  · rw [lt_up_ne _ _ _ (by decide), lt_ur_ne _ _ (by decide), lt_ur_ne _ _ (by decide), lo 76 (by decide)]; exact h5
  · rw [lt_up_nr _ _ _ (by decide), lt_ur_eq]
theorem R_i_model (l : lt_L) (d : Nat) (σ : lt_S) (h5 : σ 76 5 = nI 0) : lt_R l (d + 2) 9 1552 mX8_init (lt_SC ++ m8_0) σ [.ref 76] (Q8 σ) := by
  refine lt_R.of [some (.ref 76)] rfl rfl (Nat.le_of_ble_eq_true rfl) ?_
  refine g_al0 (pc2 := 1) dX8_init_0 rfl ?_
  refine g_objInit (pc2 := 4) mlX8_1 oi_1 oi_2 (by simp) (by omega) dX8_init_1 rfl ?_
  refine g_al0 (pc2 := 5) dX8_init_4 rfl ?_
  refine g_bipush (pc2 := 7) dX8_init_5 k_bipush_65 rfl ?_
  refine g_newa (n := 0) (idx := 0) (t := 0) (pc2 := 9) rfl (by decide) rfl rfl ar_int (by decide) (by decide) ⟨Nat.le_of_ble_eq_true rfl, Nat.le_of_ble_eq_true rfl⟩ dX8_init_7 rfl ?_
  show lt_G l (d + 2) 9 1552 mX8_init 1 65 (lt_SC ++ m8_1) (lt_ur σ 77 (fun _ => 0)) 9 _ [.ref 77, .ref 76] _
  refine g_putr (pc2 := 12) (lt_SC ++ m8_2) (by rfl) (Nat.le_of_ble_eq_true rfl) flX8_7 fpX8_0 (fun _ => rfl) (fun _ => rfl) rfl rfl rfl dX8_init_9 rfl ?_
  refine g_al0 (pc2 := 13) dX8_init_12 rfl ?_
  refine g_bipush (pc2 := 15) dX8_init_13 k_bipush_65 rfl ?_
  refine g_newa (n := 0) (idx := 0) (t := 0) (pc2 := 17) rfl (by decide) rfl rfl ar_int (by decide) (by decide) ⟨Nat.le_of_ble_eq_true rfl, Nat.le_of_ble_eq_true rfl⟩ dX8_init_15 rfl ?_
  show lt_G l (d + 2) 9 1552 mX8_init 2 130 (lt_SC ++ m8_3) (lt_ur (lt_ur σ 77 (fun _ => 0)) 78 (fun _ => 0)) 17 _ [.ref 78, .ref 76] _
  refine g_putr (pc2 := 20) (lt_SC ++ m8_4) (by rfl) (Nat.le_of_ble_eq_true rfl) flX8_13 fpX8_1 (fun _ => rfl) (fun _ => rfl) rfl rfl rfl dX8_init_17 rfl ?_
  refine g_al0 (pc2 := 21) dX8_init_20 rfl ?_
  refine g_sipush (pc2 := 24) dX8_init_21 k_sipush_390 rfl ?_
  refine g_newa (n := 0) (idx := 0) (t := 0) (pc2 := 26) rfl (by decide) rfl rfl ar_int (by decide) (by decide) ⟨Nat.le_of_ble_eq_true rfl, Nat.le_of_ble_eq_true rfl⟩ dX8_init_24 rfl ?_
  show lt_G l (d + 2) 9 1552 mX8_init 3 520 (lt_SC ++ m8_5) (lt_ur (lt_ur (lt_ur σ 77 (fun _ => 0)) 78 (fun _ => 0)) 79 (fun _ => 0)) 26 _ [.ref 79, .ref 76] _
  refine g_putr (pc2 := 29) (lt_SC ++ m8_6) (by rfl) (Nat.le_of_ble_eq_true rfl) flX8_16 fpX8_2 (fun _ => rfl) (fun _ => rfl) rfl rfl rfl dX8_init_26 rfl ?_
  refine g_al0 (pc2 := 30) dX8_init_29 rfl ?_
  refine g_sipush (pc2 := 33) dX8_init_30 k_sipush_200 rfl ?_
  refine g_newa (n := 0) (idx := 0) (t := 0) (pc2 := 35) rfl (by decide) rfl rfl ar_int (by decide) (by decide) ⟨Nat.le_of_ble_eq_true rfl, Nat.le_of_ble_eq_true rfl⟩ dX8_init_33 rfl ?_
  show lt_G l (d + 2) 9 1552 mX8_init 4 720 (lt_SC ++ m8_7) (lt_ur (lt_ur (lt_ur (lt_ur σ 77 (fun _ => 0)) 78 (fun _ => 0)) 79 (fun _ => 0)) 80 (fun _ => 0)) 35 _ [.ref 80, .ref 76] _
  refine g_putr (pc2 := 38) (lt_SC ++ m8_8) (by rfl) (Nat.le_of_ble_eq_true rfl) flX8_19 fpX8_4 (fun _ => rfl) (fun _ => rfl) rfl rfl rfl dX8_init_35 rfl ?_
  refine g_al0 (pc2 := 39) dX8_init_38 rfl ?_
  refine g_bipush (pc2 := 41) dX8_init_39 k_bipush_6 rfl ?_
  refine g_newa (n := 0) (idx := 0) (t := 0) (pc2 := 43) rfl (by decide) rfl rfl ar_int (by decide) (by decide) ⟨Nat.le_of_ble_eq_true rfl, Nat.le_of_ble_eq_true rfl⟩ dX8_init_41 rfl ?_
  show lt_G l (d + 2) 9 1552 mX8_init 5 726 (lt_SC ++ m8_9) (lt_ur (lt_ur (lt_ur (lt_ur (lt_ur σ 77 (fun _ => 0)) 78 (fun _ => 0)) 79 (fun _ => 0)) 80 (fun _ => 0)) 81 (fun _ => 0)) 43 _ [.ref 81, .ref 76] _
  refine g_putr (pc2 := 46) (lt_SC ++ m8_10) (by rfl) (Nat.le_of_ble_eq_true rfl) flX8_22 fpX8_7 (fun _ => rfl) (fun _ => rfl) rfl rfl rfl dX8_init_43 rfl ?_
  refine g_al0 (pc2 := 47) dX8_init_46 rfl ?_
  refine g_bipush (pc2 := 49) dX8_init_47 k_bipush_28 rfl ?_
  refine g_newa (n := 0) (idx := 0) (t := 2) (pc2 := 51) rfl (by decide) rfl rfl ar_boolean (by decide) (by decide) ⟨Nat.le_of_ble_eq_true rfl, Nat.le_of_ble_eq_true rfl⟩ dX8_init_49 rfl ?_
  show lt_G l (d + 2) 9 1552 mX8_init 6 754 (lt_SC ++ m8_11) (lt_ur (lt_ur (lt_ur (lt_ur (lt_ur (lt_ur σ 77 (fun _ => 0)) 78 (fun _ => 0)) 79 (fun _ => 0)) 80 (fun _ => 0)) 81 (fun _ => 0)) 82 (fun _ => 0)) 51 _ [.ref 82, .ref 76] _
  refine g_putr (pc2 := 54) (lt_SC ++ m8_12) (by rfl) (Nat.le_of_ble_eq_true rfl) flX8_25 fpX8_9 (fun _ => rfl) (fun _ => rfl) rfl rfl rfl dX8_init_51 rfl ?_
  refine g_al0 (pc2 := 55) dX8_init_54 rfl ?_
  refine g_sipush (pc2 := 58) dX8_init_55 k_sipush_784 rfl ?_
  refine g_newa (n := 0) (idx := 0) (t := 2) (pc2 := 60) rfl (by decide) rfl rfl ar_boolean (by decide) (by decide) ⟨Nat.le_of_ble_eq_true rfl, Nat.le_of_ble_eq_true rfl⟩ dX8_init_58 rfl ?_
  show lt_G l (d + 2) 9 1552 mX8_init 7 1538 (lt_SC ++ m8_13) (lt_ur (lt_ur (lt_ur (lt_ur (lt_ur (lt_ur (lt_ur σ 77 (fun _ => 0)) 78 (fun _ => 0)) 79 (fun _ => 0)) 80 (fun _ => 0)) 81 (fun _ => 0)) 82 (fun _ => 0)) 83 (fun _ => 0)) 60 _ [.ref 83, .ref 76] _
  refine g_putr (pc2 := 63) (lt_SC ++ m8_14) (by rfl) (Nat.le_of_ble_eq_true rfl) flX8_29 fpX8_10 (fun _ => rfl) (fun _ => rfl) rfl rfl rfl dX8_init_60 rfl ?_
  refine g_al0 (pc2 := 64) dX8_init_63 rfl ?_
  refine g_bipush (pc2 := 66) dX8_init_64 k_bipush_7 rfl ?_
  refine g_newa (n := 0) (idx := 0) (t := 0) (pc2 := 68) rfl (by decide) rfl rfl ar_int (by decide) (by decide) ⟨Nat.le_of_ble_eq_true rfl, Nat.le_of_ble_eq_true rfl⟩ dX8_init_66 rfl ?_
  show lt_G l (d + 2) 9 1552 mX8_init 8 1545 (lt_SC ++ m8_15) (lt_ur (lt_ur (lt_ur (lt_ur (lt_ur (lt_ur (lt_ur (lt_ur σ 77 (fun _ => 0)) 78 (fun _ => 0)) 79 (fun _ => 0)) 80 (fun _ => 0)) 81 (fun _ => 0)) 82 (fun _ => 0)) 83 (fun _ => 0)) 84 (fun _ => 0)) 68 _ [.ref 84, .ref 76] _
  refine g_putr (pc2 := 71) (lt_SC ++ m8_16) (by rfl) (Nat.le_of_ble_eq_true rfl) flX8_32 fpX8_11 (fun _ => rfl) (fun _ => rfl) rfl rfl rfl dX8_init_68 rfl ?_
  refine g_al0 (pc2 := 72) dX8_init_71 rfl ?_
  refine g_bipush (pc2 := 74) dX8_init_72 k_bipush_7 rfl ?_
  refine g_newa (n := 0) (idx := 0) (t := 0) (pc2 := 76) rfl (by decide) rfl rfl ar_int (by decide) (by decide) ⟨Nat.le_of_ble_eq_true rfl, Nat.le_of_ble_eq_true rfl⟩ dX8_init_74 rfl ?_
  show lt_G l (d + 2) 9 1552 mX8_init 9 1552 (lt_SC ++ m8_17) (lt_ur (lt_ur (lt_ur (lt_ur (lt_ur (lt_ur (lt_ur (lt_ur (lt_ur σ 77 (fun _ => 0)) 78 (fun _ => 0)) 79 (fun _ => 0)) 80 (fun _ => 0)) 81 (fun _ => 0)) 82 (fun _ => 0)) 83 (fun _ => 0)) 84 (fun _ => 0)) 85 (fun _ => 0)) 76 _ [.ref 85, .ref 76] _
  refine g_putr (pc2 := 79) lt_SA (by rfl) (Nat.le_of_ble_eq_true rfl) flX8_35 fpX8_12 (fun _ => rfl) (fun _ => rfl) rfl rfl rfl dX8_init_76 rfl ?_
  have lo : ∀ a, a < 77 → (lt_ur (lt_ur (lt_ur (lt_ur (lt_ur (lt_ur (lt_ur (lt_ur (lt_ur σ 77 (fun _ => 0)) 78 (fun _ => 0)) 79 (fun _ => 0)) 80 (fun _ => 0)) 81 (fun _ => 0)) 82 (fun _ => 0)) 83 (fun _ => 0)) 84 (fun _ => 0)) 85 (fun _ => 0)) a = σ a := fun a ha => by rw [lt_ur_ne _ _ (by omega), lt_ur_ne _ _ (by omega), lt_ur_ne _ _ (by omega), lt_ur_ne _ _ (by omega), lt_ur_ne _ _ (by omega), lt_ur_ne _ _ (by omega), lt_ur_ne _ _ (by omega), lt_ur_ne _ _ (by omega), lt_ur_ne _ _ (by omega)]
  have e77 : (lt_ur (lt_ur (lt_ur (lt_ur (lt_ur (lt_ur (lt_ur (lt_ur (lt_ur σ 77 (fun _ => 0)) 78 (fun _ => 0)) 79 (fun _ => 0)) 80 (fun _ => 0)) 81 (fun _ => 0)) 82 (fun _ => 0)) 83 (fun _ => 0)) 84 (fun _ => 0)) 85 (fun _ => 0)) 77 = fun _ => 0 := by rw [lt_ur_ne _ _ (by decide), lt_ur_ne _ _ (by decide), lt_ur_ne _ _ (by decide), lt_ur_ne _ _ (by decide), lt_ur_ne _ _ (by decide), lt_ur_ne _ _ (by decide), lt_ur_ne _ _ (by decide), lt_ur_ne _ _ (by decide), lt_ur_eq]
  have e78 : (lt_ur (lt_ur (lt_ur (lt_ur (lt_ur (lt_ur (lt_ur (lt_ur (lt_ur σ 77 (fun _ => 0)) 78 (fun _ => 0)) 79 (fun _ => 0)) 80 (fun _ => 0)) 81 (fun _ => 0)) 82 (fun _ => 0)) 83 (fun _ => 0)) 84 (fun _ => 0)) 85 (fun _ => 0)) 78 = fun _ => 0 := by rw [lt_ur_ne _ _ (by decide), lt_ur_ne _ _ (by decide), lt_ur_ne _ _ (by decide), lt_ur_ne _ _ (by decide), lt_ur_ne _ _ (by decide), lt_ur_ne _ _ (by decide), lt_ur_ne _ _ (by decide), lt_ur_eq]
  generalize (lt_ur (lt_ur (lt_ur (lt_ur (lt_ur (lt_ur (lt_ur (lt_ur (lt_ur σ 77 (fun _ => 0)) 78 (fun _ => 0)) 79 (fun _ => 0)) 80 (fun _ => 0)) 81 (fun _ => 0)) 82 (fun _ => 0)) 83 (fun _ => 0)) 84 (fun _ => 0)) 85 (fun _ => 0)) = σ1 at lo e77 e78 ⊢
  exact R_i_m8 l d σ σ1 h5 lo e77 e78
