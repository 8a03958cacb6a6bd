/-! the reference: way, adopt, without -/
def Scr (σ σ' : lt_S) : Prop := (∀ a, a ≠ 82 → a ≠ 83 → a ≠ 84 → a ≠ 85 → a ≠ 76 → σ' a = σ a) ∧ ∀ k, k ≠ 13 → k ≠ 14 → σ' 76 k = σ 76 k
theorem Scr.rf (σ : lt_S) : Scr σ σ := ⟨fun _ _ _ _ _ _ => rfl, fun _ _ _ => rfl⟩
theorem FW.scr {σ σ' : lt_S} {law nt : Int32} {T N : Nat} (h : FW σ σ' law nt T N) : Scr σ σ' := ⟨h.1, h.2.1⟩
def wayOk (w : Nat → Int32) (law i : Int32) : Bool := hasB law (nI 2) && (!decide (i < -3) && !decide (w 2 ≤ i))
def F_way (w : Nat → Int32) (T N : Nat) (law i : Int32) : Int32 := if wayOk w law i then (if i = -1 then nI (noneN (wayG w law (nI 0) T N) N) else if i = -2 then nI (pf_gotWish w (wayG w law (nI 0) T N) N) else if i = -3 then nI (pf_other w (wayG w law (nI 0) T N) N) else asT (wayG w law (nI 0) T N (tN i))) else -1
theorem inB_m3 {i : Int32} {N : Nat} (hN : N ≤ 7) : inB i (-3) (nI N - nI 1) = (!decide (i < -3) && !decide (nI N ≤ i)) := by
  unfold inB
  congr 2
  have e : (nI N - nI 1).toInt = (N : Int) - (1 : Nat) := pk_sub_toInt (by omega) (by decide)
  rw [decide_eq_decide, Int32.lt_iff_toInt_lt, Int32.le_iff_toInt_le, e, nI_toInt (by omega)]
  omega
theorem wayOk_cases {w : Nat → Int32} {law i : Int32} {N : Nat} (hN : w 2 = nI N) (hN7 : N ≤ 7) (h : wayOk w law i = true) : i = -1 ∨ i = -2 ∨ i = -3 ∨ ∃ j, j < N ∧ i = nI j := by
  unfold wayOk at h
  simp only [Bool.and_eq_true, Bool.not_eq_true', decide_eq_false_iff_not] at h
  obtain ⟨-, h1, h2⟩ := h
  rw [hN] at h2
  have t1 := Int32.le_iff_toInt_le.mp (Int32.not_lt.mp h1)
  have e3 : (-3 : Int32).toInt = -3 := by decide
  have e2 : (-2 : Int32).toInt = -2 := by decide
  have e1 : (-1 : Int32).toInt = -1 := by decide
  rw [e3] at t1
  by_cases c1 : i.toInt = -1
  · exact Or.inl (Int32.toInt_inj.mp (c1.trans e1.symm))
  · by_cases c2 : i.toInt = -2
    · exact Or.inr (Or.inl (Int32.toInt_inj.mp (c2.trans e2.symm)))
    · by_cases c3 : i.toInt = -3
      · exact Or.inr (Or.inr (Or.inl (Int32.toInt_inj.mp (c3.trans e3.symm))))
      · right; right; right
        rcases pk_ix i (n := N) (by omega) with h | h | h
        · have := Int32.lt_iff_toInt_lt.mp h
          simp at this
          omega
        · exact absurd h h2
        · exact h
theorem R_m_way (l : lt_L) (d : Nat) (σ : lt_S) {ln T N : Nat} (hw : Wf (σ 77) ln T N) (law i : Int32) : lt_R l (d + 6) 0 0 mX8_way lt_SA σ [.ref 76, .int law, .int i] (fun r sh' σ' => r = some (F_way (σ 77) T N law i) ∧ sh' = lt_SA ∧ Scr σ σ') := by
  refine lt_R.of [some (.ref 76), some (.int law), some (.int i)] rfl rfl (Nat.le_of_ble_eq_true rfl) ?_
  have hN := hw.2.2.1
  have fin : wayOk (σ 77) law i = true → lt_G l (d + 6) 0 0 mX8_way 0 0 lt_SA σ 28 [some (.ref 76), some (.int law), some (.int i)] [] (fun r sh' σ' => r = some (F_way (σ 77) T N law i) ∧ sh' = lt_SA ∧ Scr σ σ') := by
    intro hok
    refine g_al0 (pc2 := 29) dX8_way_28 rfl ?_
    refine g_il1 (pc2 := 30) dX8_way_29 rfl ?_
    refine g_iconst (pc2 := 31) dX8_way_30 k_iconst_0 rfl ?_
    refine g_callV (pc2 := 34) (R_m_findsWay l d σ hw law (nI 0)) meX8_findsWay mlX8_183 (by rfl) ⟨_, rfl, rfl⟩ rfl rfl (by simp) ⟨Nat.le_refl _, Nat.le_refl _⟩ dX8_way_31 rfl ?_
    rintro r sh' σ1 ⟨rfl, rfl, hfw⟩
    have hsc := hfw.scr
    obtain ⟨g1, g2⟩ := hfw.got
    have e77 : σ1 77 = σ 77 := hsc.1 77 (by decide) (by decide) (by decide) (by decide) (by decide)
    have hN1 : σ1 77 2 = nI N := by rw [e77]; exact hN.1
    rcases wayOk_cases hN.1 hN.2 hok with rfl | rfl | rfl | ⟨j, hj, rfl⟩
    · have eF : F_way (σ 77) T N law (-1) = nI (noneN (wayG (σ 77) law (nI 0) T N) N) := by unfold F_way; rw [if_pos hok, if_pos rfl]
      refine g_il2 (pc2 := 35) dX8_way_34 rfl ?_
      refine g_tableIn 60 dX8_way_35 (by decide) (by decide) (off := 25) (by decide) rfl ?_
      refine g_al0 (pc2 := 61) dX8_way_60 rfl ?_
      refine g_geti (pc2 := 64) (by rfl) (by rfl) flX8_164 dX8_way_61 rfl ?_
      exact g_iret dX8_way_64 rfl (Nat.le_refl _) (Nat.le_refl _) ⟨congrArg some (by rw [eF]; exact g1), rfl, hsc⟩
    · have eF : F_way (σ 77) T N law (-2) = nI (pf_gotWish (σ 77) (wayG (σ 77) law (nI 0) T N) N) := by unfold F_way; rw [if_pos hok, if_neg (by decide), if_pos rfl]
      refine g_il2 (pc2 := 35) dX8_way_34 rfl ?_
      refine g_tableIn 65 dX8_way_35 (by decide) (by decide) (off := 30) (by decide) rfl ?_
      refine g_al0 (pc2 := 66) dX8_way_65 rfl ?_
      refine g_cVi (pc2 := 69) (R_m_wished l (d + 3) _ hN1 hN.2 _ g2) meX8_wished mlX8_187 (by rfl) ⟨_, rfl, rfl⟩ rfl rfl (by simp) ⟨Nat.le_refl _, Nat.le_refl _⟩ dX8_way_66 rfl ?_
      exact g_iret dX8_way_69 rfl (Nat.le_refl _) (Nat.le_refl _) ⟨congrArg some (by rw [eF, e77]), rfl, hsc⟩
    · have eF : F_way (σ 77) T N law (-3) = nI (pf_other (σ 77) (wayG (σ 77) law (nI 0) T N) N) := by unfold F_way; rw [if_pos hok, if_neg (by decide), if_neg (by decide), if_pos rfl]
      refine g_il2 (pc2 := 35) dX8_way_34 rfl ?_
      refine g_tableIn 70 dX8_way_35 (by decide) (by decide) (off := 35) (by decide) rfl ?_
      refine g_al0 (pc2 := 71) dX8_way_70 rfl ?_
      refine g_cVi (pc2 := 74) (R_m_otherwise l (d + 3) _ hN1 hN.2 _ g2) meX8_otherwise mlX8_190 (by rfl) ⟨_, rfl, rfl⟩ rfl rfl (by simp) ⟨Nat.le_refl _, Nat.le_refl _⟩ dX8_way_71 rfl ?_
      exact g_iret dX8_way_74 rfl (Nat.le_refl _) (Nat.le_refl _) ⟨congrArg some (by rw [eF, e77]), rfl, hsc⟩
    · have hj31 : (nI j).toInt = j := nI_toInt (by omega)
      have nm : ∀ x : Int32, x.toInt < 0 → ¬ nI j = x := fun x hx e => by rw [← e, hj31] at hx; omega
      have eF : F_way (σ 77) T N law (nI j) = asT (wayG (σ 77) law (nI 0) T N j) := by unfold F_way; rw [if_pos hok, if_neg (nm _ (by decide)), if_neg (nm _ (by decide)), if_neg (nm _ (by decide)), tN_nI (by omega)]
      have hj2 := g2 j hj
      refine g_il2 (pc2 := 35) dX8_way_34 rfl ?_
      refine g_tableOut 75 dX8_way_35 (Or.inr (by rw [hj31]; omega)) rfl ?_
      refine g_al0 (pc2 := 76) dX8_way_75 rfl ?_
      refine g_getr (pc2 := 79) (by rfl) (by rfl) flX8_35 dX8_way_76 rfl ?_
      refine g_il2 (pc2 := 80) dX8_way_79 rfl ?_
      refine g_iald (pc2 := 81) (by rfl) (by omega) (by decide) dX8_way_80 rfl ?_
      rw [hj2.1]
      refine g_cSi (pc2 := 84) (R_m_asTrack l (d + 4) _ _ _ (by omega)) meX8_asTrack mlX8_155 rfl rfl (by simp) ⟨Nat.le_refl _, Nat.le_refl _⟩ dX8_way_81 rfl ?_
      exact g_iret dX8_way_84 rfl (Nat.le_refl _) (Nat.le_refl _) ⟨congrArg some (by rw [eF]), rfl, hsc⟩
  refine g_il1 (pc2 := 1) dX8_way_0 rfl ?_
  refine g_iconst (pc2 := 2) dX8_way_1 k_iconst_0 rfl ?_
  refine g_iconst (pc2 := 3) dX8_way_2 k_iconst_1 rfl ?_
  refine g_cSi (pc2 := 6) (R_m_in l (d + 4) _ _ _ _ _) meX8_in mlX8_58 rfl rfl (by simp) ⟨Nat.le_refl _, Nat.le_refl _⟩ dX8_way_3 rfl ?_
  rw [inB_2]
  refine g_if_eqB 26 9 dX8_way_6 rfl rfl (fun h6 => ?_) (fun h6 => ?_)
  · refine g_iconst (pc2 := 27) dX8_way_26 k_iconst_m1 rfl ?_
    exact g_iret dX8_way_27 rfl (Nat.le_refl _) (Nat.le_refl _) ⟨congrArg some (by unfold F_way; rw [if_neg (by unfold wayOk; rw [hN.1]; first | (rw [h6]; simp; done) | (rw [h6, h23]; simp; done))]), rfl, Scr.rf σ⟩
  · refine g_il2 (pc2 := 10) dX8_way_9 rfl ?_
    refine g_bipush (pc2 := 12) dX8_way_10 k_bipush_m3 rfl ?_
    refine g_al0 (pc2 := 13) dX8_way_12 rfl ?_
    refine g_getr (pc2 := 16) (by rfl) (by rfl) flX8_7 dX8_way_13 rfl ?_
    refine g_iconst (pc2 := 17) dX8_way_16 k_iconst_2 rfl ?_
    refine g_iald (pc2 := 18) (by rfl) (by omega) (by decide) dX8_way_17 rfl ?_
    refine g_iconst (pc2 := 19) dX8_way_18 k_iconst_1 rfl ?_
    refine g_isub (pc2 := 20) dX8_way_19 rfl ?_
    refine g_cSi (pc2 := 23) (R_m_in l (d + 4) _ _ _ _ _) meX8_in mlX8_58 rfl rfl (by simp) ⟨Nat.le_refl _, Nat.le_refl _⟩ dX8_way_20 rfl ?_
    rw [hN.1, inB_m3 hN.2]
    refine g_if_neB 28 26 dX8_way_23 rfl rfl (fun h23 => ?_) (fun h23 => ?_)
    · exact fin (by unfold wayOk; rw [hN.1, h6, h23]; rfl)
    · refine g_iconst (pc2 := 27) dX8_way_26 k_iconst_m1 rfl ?_
      exact g_iret dX8_way_27 rfl (Nat.le_refl _) (Nat.le_refl _) ⟨congrArg some (by unfold F_way; rw [if_neg (by unfold wayOk; rw [hN.1]; first | (rw [h6]; simp; done) | (rw [h6, h23]; simp; done))]), rfl, Scr.rf σ⟩
theorem R_m_without (l : lt_L) (d : Nat) (σ : lt_S) {ln T N : Nat} (hw : Wf (σ 77) ln T N) (s : Int32) : lt_R l (d + 6) 0 0 mX8_without lt_SA σ [.ref 76, .int s] (fun r sh' σ' => r = some (if hasB s (nI 12) then nI (noneN (wayG (σ 77) (nI 0) (nI 1 <<< (s &&& 31)) T N) N) else -1) ∧ sh' = lt_SA ∧ Scr σ σ') := by
  refine lt_R.of [some (.ref 76), some (.int s)] rfl rfl (Nat.le_of_ble_eq_true rfl) ?_
  refine g_il1 (pc2 := 1) dX8_without_0 rfl ?_
  refine g_iconst (pc2 := 2) dX8_without_1 k_iconst_0 rfl ?_
  refine g_bipush (pc2 := 4) dX8_without_2 k_bipush_11 rfl ?_
  refine g_cSi (pc2 := 7) (R_m_in l (d + 4) _ _ _ _ _) meX8_in mlX8_58 rfl rfl (by simp) ⟨Nat.le_refl _, Nat.le_refl _⟩ dX8_without_4 rfl ?_
  rw [inB_12]
  refine g_if_neB 12 10 dX8_without_7 rfl rfl (fun h7 => ?_) (fun h7 => ?_)
  · refine g_al0 (pc2 := 13) dX8_without_12 rfl ?_
    refine g_iconst (pc2 := 14) dX8_without_13 k_iconst_0 rfl ?_
    refine g_iconst (pc2 := 15) dX8_without_14 k_iconst_1 rfl ?_
    refine g_il1 (pc2 := 16) dX8_without_15 rfl ?_
    refine g_ishl (pc2 := 17) dX8_without_16 rfl ?_
    refine g_callV (pc2 := 20) (R_m_findsWay l d σ hw (nI 0) _) meX8_findsWay mlX8_183 (by rfl) ⟨_, rfl, rfl⟩ rfl rfl (by simp) ⟨Nat.le_refl _, Nat.le_refl _⟩ dX8_without_17 rfl ?_
    rintro r sh2 σ1 ⟨rfl, rfl, hfw⟩
    refine g_al0 (pc2 := 21) dX8_without_20 rfl ?_
    refine g_geti (pc2 := 24) (by rfl) (by rfl) flX8_164 dX8_without_21 rfl ?_
    exact g_iret dX8_without_24 rfl (Nat.le_refl _) (Nat.le_refl _) ⟨congrArg some (by rw [if_pos h7]; exact hfw.got.1), rfl, hfw.scr⟩
  · refine g_iconst (pc2 := 11) dX8_without_10 k_iconst_m1 rfl ?_
    exact g_iret dX8_without_11 rfl (Nat.le_refl _) (Nat.le_refl _) ⟨congrArg some (by rw [h7]; rfl), rfl, Scr.rf σ⟩
def adoptRow (w : Nat → Int32) (g : Nat → Nat) (k : Nat) : Nat → Int32 := fun j => if 16 ≤ j ∧ j < 16 + 7 * k ∧ (j - 16) % 7 = 6 then asT (g ((j - 16) / 7)) else w j
theorem adoptRow_0 (w : Nat → Int32) (g : Nat → Nat) : adoptRow w g 0 = w := by
  funext j
  exact if_neg (by omega)
theorem adoptRow_s (w : Nat → Int32) (g : Nat → Nat) (k : Nat) : upd (adoptRow w g k) (16 + 7 * k + 6) (asT (g k)) = adoptRow w g (k + 1) := by
  funext j
  unfold upd adoptRow
  by_cases h : j = 16 + 7 * k + 6
  · subst h
    rw [if_pos rfl, if_pos (by omega), show (16 + 7 * k + 6 - 16) / 7 = k by omega]
  · rw [if_neg h]
    by_cases h2 : 16 ≤ j ∧ j < 16 + 7 * k ∧ (j - 16) % 7 = 6
    · rw [if_pos h2, if_pos (by omega)]
    · rw [if_neg h2, if_neg (by omega)]
def F_adopt (w : Nat → Int32) (T N : Nat) (law : Int32) : Int32 := if hasB law (nI 2) then nI (pf_other w (wayG w law (nI 0) T N) N) else -1
theorem R_m_adopt (l : lt_L) (d : Nat) (σ : lt_S) {ln T N c : Nat} (hw : Wf (σ 77) ln T N) (hc : σ 76 3 = nI c) (hc6 : c ≤ 6) (law : Int32) : lt_R l (d + 6) 0 0 mX8_adopt lt_SA σ [.ref 76, .int law] (fun r sh' σ' => r = some (F_adopt (σ 77) T N law) ∧ sh' = lt_SA ∧ (if hasB law (nI 2) then ∃ σ1, Scr σ σ1 ∧ σ' = lt_ur (S_keep σ1 c) 77 (adoptRow (σ 77) (wayG (σ 77) law (nI 0) T N) N) else σ' = σ)) := by
  refine lt_R.of [some (.ref 76), some (.int law), none, none] rfl rfl (Nat.le_of_ble_eq_true rfl) ?_
  have hN := hw.2.2.1
  cases hb : hasB law (nI 2) with
  | false =>
    refine g_il1 (pc2 := 1) dX8_adopt_0 rfl ?_
    refine g_iconst (pc2 := 2) dX8_adopt_1 k_iconst_0 rfl ?_
    refine g_iconst (pc2 := 3) dX8_adopt_2 k_iconst_1 rfl ?_
    refine g_cSi (pc2 := 6) (R_m_in l (d + 4) _ _ _ _ _) meX8_in mlX8_58 rfl rfl (by simp) ⟨Nat.le_refl _, Nat.le_refl _⟩ dX8_adopt_3 rfl ?_
    rw [inB_2]
    refine g_if_neB 11 9 dX8_adopt_6 rfl rfl (fun h6 => ?_) (fun h6 => ?_)
    · exact absurd (hb.symm.trans h6) (by decide)
    · refine g_iconst (pc2 := 10) dX8_adopt_9 k_iconst_m1 rfl ?_
      exact g_iret dX8_adopt_10 rfl (Nat.le_refl _) (Nat.le_refl _) ⟨congrArg some (by unfold F_adopt; rw [hb]; rfl), rfl, rfl⟩
  | true =>
    have eF : F_adopt (σ 77) T N law = nI (pf_other (σ 77) (wayG (σ 77) law (nI 0) T N) N) := by unfold F_adopt; rw [if_pos hb]
    rw [eF]
    have fin : ∀ σ1, FW σ σ1 law (nI 0) T N → lt_G l (d + 6) 0 0 mX8_adopt 0 0 lt_SA σ1 17 [some (.ref 76), some (.int law), none, none] [] (fun r sh' σ' => r = some (nI (pf_other (σ 77) (wayG (σ 77) law (nI 0) T N) N)) ∧ sh' = lt_SA ∧ (if true = true then ∃ σ1, Scr σ σ1 ∧ σ' = lt_ur (S_keep σ1 c) 77 (adoptRow (σ 77) (wayG (σ 77) law (nI 0) T N) N) else σ' = σ)) := by
      intro σ1 hfw
      have hsc := hfw.scr
      obtain ⟨g1, g2⟩ := hfw.got
      generalize wayG (σ 77) law (nI 0) T N = g at g1 g2 ⊢
      have e77 : σ1 77 = σ 77 := hsc.1 77 (by decide) (by decide) (by decide) (by decide) (by decide)
      have hc1 : σ1 76 3 = nI c := by rw [hsc.2 3 (by decide) (by decide)]; exact hc
      generalize hσ2 : S_keep σ1 c = σ2
      have e77b : σ2 77 = σ 77 := by rw [← hσ2, S_keep_ne _ _ (by decide) (by decide)]; exact e77
      have e85 : σ2 85 = σ1 85 := by rw [← hσ2, S_keep_ne _ _ (by decide) (by decide)]
      have g2b : ∀ j, j < N → σ2 85 j = nI (g j) ∧ g j < 5 := fun j hj => by rw [e85]; exact g2 j hj
      have key : ∀ k, k ≤ N → lt_G l (d + 6) 0 0 mX8_adopt 0 0 lt_SA (lt_ur σ2 77 (adoptRow (σ 77) g k)) 28 [some (.ref 76), some (.int law), some (.int (nI (pf_other (σ 77) g N))), some (.int (nI k))] [] (fun r sh' σ' => r = some (nI (pf_other (σ 77) g N)) ∧ sh' = lt_SA ∧ (if true = true then ∃ σ1, Scr σ σ1 ∧ σ' = lt_ur (S_keep σ1 c) 77 (adoptRow (σ 77) g N) else σ' = σ)) := by
        refine lt_dn N ?_ ?_
        · have hw2 : lt_ur σ2 77 (adoptRow (σ 77) g N) 77 2 = nI N := by rw [lt_ur_eq]; exact (if_neg (by omega)).trans hN.1
          refine g_il3 (pc2 := 29) dX8_adopt_28 rfl ?_
          refine g_al0 (pc2 := 30) dX8_adopt_29 rfl ?_
          refine g_getr (pc2 := 33) (by rfl) (by rfl) flX8_7 dX8_adopt_30 rfl ?_
          refine g_iconst (pc2 := 34) dX8_adopt_33 k_iconst_2 rfl ?_
          refine g_iald (pc2 := 35) (by rfl) (by omega) (by decide) dX8_adopt_34 rfl ?_
          rw [hw2]
          refine g_icmpN_ge 60 38 dX8_adopt_35 rfl rfl (by omega) (by omega) (fun h35 => ?_) (fun h35 => ?_)
          · refine g_il2 (pc2 := 61) dX8_adopt_60 rfl ?_
            exact g_iret dX8_adopt_61 rfl (Nat.le_refl _) (Nat.le_refl _) ⟨rfl, rfl, ⟨σ1, hsc, by rw [hσ2]⟩⟩
          · omega
        · intro k hk ih
          have hw2 : lt_ur σ2 77 (adoptRow (σ 77) g k) 77 2 = nI N := by rw [lt_ur_eq]; exact (if_neg (by omega)).trans hN.1
          have hk2 : lt_ur σ2 77 (adoptRow (σ 77) g k) 85 k = nI (g k) := by rw [lt_ur_ne _ _ (by decide)]; exact (g2b k hk).1
          have hk3 := (g2b k hk).2
          refine g_il3 (pc2 := 29) dX8_adopt_28 rfl ?_
          refine g_al0 (pc2 := 30) dX8_adopt_29 rfl ?_
          refine g_getr (pc2 := 33) (by rfl) (by rfl) flX8_7 dX8_adopt_30 rfl ?_
          refine g_iconst (pc2 := 34) dX8_adopt_33 k_iconst_2 rfl ?_
          refine g_iald (pc2 := 35) (by rfl) (by omega) (by decide) dX8_adopt_34 rfl ?_
          rw [hw2]
          refine g_icmpN_ge 60 38 dX8_adopt_35 rfl rfl (by omega) (by omega) (fun h35 => ?_) (fun h35 => ?_)
          · omega
          · refine g_al0 (pc2 := 39) dX8_adopt_38 rfl ?_
            refine g_il3 (pc2 := 40) dX8_adopt_39 rfl ?_
            refine g_bipush (pc2 := 42) dX8_adopt_40 k_bipush_6 rfl ?_
            refine g_al0 (pc2 := 43) dX8_adopt_42 rfl ?_
            refine g_getr (pc2 := 46) (by rfl) (by rfl) flX8_35 dX8_adopt_43 rfl ?_
            refine g_il3 (pc2 := 47) dX8_adopt_46 rfl ?_
            refine g_iald (pc2 := 48) (by rfl) (by omega) (by decide) dX8_adopt_47 rfl ?_
            rw [hk2]
            refine g_cSi (pc2 := 51) (R_m_asTrack l (d + 4) _ _ _ (by omega)) meX8_asTrack mlX8_155 rfl rfl (by simp) ⟨Nat.le_refl _, Nat.le_refl _⟩ dX8_adopt_48 rfl ?_
            refine g_cVv (pc2 := 54) (R_m_becomes l (d + 4) _ _ _ _ (by omega) (by decide)) meX8_becomes mlX8_148 (by rfl) ⟨_, rfl, rfl⟩ rfl rfl (by simp) ⟨Nat.le_refl _, Nat.le_refl _⟩ dX8_adopt_51 rfl ?_
            refine g_in3 (pc2 := 57) dX8_adopt_54 (nI_inc _) (by decide) rfl ?_
            refine g_goto 28 dX8_adopt_57 rfl ?_
            rw [lt_up_ur, lt_ur_eq, lt_ur_ur, adoptRow_s]
            exact ih
      have k0 := key 0 (Nat.zero_le _)
      rw [adoptRow_0, ← e77b, lt_ur_self] at k0
      rw [e77b] at k0
      refine g_al0 (pc2 := 18) dX8_adopt_17 rfl ?_
      refine g_cVv (pc2 := 21) (R_m_keeps l (d + 4) _ hc1 hc6) meX8_keeps mlX8_145 (by rfl) ⟨_, rfl, rfl⟩ rfl rfl (by simp) ⟨Nat.le_refl _, Nat.le_refl _⟩ dX8_adopt_18 rfl ?_
      rw [hσ2]
      refine g_al0 (pc2 := 22) dX8_adopt_21 rfl ?_
      refine g_cVi (pc2 := 25) (R_m_otherwise l (d + 3) _ (by rw [e77b]; exact hN.1) hN.2 g g2b) meX8_otherwise mlX8_190 (by rfl) ⟨_, rfl, rfl⟩ rfl rfl (by simp) ⟨Nat.le_refl _, Nat.le_refl _⟩ dX8_adopt_22 rfl ?_
      rw [e77b]
      refine g_is2 (pc2 := 26) dX8_adopt_25 (by decide) rfl ?_
      refine g_iconst (pc2 := 27) dX8_adopt_26 k_iconst_0 rfl ?_
      refine g_is3 (pc2 := 28) dX8_adopt_27 (by decide) rfl ?_
      exact k0
    refine g_il1 (pc2 := 1) dX8_adopt_0 rfl ?_
    refine g_iconst (pc2 := 2) dX8_adopt_1 k_iconst_0 rfl ?_
    refine g_iconst (pc2 := 3) dX8_adopt_2 k_iconst_1 rfl ?_
    refine g_cSi (pc2 := 6) (R_m_in l (d + 4) _ _ _ _ _) meX8_in mlX8_58 rfl rfl (by simp) ⟨Nat.le_refl _, Nat.le_refl _⟩ dX8_adopt_3 rfl ?_
    rw [inB_2]
    refine g_if_neB 11 9 dX8_adopt_6 rfl rfl (fun h6 => ?_) (fun h6 => ?_)
    · refine g_al0 (pc2 := 12) dX8_adopt_11 rfl ?_
      refine g_il1 (pc2 := 13) dX8_adopt_12 rfl ?_
      refine g_iconst (pc2 := 14) dX8_adopt_13 k_iconst_0 rfl ?_
      refine g_callV (pc2 := 17) (R_m_findsWay l d σ hw law (nI 0)) meX8_findsWay mlX8_183 (by rfl) ⟨_, rfl, rfl⟩ rfl rfl (by simp) ⟨Nat.le_refl _, Nat.le_refl _⟩ dX8_adopt_14 rfl ?_
      rintro r sh2 σ1 ⟨rfl, rfl, hfw⟩
      exact fin σ1 hfw
    · exact absurd (hb.symm.trans h6) (by decide)
