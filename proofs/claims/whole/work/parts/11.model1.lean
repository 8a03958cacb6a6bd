/-! the reference: small methods -/
theorem R_m_in (l : lt_L) (d : Nat) (sh : lt_H) (σ : lt_S) (v a b : Int32) : lt_T l (d + 1) mX8_in sh σ [.int v, .int a, .int b] (some (bI (inB v a b))) σ := by
  refine lt_T.of [some (.int v), some (.int a), some (.int b)] rfl rfl (Nat.le_of_ble_eq_true rfl) ?_
  refine g_il0 (pc2 := 1) dX8_in_0 rfl ?_
  refine g_il1 (pc2 := 2) dX8_in_1 rfl ?_
  refine g_icmp_lt 14 5 dX8_in_2 rfl rfl (fun h2 => ?_) (fun h2 => ?_)
  · refine g_iconst (pc2 := 15) dX8_in_14 k_iconst_0 rfl ?_
    exact g_zretT dX8_in_15 rfl (Nat.le_refl _) (Nat.le_refl _) (by simp [inB, bI, nI, *]) (rfl)
  · refine g_il0 (pc2 := 6) dX8_in_5 rfl ?_
    refine g_il2 (pc2 := 7) dX8_in_6 rfl ?_
    refine g_icmp_gt 14 10 dX8_in_7 rfl rfl (fun h7 => ?_) (fun h7 => ?_)
    · refine g_iconst (pc2 := 15) dX8_in_14 k_iconst_0 rfl ?_
      exact g_zretT dX8_in_15 rfl (Nat.le_refl _) (Nat.le_refl _) (by simp [inB, bI, nI, *]) (rfl)
    · refine g_iconst (pc2 := 11) dX8_in_10 k_iconst_1 rfl ?_
      refine g_goto 15 dX8_in_11 rfl ?_
      exact g_zretT dX8_in_15 rfl (Nat.le_refl _) (Nat.le_refl _) (by simp [inB, bI, nI, *]) (rfl)
theorem R_m_meet (l : lt_L) (d : Nat) (sh : lt_H) (σ : lt_S) (a b : Int32) : lt_T l (d + 1) mX8_meet sh σ [.int a, .int b] (some (bI (pf_meet a b))) σ := by
  refine lt_T.of [some (.int a), some (.int b)] rfl rfl (Nat.le_of_ble_eq_true rfl) ?_
  refine g_il0 (pc2 := 1) dX8_meet_0 rfl ?_
  refine g_il1 (pc2 := 2) dX8_meet_1 rfl ?_
  refine g_isub (pc2 := 3) dX8_meet_2 rfl ?_
  refine g_iconst (pc2 := 4) dX8_meet_3 k_iconst_2 rfl ?_
  refine g_icmp_ge 18 7 dX8_meet_4 rfl rfl (fun h4 => ?_) (fun h4 => ?_)
  · refine g_iconst (pc2 := 19) dX8_meet_18 k_iconst_0 rfl ?_
    exact g_zretT dX8_meet_19 rfl (Nat.le_refl _) (Nat.le_refl _) (by simp [pf_meet, bI, *]) (rfl)
  · refine g_il1 (pc2 := 8) dX8_meet_7 rfl ?_
    refine g_il0 (pc2 := 9) dX8_meet_8 rfl ?_
    refine g_isub (pc2 := 10) dX8_meet_9 rfl ?_
    refine g_iconst (pc2 := 11) dX8_meet_10 k_iconst_2 rfl ?_
    refine g_icmp_ge 18 14 dX8_meet_11 rfl rfl (fun h11 => ?_) (fun h11 => ?_)
    · refine g_iconst (pc2 := 19) dX8_meet_18 k_iconst_0 rfl ?_
      exact g_zretT dX8_meet_19 rfl (Nat.le_refl _) (Nat.le_refl _) (by simp [pf_meet, bI, *]) (rfl)
    · refine g_iconst (pc2 := 15) dX8_meet_14 k_iconst_1 rfl ?_
      refine g_goto 19 dX8_meet_15 rfl ?_
      exact g_zretT dX8_meet_19 rfl (Nat.le_refl _) (Nat.le_refl _) (by simp [pf_meet, bI, *]) (rfl)
theorem R_m_of (l : lt_L) (d : Nat) (σ : lt_S) (i k : Nat) (hi : i < 7) (hk : k < 7) : lt_T l (d + 1) mX8_of lt_SA σ [.ref 76, .int (nI i), .int (nI k)] (some (σ 77 (16 + 7 * i + k))) σ := by
  refine lt_T.of [some (.ref 76), some (.int (nI i)), some (.int (nI k))] rfl rfl (Nat.le_of_ble_eq_true rfl) ?_
  refine g_al0 (pc2 := 1) dX8_of_0 rfl ?_
  refine g_getr (pc2 := 4) (by rfl) (by rfl) flX8_7 dX8_of_1 rfl ?_
  refine g_bipush (pc2 := 6) dX8_of_4 k_bipush_16 rfl ?_
  refine g_bipush (pc2 := 8) dX8_of_6 k_bipush_7 rfl ?_
  refine g_il1 (pc2 := 9) dX8_of_8 rfl ?_
  refine g_imulN (pc2 := 10) dX8_of_9 rfl ?_
  refine g_iaddN (pc2 := 11) dX8_of_10 rfl ?_
  refine g_il2 (pc2 := 12) dX8_of_11 rfl ?_
  refine g_iaddN (pc2 := 13) dX8_of_12 rfl ?_
  refine g_iald (pc2 := 14) (by rfl) (by omega) (by decide) dX8_of_13 rfl ?_
  exact g_iretT dX8_of_14 rfl (Nat.le_refl _) (Nat.le_refl _) (rfl) (rfl)
theorem R_m_routeOf (l : lt_L) (d : Nat) (σ : lt_S) (i k : Nat) (hi : i < 3) (hk : k < 4) : lt_T l (d + 1) mX8_routeOf lt_SA σ [.ref 76, .int (nI i), .int (nI k)] (some (σ 77 (4 + 4 * i + k))) σ := by
  refine lt_T.of [some (.ref 76), some (.int (nI i)), some (.int (nI k))] rfl rfl (Nat.le_of_ble_eq_true rfl) ?_
  refine g_al0 (pc2 := 1) dX8_routeOf_0 rfl ?_
  refine g_getr (pc2 := 4) (by rfl) (by rfl) flX8_7 dX8_routeOf_1 rfl ?_
  refine g_iconst (pc2 := 5) dX8_routeOf_4 k_iconst_4 rfl ?_
  refine g_iconst (pc2 := 6) dX8_routeOf_5 k_iconst_4 rfl ?_
  refine g_il1 (pc2 := 7) dX8_routeOf_6 rfl ?_
  refine g_imulN (pc2 := 8) dX8_routeOf_7 rfl ?_
  refine g_iaddN (pc2 := 9) dX8_routeOf_8 rfl ?_
  refine g_il2 (pc2 := 10) dX8_routeOf_9 rfl ?_
  refine g_iaddN (pc2 := 11) dX8_routeOf_10 rfl ?_
  refine g_iald (pc2 := 12) (by rfl) (by omega) (by decide) dX8_routeOf_11 rfl ?_
  exact g_iretT dX8_routeOf_12 rfl (Nat.le_refl _) (Nat.le_refl _) (rfl) (rfl)
theorem R_m_becomes (l : lt_L) (d : Nat) (σ : lt_S) (i k : Nat) (v : Int32) (hi : i < 7) (hk : k < 7) : lt_T l (d + 1) mX8_becomes lt_SA σ [.ref 76, .int (nI i), .int (nI k), .int v] none (lt_up σ 77 (16 + 7 * i + k) v) := by
  refine lt_T.of [some (.ref 76), some (.int (nI i)), some (.int (nI k)), some (.int v)] rfl rfl (Nat.le_of_ble_eq_true rfl) ?_
  refine g_al0 (pc2 := 1) dX8_becomes_0 rfl ?_
  refine g_getr (pc2 := 4) (by rfl) (by rfl) flX8_7 dX8_becomes_1 rfl ?_
  refine g_bipush (pc2 := 6) dX8_becomes_4 k_bipush_16 rfl ?_
  refine g_bipush (pc2 := 8) dX8_becomes_6 k_bipush_7 rfl ?_
  refine g_il1 (pc2 := 9) dX8_becomes_8 rfl ?_
  refine g_imulN (pc2 := 10) dX8_becomes_9 rfl ?_
  refine g_iaddN (pc2 := 11) dX8_becomes_10 rfl ?_
  refine g_il2 (pc2 := 12) dX8_becomes_11 rfl ?_
  refine g_iaddN (pc2 := 13) dX8_becomes_12 rfl ?_
  refine g_il3 (pc2 := 14) dX8_becomes_13 rfl ?_
  refine g_iast (pc2 := 15) (by rfl) (by omega) (by decide) dX8_becomes_14 rfl ?_
  exact g_retT dX8_becomes_15 rfl (Nat.le_refl _) (Nat.le_refl _) (rfl)
theorem R_m_isTrack (l : lt_L) (d : Nat) (σ : lt_S) (t : Int32) {n : Nat} (h : σ 77 1 = nI n) (hn : n < 2 ^ 30) : lt_T l (d + 2) mX8_isTrack lt_SA σ [.ref 76, .int t] (some (bI (hasB t (σ 77 1)))) σ := by
  refine lt_T.of [some (.ref 76), some (.int t)] rfl rfl (Nat.le_of_ble_eq_true rfl) ?_
  refine g_il1 (pc2 := 1) dX8_isTrack_0 rfl ?_
  refine g_iconst (pc2 := 2) dX8_isTrack_1 k_iconst_0 rfl ?_
  refine g_al0 (pc2 := 3) dX8_isTrack_2 rfl ?_
  refine g_getr (pc2 := 6) (by rfl) (by rfl) flX8_7 dX8_isTrack_3 rfl ?_
  refine g_iconst (pc2 := 7) dX8_isTrack_6 k_iconst_1 rfl ?_
  refine g_iald (pc2 := 8) (by rfl) (by omega) (by decide) dX8_isTrack_7 rfl ?_
  refine g_iconst (pc2 := 9) dX8_isTrack_8 k_iconst_1 rfl ?_
  refine g_isub (pc2 := 10) dX8_isTrack_9 rfl ?_
  refine g_cSi (pc2 := 13) (R_m_in l d _ _ _ _ _) meX8_in mlX8_58 rfl rfl (by simp) ⟨Nat.le_refl _, Nat.le_refl _⟩ dX8_isTrack_10 rfl ?_
  exact g_zretT dX8_isTrack_13 rfl (Nat.le_refl _) (Nat.le_refl _) (by rw [h, inB_has hn]) (rfl)
theorem R_m_isTrain (l : lt_L) (d : Nat) (σ : lt_S) (t : Int32) {n : Nat} (h : σ 77 2 = nI n) (hn : n < 2 ^ 30) : lt_T l (d + 2) mX8_isTrain lt_SA σ [.ref 76, .int t] (some (bI (hasB t (σ 77 2)))) σ := by
  refine lt_T.of [some (.ref 76), some (.int t)] rfl rfl (Nat.le_of_ble_eq_true rfl) ?_
  refine g_il1 (pc2 := 1) dX8_isTrain_0 rfl ?_
  refine g_iconst (pc2 := 2) dX8_isTrain_1 k_iconst_0 rfl ?_
  refine g_al0 (pc2 := 3) dX8_isTrain_2 rfl ?_
  refine g_getr (pc2 := 6) (by rfl) (by rfl) flX8_7 dX8_isTrain_3 rfl ?_
  refine g_iconst (pc2 := 7) dX8_isTrain_6 k_iconst_2 rfl ?_
  refine g_iald (pc2 := 8) (by rfl) (by omega) (by decide) dX8_isTrain_7 rfl ?_
  refine g_iconst (pc2 := 9) dX8_isTrain_8 k_iconst_1 rfl ?_
  refine g_isub (pc2 := 10) dX8_isTrain_9 rfl ?_
  refine g_cSi (pc2 := 13) (R_m_in l d _ _ _ _ _) meX8_in mlX8_58 rfl rfl (by simp) ⟨Nat.le_refl _, Nat.le_refl _⟩ dX8_isTrain_10 rfl ?_
  exact g_zretT dX8_isTrain_13 rfl (Nat.le_refl _) (Nat.le_refl _) (by rw [h, inB_has hn]) (rfl)
theorem R_m_wayIn (l : lt_L) (d : Nat) (σ : lt_S) (i t : Nat) (hi : i < 7) (ht : t < 4) {ln : Nat} (hl : σ 77 (16 + 7 * i + 0) = nI ln) (hln : ln < 3) : lt_T l (d + 2) mX8_wayIn lt_SA σ [.ref 76, .int (nI i), .int (nI t)] (some (pf_in (σ 77) i t)) σ := by
  refine lt_T.of [some (.ref 76), some (.int (nI i)), some (.int (nI t))] rfl rfl (Nat.le_of_ble_eq_true rfl) ?_
  refine g_al0 (pc2 := 1) dX8_wayIn_0 rfl ?_
  refine g_al0 (pc2 := 2) dX8_wayIn_1 rfl ?_
  refine g_il1 (pc2 := 3) dX8_wayIn_2 rfl ?_
  refine g_iconst (pc2 := 4) dX8_wayIn_3 k_iconst_0 rfl ?_
  refine g_cVi (pc2 := 7) (R_m_of l d _ _ _ hi (by decide)) meX8_of mlX8_110 (by rfl) ⟨_, rfl, rfl⟩ rfl rfl (by simp) ⟨Nat.le_refl _, Nat.le_refl _⟩ dX8_wayIn_4 rfl ?_
  rw [hl]
  refine g_il2 (pc2 := 8) dX8_wayIn_7 rfl ?_
  refine g_cVi (pc2 := 11) (R_m_routeOf l d _ _ _ hln ht) meX8_routeOf mlX8_106 (by rfl) ⟨_, rfl, rfl⟩ rfl rfl (by simp) ⟨Nat.le_refl _, Nat.le_refl _⟩ dX8_wayIn_8 rfl ?_
  exact g_iretT dX8_wayIn_11 rfl (Nat.le_refl _) (Nat.le_refl _) (by unfold pf_in; rw [hl, tN_nI (by omega)]) (rfl)
theorem R_m_wayOut (l : lt_L) (d : Nat) (σ : lt_S) (i t : Nat) (hi : i < 7) (ht : t < 4) {ln : Nat} (hl : σ 77 (16 + 7 * i + 1) = nI ln) (hln : ln < 3) : lt_T l (d + 2) mX8_wayOut lt_SA σ [.ref 76, .int (nI i), .int (nI t)] (some (pf_out (σ 77) i t)) σ := by
  refine lt_T.of [some (.ref 76), some (.int (nI i)), some (.int (nI t))] rfl rfl (Nat.le_of_ble_eq_true rfl) ?_
  refine g_al0 (pc2 := 1) dX8_wayOut_0 rfl ?_
  refine g_al0 (pc2 := 2) dX8_wayOut_1 rfl ?_
  refine g_il1 (pc2 := 3) dX8_wayOut_2 rfl ?_
  refine g_iconst (pc2 := 4) dX8_wayOut_3 k_iconst_1 rfl ?_
  refine g_cVi (pc2 := 7) (R_m_of l d _ _ _ hi (by decide)) meX8_of mlX8_110 (by rfl) ⟨_, rfl, rfl⟩ rfl rfl (by simp) ⟨Nat.le_refl _, Nat.le_refl _⟩ dX8_wayOut_4 rfl ?_
  rw [hl]
  refine g_il2 (pc2 := 8) dX8_wayOut_7 rfl ?_
  refine g_cVi (pc2 := 11) (R_m_routeOf l d _ _ _ hln ht) meX8_routeOf mlX8_106 (by rfl) ⟨_, rfl, rfl⟩ rfl rfl (by simp) ⟨Nat.le_refl _, Nat.le_refl _⟩ dX8_wayOut_8 rfl ?_
  exact g_iretT dX8_wayOut_11 rfl (Nat.le_refl _) (Nat.le_refl _) (by unfold pf_out; rw [hl, tN_nI (by omega)]) (rfl)
/-- what the small methods need of a train -/
def Ln (w : Nat → Int32) (i : Nat) : Prop := i < 7 ∧ (∃ a, a < 3 ∧ w (16 + 7 * i + 0) = nI a) ∧ (∃ b, b < 3 ∧ w (16 + 7 * i + 1) = nI b)
theorem Wf.ln {w : Nat → Int32} {ln T N i : Nat} (h : Wf w ln T N) (hi : i < N) : Ln w i := by
  obtain ⟨⟨a, ha, e1⟩, ⟨b, hb, e2⟩, -⟩ := h.2.2.2.2 i hi
  have := h.1.2.2
  have := h.2.2.1.2
  exact ⟨by omega, ⟨a, by omega, e1⟩, ⟨b, by omega, e2⟩⟩
theorem R_m_in' (l : lt_L) (d : Nat) (σ : lt_S) (i t : Nat) (h : Ln (σ 77) i) (ht : t < 4) : lt_T l (d + 2) mX8_wayIn lt_SA σ [.ref 76, .int (nI i), .int (nI t)] (some (pf_in (σ 77) i t)) σ := by
  obtain ⟨hi, ⟨a, ha, e1⟩, -⟩ := h
  exact R_m_wayIn l d σ i t hi ht e1 ha
theorem R_m_out' (l : lt_L) (d : Nat) (σ : lt_S) (i t : Nat) (h : Ln (σ 77) i) (ht : t < 4) : lt_T l (d + 2) mX8_wayOut lt_SA σ [.ref 76, .int (nI i), .int (nI t)] (some (pf_out (σ 77) i t)) σ := by
  obtain ⟨hi, -, ⟨a, ha, e1⟩⟩ := h
  exact R_m_wayOut l d σ i t hi ht e1 ha
theorem R_m_doesFit (l : lt_L) (d : Nat) (σ : lt_S) (i t : Nat) (h : Ln (σ 77) i) (ht : t < 4) : lt_T l (d + 3) mX8_doesFit lt_SA σ [.ref 76, .int (nI i), .int (nI t)] (some (bI (pf_fit (σ 77) i t))) σ := by
  refine lt_T.of [some (.ref 76), some (.int (nI i)), some (.int (nI t))] rfl rfl (Nat.le_of_ble_eq_true rfl) ?_
  refine g_al0 (pc2 := 1) dX8_doesFit_0 rfl ?_
  refine g_il1 (pc2 := 2) dX8_doesFit_1 rfl ?_
  refine g_il2 (pc2 := 3) dX8_doesFit_2 rfl ?_
  refine g_cVi (pc2 := 6) (R_m_in' l d _ _ _ h ht) meX8_wayIn mlX8_113 (by rfl) ⟨_, rfl, rfl⟩ rfl rfl (by simp) ⟨Nat.le_refl _, Nat.le_refl _⟩ dX8_doesFit_3 rfl ?_
  refine g_bipush (pc2 := 8) dX8_doesFit_6 k_bipush_m4 rfl ?_
  refine g_icmp_eq 26 11 dX8_doesFit_8 rfl rfl (fun h8 => ?_) (fun h8 => ?_)
  · refine g_iconst (pc2 := 27) dX8_doesFit_26 k_iconst_0 rfl ?_
    exact g_zretT dX8_doesFit_27 rfl (Nat.le_refl _) (Nat.le_refl _) (by simp [pf_fit, bI, *]) (rfl)
  · refine g_al0 (pc2 := 12) dX8_doesFit_11 rfl ?_
    refine g_il1 (pc2 := 13) dX8_doesFit_12 rfl ?_
    refine g_il2 (pc2 := 14) dX8_doesFit_13 rfl ?_
    refine g_cVi (pc2 := 17) (R_m_out' l d _ _ _ h ht) meX8_wayOut mlX8_116 (by rfl) ⟨_, rfl, rfl⟩ rfl rfl (by simp) ⟨Nat.le_refl _, Nat.le_refl _⟩ dX8_doesFit_14 rfl ?_
    refine g_bipush (pc2 := 19) dX8_doesFit_17 k_bipush_m4 rfl ?_
    refine g_icmp_eq 26 22 dX8_doesFit_19 rfl rfl (fun h19 => ?_) (fun h19 => ?_)
    · refine g_iconst (pc2 := 27) dX8_doesFit_26 k_iconst_0 rfl ?_
      exact g_zretT dX8_doesFit_27 rfl (Nat.le_refl _) (Nat.le_refl _) (by simp [pf_fit, bI, *]) (rfl)
    · refine g_iconst (pc2 := 23) dX8_doesFit_22 k_iconst_1 rfl ?_
      refine g_goto 27 dX8_doesFit_23 rfl ?_
      exact g_zretT dX8_doesFit_27 rfl (Nat.le_refl _) (Nat.le_refl _) (by simp [pf_fit, bI, *]) (rfl)
