/-! the reference: what is only read, told by pure functions of the row -/
def F_route (w : Nat → Int32) (a t : Int32) : Int32 := if hasB a (w 0) && hasB t (w 1) then w (4 + 4 * tN a + tN t) else -1
def F_train (w : Nat → Int32) (i k : Int32) : Int32 := if hasB i (w 2) && hasB k (nI 9) then (if tN k < 7 then w (16 + 7 * tN i + tN k) else if tN k = 7 then pf_fits w (tN i) else nI (pf_hard w (tN i))) else -1
def F_why (w : Nat → Int32) (i t : Int32) : Int32 := if hasB i (w 2) && hasB t (w 1) then nI (pf_why w (tN i) (tN t)) else -1
def F_clash (w : Nat → Int32) (i t j o : Int32) : Int32 := if hasB i (w 2) && hasB j (w 2) && !decide (i = j) && hasB t (w 1) && hasB o (w 1) then (if pf_fit w (tN i) (tN t) && pf_fit w (tN j) (tN o) then nI (pf_kind w (tN i) (tN t) (tN j) (tN o)) else nI 0) else -1
def F_on (w : Nat → Int32) (t m : Int32) : Int32 := if hasB t (w 1) && hasB m (nI 100) then pf_on w t m else -1
def F_taken (w : Nat → Int32) (m : Int32) : Int32 := if hasB m (nI 100) then pf_taken w m else -1
def F_use (w : Nat → Int32) (k x : Int32) : Int32 := if hasB k (nI 2) && hasB x (if k = 0 then w 1 else nI 12) then nI (pf_use w k x) else -1
theorem inB_9 (x : Int32) : inB x (nI 0) (nI 8) = hasB x (nI 9) := inB_has (n := 9) (by decide)
theorem inB_100 (x : Int32) : inB x (nI 0) (nI 99) = hasB x (nI 100) := inB_has (n := 100) (by decide)
theorem inB_2 (x : Int32) : inB x (nI 0) (nI 1) = hasB x (nI 2) := inB_has (n := 2) (by decide)
theorem inB_12 (x : Int32) : inB x (nI 0) (nI 11) = hasB x (nI 12) := inB_has (n := 12) (by decide)
theorem R_m_route (l : lt_L) (d : Nat) (σ : lt_S) {ln T N : Nat} (hw : Wf (σ 77) ln T N) (a t : Int32) : lt_T l (d + 3) mX8_route lt_SA σ [.ref 76, .int a, .int t] (some (F_route (σ 77) a t)) σ := by
  refine lt_T.of [some (.ref 76), some (.int a), some (.int t)] rfl rfl (Nat.le_of_ble_eq_true rfl) ?_
  have hL := hw.1
  have hT := hw.2.1
  refine g_il1 (pc2 := 1) dX8_route_0 rfl ?_
  refine g_iconst (pc2 := 2) dX8_route_1 k_iconst_0 rfl ?_
  refine g_al0 (pc2 := 3) dX8_route_2 rfl ?_
  refine g_getr (pc2 := 6) (by rfl) (by rfl) flX8_7 dX8_route_3 rfl ?_
  refine g_iconst (pc2 := 7) dX8_route_6 k_iconst_0 rfl ?_
  refine g_iald (pc2 := 8) (by rfl) (by omega) (by decide) dX8_route_7 rfl ?_
  refine g_iconst (pc2 := 9) dX8_route_8 k_iconst_1 rfl ?_
  refine g_isub (pc2 := 10) dX8_route_9 rfl ?_
  refine g_cSi (pc2 := 13) (R_m_in l (d + 1) _ _ _ _ _) meX8_in mlX8_58 rfl rfl (by simp) ⟨Nat.le_refl _, Nat.le_refl _⟩ dX8_route_10 rfl ?_
  rw [hL.1, inB_has (by omega)]
  refine g_if_eqB 33 16 dX8_route_13 rfl rfl (fun h13 => ?_) (fun h13 => ?_)
  · refine g_iconst (pc2 := 34) dX8_route_33 k_iconst_m1 rfl ?_
    exact g_iretT dX8_route_34 rfl (Nat.le_refl _) (Nat.le_refl _) (by first | (simp [F_route, hL.1, hT.1, h13, h21, tN_nI (show a < 2 ^ 31 by omega), tN_nI (show t < 2 ^ 31 by omega)]; done) | (simp [F_route, hL.1, h13]; done) | (simp [F_route, h21]; done)) (rfl)
  · refine g_al0 (pc2 := 17) dX8_route_16 rfl ?_
    refine g_il2 (pc2 := 18) dX8_route_17 rfl ?_
    refine g_cVi (pc2 := 21) (R_m_isTrack l d _ _ hT.1 (by omega)) meX8_isTrack mlX8_102 (by rfl) ⟨_, rfl, rfl⟩ rfl rfl (by simp) ⟨Nat.le_refl _, Nat.le_refl _⟩ dX8_route_18 rfl ?_
    refine g_if_eqB 33 24 dX8_route_21 rfl rfl (fun h21 => ?_) (fun h21 => ?_)
    · refine g_iconst (pc2 := 34) dX8_route_33 k_iconst_m1 rfl ?_
      exact g_iretT dX8_route_34 rfl (Nat.le_refl _) (Nat.le_refl _) (by first | (simp [F_route, hL.1, hT.1, h13, h21, tN_nI (show a < 2 ^ 31 by omega), tN_nI (show t < 2 ^ 31 by omega)]; done) | (simp [F_route, hL.1, h13]; done) | (simp [F_route, h21]; done)) (rfl)
    · obtain ⟨a, ha, rfl⟩ := hasB_ix (by omega) h13
      rw [hT.1] at h21
      obtain ⟨t, ht, rfl⟩ := hasB_ix (by omega) h21
      refine g_al0 (pc2 := 25) dX8_route_24 rfl ?_
      refine g_il1 (pc2 := 26) dX8_route_25 rfl ?_
      refine g_il2 (pc2 := 27) dX8_route_26 rfl ?_
      refine g_cVi (pc2 := 30) (R_m_routeOf l (d + 1) _ _ _ (by omega) (by omega)) meX8_routeOf mlX8_106 (by rfl) ⟨_, rfl, rfl⟩ rfl rfl (by simp) ⟨Nat.le_refl _, Nat.le_refl _⟩ dX8_route_27 rfl ?_
      refine g_goto 34 dX8_route_30 rfl ?_
      exact g_iretT dX8_route_34 rfl (Nat.le_refl _) (Nat.le_refl _) (by first | (simp [F_route, hL.1, hT.1, h13, h21, tN_nI (show a < 2 ^ 31 by omega), tN_nI (show t < 2 ^ 31 by omega)]; done) | (simp [F_route, hL.1, h13]; done) | (simp [F_route, h21]; done)) (rfl)
theorem R_m_why (l : lt_L) (d : Nat) (σ : lt_S) {ln T N : Nat} (hw : Wf (σ 77) ln T N) (i t : Int32) : lt_T l (d + 6) mX8_why lt_SA σ [.ref 76, .int i, .int t] (some (F_why (σ 77) i t)) σ := by
  refine lt_T.of [some (.ref 76), some (.int i), some (.int t)] rfl rfl (Nat.le_of_ble_eq_true rfl) ?_
  have hN := hw.2.2.1
  have hT := hw.2.1
  refine g_al0 (pc2 := 1) dX8_why_0 rfl ?_
  refine g_il1 (pc2 := 2) dX8_why_1 rfl ?_
  refine g_cVi (pc2 := 5) (R_m_isTrain l (d + 3) _ _ hN.1 (by omega)) meX8_isTrain mlX8_135 (by rfl) ⟨_, rfl, rfl⟩ rfl rfl (by simp) ⟨Nat.le_refl _, Nat.le_refl _⟩ dX8_why_2 rfl ?_
  refine g_if_eqB 25 8 dX8_why_5 rfl rfl (fun h5 => ?_) (fun h5 => ?_)
  · refine g_iconst (pc2 := 26) dX8_why_25 k_iconst_m1 rfl ?_
    exact g_iretT dX8_why_26 rfl (Nat.le_refl _) (Nat.le_refl _) (by first | (simp [F_why, h5b, h13b, tN_nI (show i < 2 ^ 31 by omega), tN_nI (show t < 2 ^ 31 by omega)]; done) | (simp [F_why, h5]; done) | (simp [F_why, h13]; done)) (rfl)
  · refine g_al0 (pc2 := 9) dX8_why_8 rfl ?_
    refine g_il2 (pc2 := 10) dX8_why_9 rfl ?_
    refine g_cVi (pc2 := 13) (R_m_isTrack l (d + 3) _ _ hT.1 (by omega)) meX8_isTrack mlX8_102 (by rfl) ⟨_, rfl, rfl⟩ rfl rfl (by simp) ⟨Nat.le_refl _, Nat.le_refl _⟩ dX8_why_10 rfl ?_
    refine g_if_eqB 25 16 dX8_why_13 rfl rfl (fun h13 => ?_) (fun h13 => ?_)
    · refine g_iconst (pc2 := 26) dX8_why_25 k_iconst_m1 rfl ?_
      exact g_iretT dX8_why_26 rfl (Nat.le_refl _) (Nat.le_refl _) (by first | (simp [F_why, h5b, h13b, tN_nI (show i < 2 ^ 31 by omega), tN_nI (show t < 2 ^ 31 by omega)]; done) | (simp [F_why, h5]; done) | (simp [F_why, h13]; done)) (rfl)
    · have h5b := h5
      have h13b := h13
      rw [hN.1] at h5
      obtain ⟨i, hi, rfl⟩ := hasB_ix (by omega) h5
      rw [hT.1] at h13
      obtain ⟨t, ht, rfl⟩ := hasB_ix (by omega) h13
      refine g_al0 (pc2 := 17) dX8_why_16 rfl ?_
      refine g_il1 (pc2 := 18) dX8_why_17 rfl ?_
      refine g_il2 (pc2 := 19) dX8_why_18 rfl ?_
      refine g_cVi (pc2 := 22) (R_m_whyNot l d _ hw _ _ (by omega) (by omega)) meX8_whyNot mlX8_132 (by rfl) ⟨_, rfl, rfl⟩ rfl rfl (by simp) ⟨Nat.le_refl _, Nat.le_refl _⟩ dX8_why_19 rfl ?_
      refine g_goto 26 dX8_why_22 rfl ?_
      exact g_iretT dX8_why_26 rfl (Nat.le_refl _) (Nat.le_refl _) (by first | (simp [F_why, h5b, h13b, tN_nI (show i < 2 ^ 31 by omega), tN_nI (show t < 2 ^ 31 by omega)]; done) | (simp [F_why, h5]; done) | (simp [F_why, h13]; done)) (rfl)
theorem R_m_train (l : lt_L) (d : Nat) (σ : lt_S) {ln T N : Nat} (hw : Wf (σ 77) ln T N) (i k : Int32) : lt_T l (d + 7) mX8_train lt_SA σ [.ref 76, .int i, .int k] (some (F_train (σ 77) i k)) σ := by
  refine lt_T.of [some (.ref 76), some (.int i), some (.int k)] rfl rfl (Nat.le_of_ble_eq_true rfl) ?_
  have hN := hw.2.2.1
  have hT := hw.2.1
  refine g_al0 (pc2 := 1) dX8_train_0 rfl ?_
  refine g_il1 (pc2 := 2) dX8_train_1 rfl ?_
  refine g_cVi (pc2 := 5) (R_m_isTrain l (d + 4) _ _ hN.1 (by omega)) meX8_isTrain mlX8_135 (by rfl) ⟨_, rfl, rfl⟩ rfl rfl (by simp) ⟨Nat.le_refl _, Nat.le_refl _⟩ dX8_train_2 rfl ?_
  refine g_if_eqB 18 8 dX8_train_5 rfl rfl (fun h5 => ?_) (fun h5 => ?_)
  · refine g_iconst (pc2 := 19) dX8_train_18 k_iconst_m1 rfl ?_
    exact g_iretT dX8_train_19 rfl (Nat.le_refl _) (Nat.le_refl _) (by first | (simp [F_train, h5]; done) | (simp [F_train, h15]; done) | (simp [F_train, h5b, h15b, tN_nI (show i < 2 ^ 31 by omega), tN_nI (show k < 2 ^ 31 by omega), h23]; done) | (simp [F_train, h5b, h15b, tN_nI (show i < 2 ^ 31 by omega), tN_nI (show k < 2 ^ 31 by omega), show ¬ k < 7 by omega, h36]; done) | (subst h36; simp [F_train, h5b, h15b, tN_nI (show i < 2 ^ 31 by omega), tN_nI (show 7 < 2 ^ 31 by decide)]; done)) (rfl)
  · refine g_il2 (pc2 := 9) dX8_train_8 rfl ?_
    refine g_iconst (pc2 := 10) dX8_train_9 k_iconst_0 rfl ?_
    refine g_bipush (pc2 := 12) dX8_train_10 k_bipush_8 rfl ?_
    refine g_cSi (pc2 := 15) (R_m_in l (d + 5) _ _ _ _ _) meX8_in mlX8_58 rfl rfl (by simp) ⟨Nat.le_refl _, Nat.le_refl _⟩ dX8_train_12 rfl ?_
    rw [inB_9]
    refine g_if_neB 20 18 dX8_train_15 rfl rfl (fun h15 => ?_) (fun h15 => ?_)
    · have h5b := h5
      have h15b := h15
      rw [hN.1] at h5
      obtain ⟨i, hi, rfl⟩ := hasB_ix (by omega) h5
      obtain ⟨k, hk, rfl⟩ := hasB_ix (by omega) h15
      refine g_il2 (pc2 := 21) dX8_train_20 rfl ?_
      refine g_bipush (pc2 := 23) dX8_train_21 k_bipush_7 rfl ?_
      refine g_icmpN_ge 33 26 dX8_train_23 rfl rfl (by omega) (by omega) (fun h23 => ?_) (fun h23 => ?_)
      · refine g_il2 (pc2 := 34) dX8_train_33 rfl ?_
        refine g_bipush (pc2 := 36) dX8_train_34 k_bipush_7 rfl ?_
        refine g_icmpN_ne 47 39 dX8_train_36 rfl rfl (by omega) (by omega) (fun h36 => ?_) (fun h36 => ?_)
        · refine g_al0 (pc2 := 48) dX8_train_47 rfl ?_
          refine g_il1 (pc2 := 49) dX8_train_48 rfl ?_
          refine g_cVi (pc2 := 52) (R_m_hardOf l d _ hw _ (by omega)) meX8_hardOf mlX8_142 (by rfl) ⟨_, rfl, rfl⟩ rfl rfl (by simp) ⟨Nat.le_refl _, Nat.le_refl _⟩ dX8_train_49 rfl ?_
          exact g_iretT dX8_train_52 rfl (Nat.le_refl _) (Nat.le_refl _) (by first | (simp [F_train, h5]; done) | (simp [F_train, h15]; done) | (simp [F_train, h5b, h15b, tN_nI (show i < 2 ^ 31 by omega), tN_nI (show k < 2 ^ 31 by omega), h23]; done) | (simp [F_train, h5b, h15b, tN_nI (show i < 2 ^ 31 by omega), tN_nI (show k < 2 ^ 31 by omega), show ¬ k < 7 by omega, h36]; done) | (subst h36; simp [F_train, h5b, h15b, tN_nI (show i < 2 ^ 31 by omega), tN_nI (show 7 < 2 ^ 31 by decide)]; done)) (rfl)
        · refine g_al0 (pc2 := 40) dX8_train_39 rfl ?_
          refine g_il1 (pc2 := 41) dX8_train_40 rfl ?_
          refine g_cVi (pc2 := 44) (R_m_fits l (d + 2) _ hw _ (by omega)) meX8_fits mlX8_138 (by rfl) ⟨_, rfl, rfl⟩ rfl rfl (by simp) ⟨Nat.le_refl _, Nat.le_refl _⟩ dX8_train_41 rfl ?_
          refine g_goto 52 dX8_train_44 rfl ?_
          exact g_iretT dX8_train_52 rfl (Nat.le_refl _) (Nat.le_refl _) (by first | (simp [F_train, h5]; done) | (simp [F_train, h15]; done) | (simp [F_train, h5b, h15b, tN_nI (show i < 2 ^ 31 by omega), tN_nI (show k < 2 ^ 31 by omega), h23]; done) | (simp [F_train, h5b, h15b, tN_nI (show i < 2 ^ 31 by omega), tN_nI (show k < 2 ^ 31 by omega), show ¬ k < 7 by omega, h36]; done) | (subst h36; simp [F_train, h5b, h15b, tN_nI (show i < 2 ^ 31 by omega), tN_nI (show 7 < 2 ^ 31 by decide)]; done)) (rfl)
      · refine g_al0 (pc2 := 27) dX8_train_26 rfl ?_
        refine g_il1 (pc2 := 28) dX8_train_27 rfl ?_
        refine g_il2 (pc2 := 29) dX8_train_28 rfl ?_
        refine g_cVi (pc2 := 32) (R_m_of l (d + 5) _ _ _ (by omega) (by omega)) meX8_of mlX8_110 (by rfl) ⟨_, rfl, rfl⟩ rfl rfl (by simp) ⟨Nat.le_refl _, Nat.le_refl _⟩ dX8_train_29 rfl ?_
        exact g_iretT dX8_train_32 rfl (Nat.le_refl _) (Nat.le_refl _) (by first | (simp [F_train, h5]; done) | (simp [F_train, h15]; done) | (simp [F_train, h5b, h15b, tN_nI (show i < 2 ^ 31 by omega), tN_nI (show k < 2 ^ 31 by omega), h23]; done) | (simp [F_train, h5b, h15b, tN_nI (show i < 2 ^ 31 by omega), tN_nI (show k < 2 ^ 31 by omega), show ¬ k < 7 by omega, h36]; done) | (subst h36; simp [F_train, h5b, h15b, tN_nI (show i < 2 ^ 31 by omega), tN_nI (show 7 < 2 ^ 31 by decide)]; done)) (rfl)
    · refine g_iconst (pc2 := 19) dX8_train_18 k_iconst_m1 rfl ?_
      exact g_iretT dX8_train_19 rfl (Nat.le_refl _) (Nat.le_refl _) (by first | (simp [F_train, h5]; done) | (simp [F_train, h15]; done) | (simp [F_train, h5b, h15b, tN_nI (show i < 2 ^ 31 by omega), tN_nI (show k < 2 ^ 31 by omega), h23]; done) | (simp [F_train, h5b, h15b, tN_nI (show i < 2 ^ 31 by omega), tN_nI (show k < 2 ^ 31 by omega), show ¬ k < 7 by omega, h36]; done) | (subst h36; simp [F_train, h5b, h15b, tN_nI (show i < 2 ^ 31 by omega), tN_nI (show 7 < 2 ^ 31 by decide)]; done)) (rfl)
theorem R_m_clash (l : lt_L) (d : Nat) (σ : lt_S) {ln T N : Nat} (hw : Wf (σ 77) ln T N) (i t j o : Int32) : lt_T l (d + 4) mX8_clash lt_SA σ [.ref 76, .int i, .int t, .int j, .int o] (some (F_clash (σ 77) i t j o)) σ := by
  refine lt_T.of [some (.ref 76), some (.int i), some (.int t), some (.int j), some (.int o)] rfl rfl (Nat.le_of_ble_eq_true rfl) ?_
  have hN := hw.2.2.1
  have hT := hw.2.1
  refine g_al0 (pc2 := 1) dX8_clash_0 rfl ?_
  refine g_il1 (pc2 := 2) dX8_clash_1 rfl ?_
  refine g_cVi (pc2 := 5) (R_m_isTrain l (d + 1) _ _ hN.1 (by omega)) meX8_isTrain mlX8_135 (by rfl) ⟨_, rfl, rfl⟩ rfl rfl (by simp) ⟨Nat.le_refl _, Nat.le_refl _⟩ dX8_clash_2 rfl ?_
  refine g_if_eqB 38 8 dX8_clash_5 rfl rfl (fun h5 => ?_) (fun h5 => ?_)
  · refine g_iconst (pc2 := 39) dX8_clash_38 k_iconst_m1 rfl ?_
    exact g_iretT dX8_clash_39 rfl (Nat.le_refl _) (Nat.le_refl _) (by first | (simp [F_clash, h5]; done) | (simp [F_clash, h13]; done) | (simp [F_clash, h18]; done) | (simp [F_clash, h26]; done) | (simp [F_clash, h35]; done)) (rfl)
  · refine g_al0 (pc2 := 9) dX8_clash_8 rfl ?_
    refine g_il3 (pc2 := 10) dX8_clash_9 rfl ?_
    refine g_cVi (pc2 := 13) (R_m_isTrain l (d + 1) _ _ hN.1 (by omega)) meX8_isTrain mlX8_135 (by rfl) ⟨_, rfl, rfl⟩ rfl rfl (by simp) ⟨Nat.le_refl _, Nat.le_refl _⟩ dX8_clash_10 rfl ?_
    refine g_if_eqB 38 16 dX8_clash_13 rfl rfl (fun h13 => ?_) (fun h13 => ?_)
    · refine g_iconst (pc2 := 39) dX8_clash_38 k_iconst_m1 rfl ?_
      exact g_iretT dX8_clash_39 rfl (Nat.le_refl _) (Nat.le_refl _) (by first | (simp [F_clash, h5]; done) | (simp [F_clash, h13]; done) | (simp [F_clash, h18]; done) | (simp [F_clash, h26]; done) | (simp [F_clash, h35]; done)) (rfl)
    · refine g_il1 (pc2 := 17) dX8_clash_16 rfl ?_
      refine g_il3 (pc2 := 18) dX8_clash_17 rfl ?_
      refine g_icmp_eq 38 21 dX8_clash_18 rfl rfl (fun h18 => ?_) (fun h18 => ?_)
      · refine g_iconst (pc2 := 39) dX8_clash_38 k_iconst_m1 rfl ?_
        exact g_iretT dX8_clash_39 rfl (Nat.le_refl _) (Nat.le_refl _) (by first | (simp [F_clash, h5]; done) | (simp [F_clash, h13]; done) | (simp [F_clash, h18]; done) | (simp [F_clash, h26]; done) | (simp [F_clash, h35]; done)) (rfl)
      · refine g_al0 (pc2 := 22) dX8_clash_21 rfl ?_
        refine g_il2 (pc2 := 23) dX8_clash_22 rfl ?_
        refine g_cVi (pc2 := 26) (R_m_isTrack l (d + 1) _ _ hT.1 (by omega)) meX8_isTrack mlX8_102 (by rfl) ⟨_, rfl, rfl⟩ rfl rfl (by simp) ⟨Nat.le_refl _, Nat.le_refl _⟩ dX8_clash_23 rfl ?_
        refine g_if_eqB 38 29 dX8_clash_26 rfl rfl (fun h26 => ?_) (fun h26 => ?_)
        · refine g_iconst (pc2 := 39) dX8_clash_38 k_iconst_m1 rfl ?_
          exact g_iretT dX8_clash_39 rfl (Nat.le_refl _) (Nat.le_refl _) (by first | (simp [F_clash, h5]; done) | (simp [F_clash, h13]; done) | (simp [F_clash, h18]; done) | (simp [F_clash, h26]; done) | (simp [F_clash, h35]; done)) (rfl)
        · refine g_al0 (pc2 := 30) dX8_clash_29 rfl ?_
          refine g_il4 (pc2 := 32) dX8_clash_30 rfl ?_
          refine g_cVi (pc2 := 35) (R_m_isTrack l (d + 1) _ _ hT.1 (by omega)) meX8_isTrack mlX8_102 (by rfl) ⟨_, rfl, rfl⟩ rfl rfl (by simp) ⟨Nat.le_refl _, Nat.le_refl _⟩ dX8_clash_32 rfl ?_
          refine g_if_neB 40 38 dX8_clash_35 rfl rfl (fun h35 => ?_) (fun h35 => ?_)
          · have hb := And.intro h5 (And.intro h13 (And.intro h18 (And.intro h26 h35)))
            rw [hN.1] at h5 h13
            rw [hT.1] at h26 h35
            obtain ⟨i, hi, rfl⟩ := hasB_ix (by omega) h5
            obtain ⟨j, hj, rfl⟩ := hasB_ix (by omega) h13
            obtain ⟨t, ht, rfl⟩ := hasB_ix (by omega) h26
            obtain ⟨o, ho, rfl⟩ := hasB_ix (by omega) h35
            have e1 := tN_nI (show i < 2 ^ 31 by omega)
            have e2 := tN_nI (show t < 2 ^ 31 by omega)
            have e3 := tN_nI (show j < 2 ^ 31 by omega)
            have e4 := tN_nI (show o < 2 ^ 31 by omega)
            refine g_al0 (pc2 := 41) dX8_clash_40 rfl ?_
            refine g_il1 (pc2 := 42) dX8_clash_41 rfl ?_
            refine g_il2 (pc2 := 43) dX8_clash_42 rfl ?_
            refine g_cVi (pc2 := 46) (R_m_doesFit l d _ _ _ (hw.ln (by omega)) (by omega)) meX8_doesFit mlX8_129 (by rfl) ⟨_, rfl, rfl⟩ rfl rfl (by simp) ⟨Nat.le_refl _, Nat.le_refl _⟩ dX8_clash_43 rfl ?_
            refine g_if_eqB 71 49 dX8_clash_46 rfl rfl (fun h46 => ?_) (fun h46 => ?_)
            · refine g_iconst (pc2 := 72) dX8_clash_71 k_iconst_0 rfl ?_
              exact g_iretT dX8_clash_72 rfl (Nat.le_refl _) (Nat.le_refl _) (by obtain ⟨b1, b2, b3, b4, b5⟩ := hb; simp only [F_clash, b1, b2, b4, b5, e1, e2, e3, e4]; first | (simp [b3, h46, h56]; done) | (simp [b3, h46]; done)) (rfl)
            · refine g_al0 (pc2 := 50) dX8_clash_49 rfl ?_
              refine g_il3 (pc2 := 51) dX8_clash_50 rfl ?_
              refine g_il4 (pc2 := 53) dX8_clash_51 rfl ?_
              refine g_cVi (pc2 := 56) (R_m_doesFit l d _ _ _ (hw.ln (by omega)) (by omega)) meX8_doesFit mlX8_129 (by rfl) ⟨_, rfl, rfl⟩ rfl rfl (by simp) ⟨Nat.le_refl _, Nat.le_refl _⟩ dX8_clash_53 rfl ?_
              refine g_if_eqB 71 59 dX8_clash_56 rfl rfl (fun h56 => ?_) (fun h56 => ?_)
              · refine g_iconst (pc2 := 72) dX8_clash_71 k_iconst_0 rfl ?_
                exact g_iretT dX8_clash_72 rfl (Nat.le_refl _) (Nat.le_refl _) (by obtain ⟨b1, b2, b3, b4, b5⟩ := hb; simp only [F_clash, b1, b2, b4, b5, e1, e2, e3, e4]; first | (simp [b3, h46, h56]; done) | (simp [b3, h46]; done)) (rfl)
              · refine g_al0 (pc2 := 60) dX8_clash_59 rfl ?_
                refine g_il1 (pc2 := 61) dX8_clash_60 rfl ?_
                refine g_il2 (pc2 := 62) dX8_clash_61 rfl ?_
                refine g_il3 (pc2 := 63) dX8_clash_62 rfl ?_
                refine g_il4 (pc2 := 65) dX8_clash_63 rfl ?_
                refine g_cVi (pc2 := 68) (R_m_clashOf l d _ _ _ _ _ (hw.ln (by omega)) (by omega) (hw.ln (by omega)) (by omega)) meX8_clashOf mlX8_122 (by rfl) ⟨_, rfl, rfl⟩ rfl rfl (by simp) ⟨Nat.le_refl _, Nat.le_refl _⟩ dX8_clash_65 rfl ?_
                refine g_goto 72 dX8_clash_68 rfl ?_
                exact g_iretT dX8_clash_72 rfl (Nat.le_refl _) (Nat.le_refl _) (by obtain ⟨b1, b2, b3, b4, b5⟩ := hb; simp only [F_clash, b1, b2, b4, b5, e1, e2, e3, e4]; first | (simp [b3, h46, h56]; done) | (simp [b3, h46]; done)) (rfl)
          · refine g_iconst (pc2 := 39) dX8_clash_38 k_iconst_m1 rfl ?_
            exact g_iretT dX8_clash_39 rfl (Nat.le_refl _) (Nat.le_refl _) (by first | (simp [F_clash, h5]; done) | (simp [F_clash, h13]; done) | (simp [F_clash, h18]; done) | (simp [F_clash, h26]; done) | (simp [F_clash, h35]; done)) (rfl)
theorem R_m_onTrack (l : lt_L) (d : Nat) (σ : lt_S) {ln T N : Nat} (hw : Wf (σ 77) ln T N) (t m : Int32) : lt_T l (d + 2) mX8_onTrack lt_SA σ [.ref 76, .int t, .int m] (some (pf_on (σ 77) t m)) σ := by
  refine lt_T.of [some (.ref 76), some (.int t), some (.int m), none, none] rfl rfl (Nat.le_of_ble_eq_true rfl) ?_
  have hN := hw.2.2.1
  unfold pf_on
  rw [hw.tr.2.1]
  have key : ∀ k, k ≤ N → lt_g l (d + 2) mX8_onTrack lt_SA σ 5 [some (.ref 76), some (.int t), some (.int m), some (.int (orF (fun i => if decide (σ 77 (16 + 7 * i + 6) = t) && inB m (σ 77 (16 + 7 * i + 2)) (σ 77 (16 + 7 * i + 3)) then nI 1 <<< (nI i &&& 31) else nI 0) k)), some (.int (nI k))] [] (some (orF (fun i => if decide (σ 77 (16 + 7 * i + 6) = t) && inB m (σ 77 (16 + 7 * i + 2)) (σ 77 (16 + 7 * i + 3)) then nI 1 <<< (nI i &&& 31) else nI 0) N)) σ := by
    refine lt_dn N ?_ ?_
    · refine g_il4 (pc2 := 7) dX8_onTrack_5 rfl ?_
      refine g_al0 (pc2 := 8) dX8_onTrack_7 rfl ?_
      refine g_getr (pc2 := 11) (by rfl) (by rfl) flX8_7 dX8_onTrack_8 rfl ?_
      refine g_iconst (pc2 := 12) dX8_onTrack_11 k_iconst_2 rfl ?_
      refine g_iald (pc2 := 13) (by rfl) (by omega) (by decide) dX8_onTrack_12 rfl ?_
      rw [hN.1]
      refine g_icmpN_ge 66 16 dX8_onTrack_13 rfl rfl (by omega) (by omega) (fun h13 => ?_) (fun h13 => ?_)
      · refine g_il3 (pc2 := 67) dX8_onTrack_66 rfl ?_
        exact g_iretT dX8_onTrack_67 rfl (Nat.le_refl _) (Nat.le_refl _) (rfl) (rfl)
      · omega
    · intro k hk ih
      refine g_il4 (pc2 := 7) dX8_onTrack_5 rfl ?_
      refine g_al0 (pc2 := 8) dX8_onTrack_7 rfl ?_
      refine g_getr (pc2 := 11) (by rfl) (by rfl) flX8_7 dX8_onTrack_8 rfl ?_
      refine g_iconst (pc2 := 12) dX8_onTrack_11 k_iconst_2 rfl ?_
      refine g_iald (pc2 := 13) (by rfl) (by omega) (by decide) dX8_onTrack_12 rfl ?_
      rw [hN.1]
      refine g_icmpN_ge 66 16 dX8_onTrack_13 rfl rfl (by omega) (by omega) (fun h13 => ?_) (fun h13 => ?_)
      · omega
      · refine g_il3 (pc2 := 17) dX8_onTrack_16 rfl ?_
        refine g_al0 (pc2 := 18) dX8_onTrack_17 rfl ?_
        refine g_il4 (pc2 := 20) dX8_onTrack_18 rfl ?_
        refine g_bipush (pc2 := 22) dX8_onTrack_20 k_bipush_6 rfl ?_
        refine g_cVi (pc2 := 25) (R_m_of l d _ _ _ (by omega) (by decide)) meX8_of mlX8_110 (by rfl) ⟨_, rfl, rfl⟩ rfl rfl (by simp) ⟨Nat.le_refl _, Nat.le_refl _⟩ dX8_onTrack_22 rfl ?_
        refine g_il1 (pc2 := 26) dX8_onTrack_25 rfl ?_
        refine g_icmp_ne 57 29 dX8_onTrack_26 rfl rfl (fun h26 => ?_) (fun h26 => ?_)
        · refine g_iconst (pc2 := 58) dX8_onTrack_57 k_iconst_0 rfl ?_
          refine g_ior (pc2 := 59) dX8_onTrack_58 rfl ?_
          refine g_is3 (pc2 := 60) dX8_onTrack_59 (by decide) rfl ?_
          refine g_in4 (pc2 := 63) dX8_onTrack_60 (nI_inc _) (by decide) rfl ?_
          refine g_goto 5 dX8_onTrack_63 rfl ?_
          simp only [orF] at ih
          first | (rw [if_pos (by simp [h26, h47])] at ih; exact ih) | (rw [if_neg (by first | (simp [h47]; done) | (simp [h26]; done))] at ih; exact ih)
        · refine g_il2 (pc2 := 30) dX8_onTrack_29 rfl ?_
          refine g_al0 (pc2 := 31) dX8_onTrack_30 rfl ?_
          refine g_il4 (pc2 := 33) dX8_onTrack_31 rfl ?_
          refine g_iconst (pc2 := 34) dX8_onTrack_33 k_iconst_2 rfl ?_
          refine g_cVi (pc2 := 37) (R_m_of l d _ _ _ (by omega) (by decide)) meX8_of mlX8_110 (by rfl) ⟨_, rfl, rfl⟩ rfl rfl (by simp) ⟨Nat.le_refl _, Nat.le_refl _⟩ dX8_onTrack_34 rfl ?_
          refine g_al0 (pc2 := 38) dX8_onTrack_37 rfl ?_
          refine g_il4 (pc2 := 40) dX8_onTrack_38 rfl ?_
          refine g_iconst (pc2 := 41) dX8_onTrack_40 k_iconst_3 rfl ?_
          refine g_cVi (pc2 := 44) (R_m_of l d _ _ _ (by omega) (by decide)) meX8_of mlX8_110 (by rfl) ⟨_, rfl, rfl⟩ rfl rfl (by simp) ⟨Nat.le_refl _, Nat.le_refl _⟩ dX8_onTrack_41 rfl ?_
          refine g_cSi (pc2 := 47) (R_m_in l d _ _ _ _ _) meX8_in mlX8_58 rfl rfl (by simp) ⟨Nat.le_refl _, Nat.le_refl _⟩ dX8_onTrack_44 rfl ?_
          refine g_if_eqB 57 50 dX8_onTrack_47 rfl rfl (fun h47 => ?_) (fun h47 => ?_)
          · refine g_iconst (pc2 := 58) dX8_onTrack_57 k_iconst_0 rfl ?_
            refine g_ior (pc2 := 59) dX8_onTrack_58 rfl ?_
            refine g_is3 (pc2 := 60) dX8_onTrack_59 (by decide) rfl ?_
            refine g_in4 (pc2 := 63) dX8_onTrack_60 (nI_inc _) (by decide) rfl ?_
            refine g_goto 5 dX8_onTrack_63 rfl ?_
            simp only [orF] at ih
            first | (rw [if_pos (by simp [h26, h47])] at ih; exact ih) | (rw [if_neg (by first | (simp [h47]; done) | (simp [h26]; done))] at ih; exact ih)
          · refine g_iconst (pc2 := 51) dX8_onTrack_50 k_iconst_1 rfl ?_
            refine g_il4 (pc2 := 53) dX8_onTrack_51 rfl ?_
            refine g_ishl (pc2 := 54) dX8_onTrack_53 rfl ?_
            refine g_goto 58 dX8_onTrack_54 rfl ?_
            refine g_ior (pc2 := 59) dX8_onTrack_58 rfl ?_
            refine g_is3 (pc2 := 60) dX8_onTrack_59 (by decide) rfl ?_
            refine g_in4 (pc2 := 63) dX8_onTrack_60 (nI_inc _) (by decide) rfl ?_
            refine g_goto 5 dX8_onTrack_63 rfl ?_
            simp only [orF] at ih
            first | (rw [if_pos (by simp [h26, h47])] at ih; exact ih) | (rw [if_neg (by first | (simp [h47]; done) | (simp [h26]; done))] at ih; exact ih)
  refine g_iconst (pc2 := 1) dX8_onTrack_0 k_iconst_0 rfl ?_
  refine g_is3 (pc2 := 2) dX8_onTrack_1 (by decide) rfl ?_
  refine g_iconst (pc2 := 3) dX8_onTrack_2 k_iconst_0 rfl ?_
  refine g_is4 (pc2 := 5) dX8_onTrack_3 (by decide) rfl ?_
  exact key 0 (Nat.zero_le _)
theorem or_assoc32 (a b c : Int32) : a ||| b ||| c = a ||| (b ||| c) := Int32.or_assoc a b c
theorem R_m_takenIn (l : lt_L) (d : Nat) (σ : lt_S) {ln T N : Nat} (hw : Wf (σ 77) ln T N) (m : Int32) : lt_T l (d + 3) mX8_takenIn lt_SA σ [.ref 76, .int m] (some (pf_taken (σ 77) m)) σ := by
  refine lt_T.of [some (.ref 76), some (.int m), none, none, none] rfl rfl (Nat.le_of_ble_eq_true rfl) ?_
  have hN := hw.2.2.1
  have hT := hw.2.1
  unfold pf_taken
  rw [hw.tr.2.1]
  have key : ∀ k, k ≤ N → ∀ z : Option Value, lt_g l (d + 3) mX8_takenIn lt_SA σ 4 [some (.ref 76), some (.int m), some (.int (orF (pf_takenI (σ 77) m) k)), some (.int (nI k)), z] [] (some (orF (pf_takenI (σ 77) m) N)) σ := by
    refine lt_dn N ?_ ?_
    · intro z
      refine g_il3 (pc2 := 5) dX8_takenIn_4 rfl ?_
      refine g_al0 (pc2 := 6) dX8_takenIn_5 rfl ?_
      refine g_getr (pc2 := 9) (by rfl) (by rfl) flX8_7 dX8_takenIn_6 rfl ?_
      refine g_iconst (pc2 := 10) dX8_takenIn_9 k_iconst_2 rfl ?_
      refine g_iald (pc2 := 11) (by rfl) (by omega) (by decide) dX8_takenIn_10 rfl ?_
      rw [hN.1]
      refine g_icmpN_ge 106 14 dX8_takenIn_11 rfl rfl (by omega) (by omega) (fun h11 => ?_) (fun h11 => ?_)
      · refine g_il2 (pc2 := 107) dX8_takenIn_106 rfl ?_
        exact g_iretT dX8_takenIn_107 rfl (Nat.le_refl _) (Nat.le_refl _) (rfl) (rfl)
      · omega
    · intro k hk ih z
      have hkk := hw.ln hk
      have fin : ∀ (x : Int32) (z : Option Value), x = pf_takenI (σ 77) m k → lt_g l (d + 3) mX8_takenIn lt_SA σ 4 [some (.ref 76), some (.int m), some (.int (orF (pf_takenI (σ 77) m) k ||| x)), some (.int (nI (k + 1))), z] [] (some (orF (pf_takenI (σ 77) m) N)) σ := by
        intro x z hx
        subst hx
        exact ih z
      by_cases hp : σ 77 (16 + 7 * k + 6) = -4
      · refine g_il3 (pc2 := 5) dX8_takenIn_4 rfl ?_
        refine g_al0 (pc2 := 6) dX8_takenIn_5 rfl ?_
        refine g_getr (pc2 := 9) (by rfl) (by rfl) flX8_7 dX8_takenIn_6 rfl ?_
        refine g_iconst (pc2 := 10) dX8_takenIn_9 k_iconst_2 rfl ?_
        refine g_iald (pc2 := 11) (by rfl) (by omega) (by decide) dX8_takenIn_10 rfl ?_
        rw [hN.1]
        refine g_icmpN_ge 106 14 dX8_takenIn_11 rfl rfl (by omega) (by omega) (fun h11 => ?_) (fun h11 => ?_)
        · omega
        · refine g_al0 (pc2 := 15) dX8_takenIn_14 rfl ?_
          refine g_il3 (pc2 := 16) dX8_takenIn_15 rfl ?_
          refine g_bipush (pc2 := 18) dX8_takenIn_16 k_bipush_6 rfl ?_
          refine g_cVi (pc2 := 21) (R_m_of l (d + 1) _ _ _ (by omega) (by decide)) meX8_of mlX8_110 (by rfl) ⟨_, rfl, rfl⟩ rfl rfl (by simp) ⟨Nat.le_refl _, Nat.le_refl _⟩ dX8_takenIn_18 rfl ?_
          refine g_is4 (pc2 := 23) dX8_takenIn_21 (by decide) rfl ?_
          refine g_il4 (pc2 := 25) dX8_takenIn_23 rfl ?_
          refine g_bipush (pc2 := 27) dX8_takenIn_25 k_bipush_m4 rfl ?_
          refine g_icmp_eq 100 30 dX8_takenIn_27 rfl rfl (fun h27 => ?_) (fun h27 => ?_)
          · refine g_in3 (pc2 := 103) dX8_takenIn_100 (nI_inc _) (by decide) rfl ?_
            refine g_goto 4 dX8_takenIn_103 rfl ?_
            have f9 := fin (nI 0) (some (.int (σ 77 (16 + 7 * k + 6)))) (by simp [pf_takenI, hp])
            rw [or_0] at f9
            exact f9
          · exact absurd hp h27
      · obtain ⟨o, ho1, ho2, ho3⟩ := hw.pl hk hp
        refine g_il3 (pc2 := 5) dX8_takenIn_4 rfl ?_
        refine g_al0 (pc2 := 6) dX8_takenIn_5 rfl ?_
        refine g_getr (pc2 := 9) (by rfl) (by rfl) flX8_7 dX8_takenIn_6 rfl ?_
        refine g_iconst (pc2 := 10) dX8_takenIn_9 k_iconst_2 rfl ?_
        refine g_iald (pc2 := 11) (by rfl) (by omega) (by decide) dX8_takenIn_10 rfl ?_
        rw [hN.1]
        refine g_icmpN_ge 106 14 dX8_takenIn_11 rfl rfl (by omega) (by omega) (fun h11 => ?_) (fun h11 => ?_)
        · omega
        · refine g_al0 (pc2 := 15) dX8_takenIn_14 rfl ?_
          refine g_il3 (pc2 := 16) dX8_takenIn_15 rfl ?_
          refine g_bipush (pc2 := 18) dX8_takenIn_16 k_bipush_6 rfl ?_
          refine g_cVi (pc2 := 21) (R_m_of l (d + 1) _ _ _ (by omega) (by decide)) meX8_of mlX8_110 (by rfl) ⟨_, rfl, rfl⟩ rfl rfl (by simp) ⟨Nat.le_refl _, Nat.le_refl _⟩ dX8_takenIn_18 rfl ?_
          rw [ho2]
          refine g_is4 (pc2 := 23) dX8_takenIn_21 (by decide) rfl ?_
          refine g_il4 (pc2 := 25) dX8_takenIn_23 rfl ?_
          refine g_bipush (pc2 := 27) dX8_takenIn_25 k_bipush_m4 rfl ?_
          refine g_icmp_eq 100 30 dX8_takenIn_27 rfl rfl (fun h27 => ?_) (fun h27 => ?_)
          · exact absurd h27 (m4_ne (by omega))
          · refine g_il2 (pc2 := 31) dX8_takenIn_30 rfl ?_
            refine g_il1 (pc2 := 32) dX8_takenIn_31 rfl ?_
            refine g_al0 (pc2 := 33) dX8_takenIn_32 rfl ?_
            refine g_il3 (pc2 := 34) dX8_takenIn_33 rfl ?_
            refine g_iconst (pc2 := 35) dX8_takenIn_34 k_iconst_2 rfl ?_
            refine g_cVi (pc2 := 38) (R_m_of l (d + 1) _ _ _ (by omega) (by decide)) meX8_of mlX8_110 (by rfl) ⟨_, rfl, rfl⟩ rfl rfl (by simp) ⟨Nat.le_refl _, Nat.le_refl _⟩ dX8_takenIn_35 rfl ?_
            refine g_iconst (pc2 := 39) dX8_takenIn_38 k_iconst_1 rfl ?_
            refine g_isub (pc2 := 40) dX8_takenIn_39 rfl ?_
            refine g_al0 (pc2 := 41) dX8_takenIn_40 rfl ?_
            refine g_il3 (pc2 := 42) dX8_takenIn_41 rfl ?_
            refine g_iconst (pc2 := 43) dX8_takenIn_42 k_iconst_2 rfl ?_
            refine g_cVi (pc2 := 46) (R_m_of l (d + 1) _ _ _ (by omega) (by decide)) meX8_of mlX8_110 (by rfl) ⟨_, rfl, rfl⟩ rfl rfl (by simp) ⟨Nat.le_refl _, Nat.le_refl _⟩ dX8_takenIn_43 rfl ?_
            refine g_cSi (pc2 := 49) (R_m_in l (d + 1) _ _ _ _ _) meX8_in mlX8_58 rfl rfl (by simp) ⟨Nat.le_refl _, Nat.le_refl _⟩ dX8_takenIn_46 rfl ?_
            refine g_if_eqB 62 52 dX8_takenIn_49 rfl rfl (fun h49 => ?_) (fun h49 => ?_)
            · refine g_iconst (pc2 := 63) dX8_takenIn_62 k_iconst_0 rfl ?_
              refine g_ior (pc2 := 64) dX8_takenIn_63 rfl ?_
              refine g_is2 (pc2 := 65) dX8_takenIn_64 (by decide) rfl ?_
              refine g_il2 (pc2 := 66) dX8_takenIn_65 rfl ?_
              refine g_il1 (pc2 := 67) dX8_takenIn_66 rfl ?_
              refine g_al0 (pc2 := 68) dX8_takenIn_67 rfl ?_
              refine g_il3 (pc2 := 69) dX8_takenIn_68 rfl ?_
              refine g_iconst (pc2 := 70) dX8_takenIn_69 k_iconst_3 rfl ?_
              refine g_cVi (pc2 := 73) (R_m_of l (d + 1) _ _ _ (by omega) (by decide)) meX8_of mlX8_110 (by rfl) ⟨_, rfl, rfl⟩ rfl rfl (by simp) ⟨Nat.le_refl _, Nat.le_refl _⟩ dX8_takenIn_70 rfl ?_
              refine g_al0 (pc2 := 74) dX8_takenIn_73 rfl ?_
              refine g_il3 (pc2 := 75) dX8_takenIn_74 rfl ?_
              refine g_iconst (pc2 := 76) dX8_takenIn_75 k_iconst_3 rfl ?_
              refine g_cVi (pc2 := 79) (R_m_of l (d + 1) _ _ _ (by omega) (by decide)) meX8_of mlX8_110 (by rfl) ⟨_, rfl, rfl⟩ rfl rfl (by simp) ⟨Nat.le_refl _, Nat.le_refl _⟩ dX8_takenIn_76 rfl ?_
              refine g_iconst (pc2 := 80) dX8_takenIn_79 k_iconst_1 rfl ?_
              refine g_iadd (pc2 := 81) dX8_takenIn_80 rfl ?_
              refine g_cSi (pc2 := 84) (R_m_in l (d + 1) _ _ _ _ _) meX8_in mlX8_58 rfl rfl (by simp) ⟨Nat.le_refl _, Nat.le_refl _⟩ dX8_takenIn_81 rfl ?_
              refine g_if_eqB 97 87 dX8_takenIn_84 rfl rfl (fun h84 => ?_) (fun h84 => ?_)
              · refine g_iconst (pc2 := 98) dX8_takenIn_97 k_iconst_0 rfl ?_
                refine g_ior (pc2 := 99) dX8_takenIn_98 rfl ?_
                refine g_is2 (pc2 := 100) dX8_takenIn_99 (by decide) rfl ?_
                refine g_in3 (pc2 := 103) dX8_takenIn_100 (nI_inc _) (by decide) rfl ?_
                refine g_goto 4 dX8_takenIn_103 rfl ?_
                rw [or_assoc32]
                refine fin _ _ ?_
                simp [pf_takenI, ho2, m4_ne (show o < 2 ^ 31 by omega), tN_nI (show o < 2 ^ 31 by omega), h49, h84]
              · refine g_al0 (pc2 := 88) dX8_takenIn_87 rfl ?_
                refine g_il3 (pc2 := 89) dX8_takenIn_88 rfl ?_
                refine g_il4 (pc2 := 91) dX8_takenIn_89 rfl ?_
                refine g_cVi (pc2 := 94) (R_m_out' l d _ _ _ hkk (by omega)) meX8_wayOut mlX8_116 (by rfl) ⟨_, rfl, rfl⟩ rfl rfl (by simp) ⟨Nat.le_refl _, Nat.le_refl _⟩ dX8_takenIn_91 rfl ?_
                refine g_goto 98 dX8_takenIn_94 rfl ?_
                refine g_ior (pc2 := 99) dX8_takenIn_98 rfl ?_
                refine g_is2 (pc2 := 100) dX8_takenIn_99 (by decide) rfl ?_
                refine g_in3 (pc2 := 103) dX8_takenIn_100 (nI_inc _) (by decide) rfl ?_
                refine g_goto 4 dX8_takenIn_103 rfl ?_
                rw [or_assoc32]
                refine fin _ _ ?_
                simp [pf_takenI, ho2, m4_ne (show o < 2 ^ 31 by omega), tN_nI (show o < 2 ^ 31 by omega), h49, h84]
            · refine g_al0 (pc2 := 53) dX8_takenIn_52 rfl ?_
              refine g_il3 (pc2 := 54) dX8_takenIn_53 rfl ?_
              refine g_il4 (pc2 := 56) dX8_takenIn_54 rfl ?_
              refine g_cVi (pc2 := 59) (R_m_in' l d _ _ _ hkk (by omega)) meX8_wayIn mlX8_113 (by rfl) ⟨_, rfl, rfl⟩ rfl rfl (by simp) ⟨Nat.le_refl _, Nat.le_refl _⟩ dX8_takenIn_56 rfl ?_
              refine g_goto 63 dX8_takenIn_59 rfl ?_
              refine g_ior (pc2 := 64) dX8_takenIn_63 rfl ?_
              refine g_is2 (pc2 := 65) dX8_takenIn_64 (by decide) rfl ?_
              refine g_il2 (pc2 := 66) dX8_takenIn_65 rfl ?_
              refine g_il1 (pc2 := 67) dX8_takenIn_66 rfl ?_
              refine g_al0 (pc2 := 68) dX8_takenIn_67 rfl ?_
              refine g_il3 (pc2 := 69) dX8_takenIn_68 rfl ?_
              refine g_iconst (pc2 := 70) dX8_takenIn_69 k_iconst_3 rfl ?_
              refine g_cVi (pc2 := 73) (R_m_of l (d + 1) _ _ _ (by omega) (by decide)) meX8_of mlX8_110 (by rfl) ⟨_, rfl, rfl⟩ rfl rfl (by simp) ⟨Nat.le_refl _, Nat.le_refl _⟩ dX8_takenIn_70 rfl ?_
              refine g_al0 (pc2 := 74) dX8_takenIn_73 rfl ?_
              refine g_il3 (pc2 := 75) dX8_takenIn_74 rfl ?_
              refine g_iconst (pc2 := 76) dX8_takenIn_75 k_iconst_3 rfl ?_
              refine g_cVi (pc2 := 79) (R_m_of l (d + 1) _ _ _ (by omega) (by decide)) meX8_of mlX8_110 (by rfl) ⟨_, rfl, rfl⟩ rfl rfl (by simp) ⟨Nat.le_refl _, Nat.le_refl _⟩ dX8_takenIn_76 rfl ?_
              refine g_iconst (pc2 := 80) dX8_takenIn_79 k_iconst_1 rfl ?_
              refine g_iadd (pc2 := 81) dX8_takenIn_80 rfl ?_
              refine g_cSi (pc2 := 84) (R_m_in l (d + 1) _ _ _ _ _) meX8_in mlX8_58 rfl rfl (by simp) ⟨Nat.le_refl _, Nat.le_refl _⟩ dX8_takenIn_81 rfl ?_
              refine g_if_eqB 97 87 dX8_takenIn_84 rfl rfl (fun h84 => ?_) (fun h84 => ?_)
              · refine g_iconst (pc2 := 98) dX8_takenIn_97 k_iconst_0 rfl ?_
                refine g_ior (pc2 := 99) dX8_takenIn_98 rfl ?_
                refine g_is2 (pc2 := 100) dX8_takenIn_99 (by decide) rfl ?_
                refine g_in3 (pc2 := 103) dX8_takenIn_100 (nI_inc _) (by decide) rfl ?_
                refine g_goto 4 dX8_takenIn_103 rfl ?_
                rw [or_assoc32]
                refine fin _ _ ?_
                simp [pf_takenI, ho2, m4_ne (show o < 2 ^ 31 by omega), tN_nI (show o < 2 ^ 31 by omega), h49, h84]
              · refine g_al0 (pc2 := 88) dX8_takenIn_87 rfl ?_
                refine g_il3 (pc2 := 89) dX8_takenIn_88 rfl ?_
                refine g_il4 (pc2 := 91) dX8_takenIn_89 rfl ?_
                refine g_cVi (pc2 := 94) (R_m_out' l d _ _ _ hkk (by omega)) meX8_wayOut mlX8_116 (by rfl) ⟨_, rfl, rfl⟩ rfl rfl (by simp) ⟨Nat.le_refl _, Nat.le_refl _⟩ dX8_takenIn_91 rfl ?_
                refine g_goto 98 dX8_takenIn_94 rfl ?_
                refine g_ior (pc2 := 99) dX8_takenIn_98 rfl ?_
                refine g_is2 (pc2 := 100) dX8_takenIn_99 (by decide) rfl ?_
                refine g_in3 (pc2 := 103) dX8_takenIn_100 (nI_inc _) (by decide) rfl ?_
                refine g_goto 4 dX8_takenIn_103 rfl ?_
                rw [or_assoc32]
                refine fin _ _ ?_
                simp [pf_takenI, ho2, m4_ne (show o < 2 ^ 31 by omega), tN_nI (show o < 2 ^ 31 by omega), h49, h84]
  refine g_iconst (pc2 := 1) dX8_takenIn_0 k_iconst_0 rfl ?_
  refine g_is2 (pc2 := 2) dX8_takenIn_1 (by decide) rfl ?_
  refine g_iconst (pc2 := 3) dX8_takenIn_2 k_iconst_0 rfl ?_
  refine g_is3 (pc2 := 4) dX8_takenIn_3 (by decide) rfl ?_
  exact key 0 (Nat.zero_le _) _
theorem R_m_on (l : lt_L) (d : Nat) (σ : lt_S) {ln T N : Nat} (hw : Wf (σ 77) ln T N) (t m : Int32) : lt_T l (d + 3) mX8_on lt_SA σ [.ref 76, .int t, .int m] (some (F_on (σ 77) t m)) σ := by
  refine lt_T.of [some (.ref 76), some (.int t), some (.int m)] rfl rfl (Nat.le_of_ble_eq_true rfl) ?_
  have hT := hw.2.1
  refine g_al0 (pc2 := 1) dX8_on_0 rfl ?_
  refine g_il1 (pc2 := 2) dX8_on_1 rfl ?_
  refine g_cVi (pc2 := 5) (R_m_isTrack l d _ _ hT.1 (by omega)) meX8_isTrack mlX8_102 (by rfl) ⟨_, rfl, rfl⟩ rfl rfl (by simp) ⟨Nat.le_refl _, Nat.le_refl _⟩ dX8_on_2 rfl ?_
  refine g_if_eqB 27 8 dX8_on_5 rfl rfl (fun h5 => ?_) (fun h5 => ?_)
  · refine g_iconst (pc2 := 28) dX8_on_27 k_iconst_m1 rfl ?_
    exact g_iretT dX8_on_28 rfl (Nat.le_refl _) (Nat.le_refl _) (by first | (simp [F_on, h5, h15]; done) | (simp [F_on, h5]; done)) (rfl)
  · refine g_il2 (pc2 := 9) dX8_on_8 rfl ?_
    refine g_iconst (pc2 := 10) dX8_on_9 k_iconst_0 rfl ?_
    refine g_bipush (pc2 := 12) dX8_on_10 k_bipush_99 rfl ?_
    refine g_cSi (pc2 := 15) (R_m_in l (d + 1) _ _ _ _ _) meX8_in mlX8_58 rfl rfl (by simp) ⟨Nat.le_refl _, Nat.le_refl _⟩ dX8_on_12 rfl ?_
    rw [inB_100]
    refine g_if_eqB 27 18 dX8_on_15 rfl rfl (fun h15 => ?_) (fun h15 => ?_)
    · refine g_iconst (pc2 := 28) dX8_on_27 k_iconst_m1 rfl ?_
      exact g_iretT dX8_on_28 rfl (Nat.le_refl _) (Nat.le_refl _) (by first | (simp [F_on, h5, h15]; done) | (simp [F_on, h5]; done)) (rfl)
    · refine g_al0 (pc2 := 19) dX8_on_18 rfl ?_
      refine g_il1 (pc2 := 20) dX8_on_19 rfl ?_
      refine g_il2 (pc2 := 21) dX8_on_20 rfl ?_
      refine g_cVi (pc2 := 24) (R_m_onTrack l d _ hw _ _) meX8_onTrack mlX8_193 (by rfl) ⟨_, rfl, rfl⟩ rfl rfl (by simp) ⟨Nat.le_refl _, Nat.le_refl _⟩ dX8_on_21 rfl ?_
      refine g_goto 28 dX8_on_24 rfl ?_
      exact g_iretT dX8_on_28 rfl (Nat.le_refl _) (Nat.le_refl _) (by first | (simp [F_on, h5, h15]; done) | (simp [F_on, h5]; done)) (rfl)
theorem R_m_taken (l : lt_L) (d : Nat) (σ : lt_S) {ln T N : Nat} (hw : Wf (σ 77) ln T N) (m : Int32) : lt_T l (d + 4) mX8_taken lt_SA σ [.ref 76, .int m] (some (F_taken (σ 77) m)) σ := by
  refine lt_T.of [some (.ref 76), some (.int m)] rfl rfl (Nat.le_of_ble_eq_true rfl) ?_
  refine g_il1 (pc2 := 1) dX8_taken_0 rfl ?_
  refine g_iconst (pc2 := 2) dX8_taken_1 k_iconst_0 rfl ?_
  refine g_bipush (pc2 := 4) dX8_taken_2 k_bipush_99 rfl ?_
  refine g_cSi (pc2 := 7) (R_m_in l (d + 2) _ _ _ _ _) meX8_in mlX8_58 rfl rfl (by simp) ⟨Nat.le_refl _, Nat.le_refl _⟩ dX8_taken_4 rfl ?_
  rw [inB_100]
  refine g_if_eqB 18 10 dX8_taken_7 rfl rfl (fun h7 => ?_) (fun h7 => ?_)
  · refine g_iconst (pc2 := 19) dX8_taken_18 k_iconst_m1 rfl ?_
    exact g_iretT dX8_taken_19 rfl (Nat.le_refl _) (Nat.le_refl _) (by simp [F_taken, h7]) (rfl)
  · refine g_al0 (pc2 := 11) dX8_taken_10 rfl ?_
    refine g_il1 (pc2 := 12) dX8_taken_11 rfl ?_
    refine g_cVi (pc2 := 15) (R_m_takenIn l d _ hw _) meX8_takenIn mlX8_196 (by rfl) ⟨_, rfl, rfl⟩ rfl rfl (by simp) ⟨Nat.le_refl _, Nat.le_refl _⟩ dX8_taken_12 rfl ?_
    refine g_goto 19 dX8_taken_15 rfl ?_
    exact g_iretT dX8_taken_19 rfl (Nat.le_refl _) (Nat.le_refl _) (by simp [F_taken, h7]) (rfl)
theorem and_1 (x : Int32) : x &&& nI 1 = nI (if x &&& nI 1 = nI 1 then 1 else 0) := by
  obtain ⟨j, hj, e⟩ := pk_andE x (m := nI 1) 1 (by decide)
  rw [e]
  rcases (show j = 0 ∨ j = 1 by omega) with rfl | rfl
  · rw [if_neg (by decide)]
  · rw [if_pos rfl]
theorem R_m_use (l : lt_L) (d : Nat) (σ : lt_S) {ln T N : Nat} (hw : Wf (σ 77) ln T N) (a x : Int32) : lt_T l (d + 4) mX8_use lt_SA σ [.ref 76, .int a, .int x] (some (F_use (σ 77) a x)) σ := by
  refine lt_T.of [some (.ref 76), some (.int a), some (.int x), none, none] rfl rfl (Nat.le_of_ble_eq_true rfl) ?_
  have hT := hw.2.1
  generalize hr : some (F_use (σ 77) a x) = r
  have fin : hasB a (nI 2) = true → hasB x (if a = 0 then σ 77 1 else nI 12) = true → lt_g l (d + 4) mX8_use lt_SA σ 36 [some (.ref 76), some (.int a), some (.int x), none, none] [] r σ := by
    intro ha hx
    have hr2 : some (nI (pf_use (σ 77) a x)) = r := by rw [← hr]; unfold F_use; rw [ha, hx]; rfl
    clear hr
    subst hr2
    have key : ∀ k, k ≤ 100 → lt_g l (d + 4) mX8_use lt_SA σ 41 [some (.ref 76), some (.int a), some (.int x), some (.int (nI (sumF (pf_useB (σ 77) a x) k))), some (.int (nI k))] [] (some (nI (pf_use (σ 77) a x))) σ := by
      refine lt_dn 100 ?_ ?_
      · refine g_il4 (pc2 := 43) dX8_use_41 rfl ?_
        refine g_bipush (pc2 := 45) dX8_use_43 k_bipush_100 rfl ?_
        refine g_icmpN_ge 89 48 dX8_use_45 rfl rfl (by omega) (by omega) (fun h45 => ?_) (fun h45 => ?_)
        · refine g_il3 (pc2 := 90) dX8_use_89 rfl ?_
          exact g_iretT dX8_use_90 rfl (Nat.le_refl _) (Nat.le_refl _) (rfl) (rfl)
        · omega
      · intro k hk ih
        refine g_il4 (pc2 := 43) dX8_use_41 rfl ?_
        refine g_bipush (pc2 := 45) dX8_use_43 k_bipush_100 rfl ?_
        refine g_icmpN_ge 89 48 dX8_use_45 rfl rfl (by omega) (by omega) (fun h45 => ?_) (fun h45 => ?_)
        · omega
        · refine g_il3 (pc2 := 49) dX8_use_48 rfl ?_
          refine g_il1 (pc2 := 50) dX8_use_49 rfl ?_
          refine g_if_ne 71 53 dX8_use_50 rfl rfl (fun h50 => ?_) (fun h50 => ?_)
          · refine g_al0 (pc2 := 72) dX8_use_71 rfl ?_
            refine g_il4 (pc2 := 74) dX8_use_72 rfl ?_
            refine g_cVi (pc2 := 77) (R_m_takenIn l d _ hw _) meX8_takenIn mlX8_196 (by rfl) ⟨_, rfl, rfl⟩ rfl rfl (by simp) ⟨Nat.le_refl _, Nat.le_refl _⟩ dX8_use_74 rfl ?_
            refine g_il2 (pc2 := 78) dX8_use_77 rfl ?_
            refine g_ishr (pc2 := 79) dX8_use_78 rfl ?_
            refine g_iconst (pc2 := 80) dX8_use_79 k_iconst_1 rfl ?_
            refine g_iand (pc2 := 81) dX8_use_80 rfl ?_
            rw [and_1]
            refine g_iaddN (pc2 := 82) dX8_use_81 rfl ?_
            refine g_is3 (pc2 := 83) dX8_use_82 (by decide) rfl ?_
            refine g_in4 (pc2 := 86) dX8_use_83 (nI_inc _) (by decide) rfl ?_
            refine g_goto 41 dX8_use_86 rfl ?_
            have e9 : (if pf_useB (σ 77) a x k = true then 1 else 0) = (if pf_taken (σ 77) (nI k) >>> (x &&& 31) &&& nI 1 = nI 1 then 1 else 0) := by unfold pf_useB; rw [if_neg h50]; simp
            simp only [sumF] at ih
            rw [e9] at ih
            exact ih
          · refine g_al0 (pc2 := 54) dX8_use_53 rfl ?_
            refine g_il2 (pc2 := 55) dX8_use_54 rfl ?_
            refine g_il4 (pc2 := 57) dX8_use_55 rfl ?_
            refine g_cVi (pc2 := 60) (R_m_onTrack l (d + 1) _ hw _ _) meX8_onTrack mlX8_193 (by rfl) ⟨_, rfl, rfl⟩ rfl rfl (by simp) ⟨Nat.le_refl _, Nat.le_refl _⟩ dX8_use_57 rfl ?_
            refine g_if_eq 67 63 dX8_use_60 rfl rfl (fun h60 => ?_) (fun h60 => ?_)
            · refine g_iconst (pc2 := 68) dX8_use_67 k_iconst_0 rfl ?_
              refine g_goto 81 dX8_use_68 rfl ?_
              skip
              refine g_iaddN (pc2 := 82) dX8_use_81 rfl ?_
              refine g_is3 (pc2 := 83) dX8_use_82 (by decide) rfl ?_
              refine g_in4 (pc2 := 86) dX8_use_83 (nI_inc _) (by decide) rfl ?_
              refine g_goto 41 dX8_use_86 rfl ?_
              simp only [sumF] at ih
              first | (rw [show pf_useB (σ 77) a x k = false from by unfold pf_useB; rw [if_pos h50]; simp [h60]] at ih; exact ih) | (rw [show pf_useB (σ 77) a x k = true from by unfold pf_useB; rw [if_pos h50]; simp [h60]] at ih; exact ih)
            · refine g_iconst (pc2 := 64) dX8_use_63 k_iconst_1 rfl ?_
              refine g_goto 81 dX8_use_64 rfl ?_
              skip
              refine g_iaddN (pc2 := 82) dX8_use_81 rfl ?_
              refine g_is3 (pc2 := 83) dX8_use_82 (by decide) rfl ?_
              refine g_in4 (pc2 := 86) dX8_use_83 (nI_inc _) (by decide) rfl ?_
              refine g_goto 41 dX8_use_86 rfl ?_
              simp only [sumF] at ih
              first | (rw [show pf_useB (σ 77) a x k = false from by unfold pf_useB; rw [if_pos h50]; simp [h60]] at ih; exact ih) | (rw [show pf_useB (σ 77) a x k = true from by unfold pf_useB; rw [if_pos h50]; simp [h60]] at ih; exact ih)
    refine g_iconst (pc2 := 37) dX8_use_36 k_iconst_0 rfl ?_
    refine g_is3 (pc2 := 38) dX8_use_37 (by decide) rfl ?_
    refine g_iconst (pc2 := 39) dX8_use_38 k_iconst_0 rfl ?_
    refine g_is4 (pc2 := 41) dX8_use_39 (by decide) rfl ?_
    exact key 0 (Nat.zero_le _)
  refine g_il1 (pc2 := 1) dX8_use_0 rfl ?_
  refine g_iconst (pc2 := 2) dX8_use_1 k_iconst_0 rfl ?_
  refine g_iconst (pc2 := 3) dX8_use_2 k_iconst_1 rfl ?_
  refine g_cSi (pc2 := 6) (R_m_in l (d + 2) _ _ _ _ _) meX8_in mlX8_58 rfl rfl (by simp) ⟨Nat.le_refl _, Nat.le_refl _⟩ dX8_use_3 rfl ?_
  rw [inB_2]
  refine g_if_eqB 34 9 dX8_use_6 rfl rfl (fun h6 => ?_) (fun h6 => ?_)
  · subst hr
    refine g_iconst (pc2 := 35) dX8_use_34 k_iconst_m1 rfl ?_
    exact g_iretT dX8_use_35 rfl (Nat.le_refl _) (Nat.le_refl _) (by simp [F_use, h6]) (rfl)
  · refine g_il2 (pc2 := 10) dX8_use_9 rfl ?_
    refine g_iconst (pc2 := 11) dX8_use_10 k_iconst_0 rfl ?_
    refine g_il1 (pc2 := 12) dX8_use_11 rfl ?_
    refine g_if_ne 26 15 dX8_use_12 rfl rfl (fun h12 => ?_) (fun h12 => ?_)
    · refine g_bipush (pc2 := 28) dX8_use_26 k_bipush_11 rfl ?_
      refine g_cSi (pc2 := 31) (R_m_in l (d + 2) _ _ _ _ _) meX8_in mlX8_58 rfl rfl (by simp) ⟨Nat.le_refl _, Nat.le_refl _⟩ dX8_use_28 rfl ?_
      have e9 : ∀ q, q = hasB x (if a = 0 then σ 77 1 else nI 12) → lt_g l (d + 4) mX8_use lt_SA σ 31 [some (.ref 76), some (.int a), some (.int x), none, none] [.int (bI q)] r σ := by
        intro q hq
        refine g_if_neB 36 34 dX8_use_31 rfl rfl (fun h31 => ?_) (fun h31 => ?_)
        · exact fin h6 (by rw [← hq]; exact h31)
        · subst hr
          refine g_iconst (pc2 := 35) dX8_use_34 k_iconst_m1 rfl ?_
          exact g_iretT dX8_use_35 rfl (Nat.le_refl _) (Nat.le_refl _) (by unfold F_use; rw [← hq, h31, h6]; rfl) rfl
      exact e9 _ (by first | (rw [if_pos h12, hT.1, inB_has (by omega)]; done) | (rw [if_neg h12, inB_12]; done))
    · refine g_al0 (pc2 := 16) dX8_use_15 rfl ?_
      refine g_getr (pc2 := 19) (by rfl) (by rfl) flX8_7 dX8_use_16 rfl ?_
      refine g_iconst (pc2 := 20) dX8_use_19 k_iconst_1 rfl ?_
      refine g_iald (pc2 := 21) (by rfl) (by omega) (by decide) dX8_use_20 rfl ?_
      refine g_iconst (pc2 := 22) dX8_use_21 k_iconst_1 rfl ?_
      refine g_isub (pc2 := 23) dX8_use_22 rfl ?_
      refine g_goto 28 dX8_use_23 rfl ?_
      refine g_cSi (pc2 := 31) (R_m_in l (d + 2) _ _ _ _ _) meX8_in mlX8_58 rfl rfl (by simp) ⟨Nat.le_refl _, Nat.le_refl _⟩ dX8_use_28 rfl ?_
      have e9 : ∀ q, q = hasB x (if a = 0 then σ 77 1 else nI 12) → lt_g l (d + 4) mX8_use lt_SA σ 31 [some (.ref 76), some (.int a), some (.int x), none, none] [.int (bI q)] r σ := by
        intro q hq
        refine g_if_neB 36 34 dX8_use_31 rfl rfl (fun h31 => ?_) (fun h31 => ?_)
        · exact fin h6 (by rw [← hq]; exact h31)
        · subst hr
          refine g_iconst (pc2 := 35) dX8_use_34 k_iconst_m1 rfl ?_
          exact g_iretT dX8_use_35 rfl (Nat.le_refl _) (Nat.le_refl _) (by unfold F_use; rw [← hq, h31, h6]; rfl) rfl
      exact e9 _ (by first | (rw [if_pos h12, hT.1, inB_has (by omega)]; done) | (rw [if_neg h12, inB_12]; done))
theorem hasB_out {x : Int32} {n : Nat} (hn : n < 2 ^ 31) (h : hasB x (nI n) = false) : x.toInt < 0 ∨ (n : Int) - 1 < x.toInt := by
  unfold hasB at h
  by_cases hx : x < 0
  · left
    have := Int32.lt_iff_toInt_lt.mp hx
    simpa using this
  · right
    have h2 : nI n ≤ x := by simpa [hx] using h
    have := Int32.le_iff_toInt_le.mp h2
    rw [nI_toInt hn] at this
    omega
def F_count (w : Nat → Int32) (ch le x : Int32) : Int32 := if hasB x (nI 8) then (match tN x with
  | 0 => w 0
  | 1 => w 1
  | 2 => w 2
  | 3 => w 3
  | 4 => nI (pf_placed w)
  | 5 => nI (pf_wished w)
  | 6 => ch
  | _ => le) else -1
theorem R_m_count (l : lt_L) (d : Nat) (σ : lt_S) {ln T N : Nat} (hw : Wf (σ 77) ln T N) (x : Int32) : lt_T l (d + 3) mX8_count lt_SA σ [.ref 76, .int x] (some (F_count (σ 77) (σ 76 3) (σ 76 5) x)) σ := by
  refine lt_T.of [some (.ref 76), some (.int x)] rfl rfl (Nat.le_of_ble_eq_true rfl) ?_
  cases h : hasB x (nI 8) with
  | false =>
    have ho := hasB_out (by decide) h
    refine g_il1 (pc2 := 1) dX8_count_0 rfl ?_
    refine g_tableOut 96 dX8_count_1 (by omega) rfl ?_
    refine g_iconst (pc2 := 97) dX8_count_96 k_iconst_m1 rfl ?_
    exact g_iretT dX8_count_97 rfl (Nat.le_refl _) (Nat.le_refl _) (by simp [F_count, h]) (rfl)
  | true =>
    obtain ⟨k, hk, rfl⟩ := hasB_ix (by decide) h
    unfold F_count
    rw [h, if_pos rfl, tN_nI (by omega)]
    clear h
    rcases (show k = 0 ∨ k = 1 ∨ k = 2 ∨ k = 3 ∨ k = 4 ∨ k = 5 ∨ k = 6 ∨ k = 7 by omega) with rfl | rfl | rfl | rfl | rfl | rfl | rfl | rfl
    · refine g_il1 (pc2 := 1) dX8_count_0 rfl ?_
      refine g_tableIn 48 dX8_count_1 (by decide) (by decide) (off := 47) (by decide) rfl ?_
      refine g_al0 (pc2 := 49) dX8_count_48 rfl ?_
      refine g_getr (pc2 := 52) (by rfl) (by rfl) flX8_7 dX8_count_49 rfl ?_
      refine g_iconst (pc2 := 53) dX8_count_52 k_iconst_0 rfl ?_
      refine g_iald (pc2 := 54) (by rfl) (by omega) (by decide) dX8_count_53 rfl ?_
      exact g_iretT dX8_count_54 rfl (Nat.le_refl _) (Nat.le_refl _) (rfl) (rfl)
    · refine g_il1 (pc2 := 1) dX8_count_0 rfl ?_
      refine g_tableIn 55 dX8_count_1 (by decide) (by decide) (off := 54) (by decide) rfl ?_
      refine g_al0 (pc2 := 56) dX8_count_55 rfl ?_
      refine g_getr (pc2 := 59) (by rfl) (by rfl) flX8_7 dX8_count_56 rfl ?_
      refine g_iconst (pc2 := 60) dX8_count_59 k_iconst_1 rfl ?_
      refine g_iald (pc2 := 61) (by rfl) (by omega) (by decide) dX8_count_60 rfl ?_
      exact g_iretT dX8_count_61 rfl (Nat.le_refl _) (Nat.le_refl _) (rfl) (rfl)
    · refine g_il1 (pc2 := 1) dX8_count_0 rfl ?_
      refine g_tableIn 62 dX8_count_1 (by decide) (by decide) (off := 61) (by decide) rfl ?_
      refine g_al0 (pc2 := 63) dX8_count_62 rfl ?_
      refine g_getr (pc2 := 66) (by rfl) (by rfl) flX8_7 dX8_count_63 rfl ?_
      refine g_iconst (pc2 := 67) dX8_count_66 k_iconst_2 rfl ?_
      refine g_iald (pc2 := 68) (by rfl) (by omega) (by decide) dX8_count_67 rfl ?_
      exact g_iretT dX8_count_68 rfl (Nat.le_refl _) (Nat.le_refl _) (rfl) (rfl)
    · refine g_il1 (pc2 := 1) dX8_count_0 rfl ?_
      refine g_tableIn 69 dX8_count_1 (by decide) (by decide) (off := 68) (by decide) rfl ?_
      refine g_al0 (pc2 := 70) dX8_count_69 rfl ?_
      refine g_getr (pc2 := 73) (by rfl) (by rfl) flX8_7 dX8_count_70 rfl ?_
      refine g_iconst (pc2 := 74) dX8_count_73 k_iconst_3 rfl ?_
      refine g_iald (pc2 := 75) (by rfl) (by omega) (by decide) dX8_count_74 rfl ?_
      exact g_iretT dX8_count_75 rfl (Nat.le_refl _) (Nat.le_refl _) (rfl) (rfl)
    · refine g_il1 (pc2 := 1) dX8_count_0 rfl ?_
      refine g_tableIn 76 dX8_count_1 (by decide) (by decide) (off := 75) (by decide) rfl ?_
      refine g_al0 (pc2 := 77) dX8_count_76 rfl ?_
      refine g_cVi (pc2 := 80) (R_m_placed l d _ hw) meX8_placed mlX8_152 (by rfl) ⟨_, rfl, rfl⟩ rfl rfl (by simp) ⟨Nat.le_refl _, Nat.le_refl _⟩ dX8_count_77 rfl ?_
      exact g_iretT dX8_count_80 rfl (Nat.le_refl _) (Nat.le_refl _) (rfl) (rfl)
    · refine g_il1 (pc2 := 1) dX8_count_0 rfl ?_
      refine g_tableIn 81 dX8_count_1 (by decide) (by decide) (off := 80) (by decide) rfl ?_
      refine g_al0 (pc2 := 82) dX8_count_81 rfl ?_
      refine g_cVi (pc2 := 85) (R_m_asWished l d _ hw) meX8_asWished mlX8_199 (by rfl) ⟨_, rfl, rfl⟩ rfl rfl (by simp) ⟨Nat.le_refl _, Nat.le_refl _⟩ dX8_count_82 rfl ?_
      exact g_iretT dX8_count_85 rfl (Nat.le_refl _) (Nat.le_refl _) (rfl) (rfl)
    · refine g_il1 (pc2 := 1) dX8_count_0 rfl ?_
      refine g_tableIn 86 dX8_count_1 (by decide) (by decide) (off := 85) (by decide) rfl ?_
      refine g_al0 (pc2 := 87) dX8_count_86 rfl ?_
      refine g_geti (pc2 := 90) (by rfl) (by rfl) flX8_48 dX8_count_87 rfl ?_
      exact g_iretT dX8_count_90 rfl (Nat.le_refl _) (Nat.le_refl _) (rfl) (rfl)
    · refine g_il1 (pc2 := 1) dX8_count_0 rfl ?_
      refine g_tableIn 91 dX8_count_1 (by decide) (by decide) (off := 90) (by decide) rfl ?_
      refine g_al0 (pc2 := 92) dX8_count_91 rfl ?_
      refine g_geti (pc2 := 95) (by rfl) (by rfl) flX8_55 dX8_count_92 rfl ?_
      exact g_iretT dX8_count_95 rfl (Nat.le_refl _) (Nat.le_refl _) (rfl) (rfl)
