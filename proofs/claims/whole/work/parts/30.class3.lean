/-! the class: counts, minutes -/
theorem wishEq {x v : Int32} (hx : x = -4 ∨ ∃ t, t < 5 ∧ x = nI t) (hv : v = -4 ∨ ∃ t, t < 5 ∧ v = nI t) : decide (x = if v = -4 then nI 9 else v) = (!decide (x = -4) && decide (x = v)) := by
  rcases hv with rfl | ⟨u, hu, rfl⟩
  · rw [if_pos rfl]
    rcases hx with rfl | ⟨s, hs, rfl⟩
    · rw [decide_eq_false (m4_ne' (by decide))]; simp
    · rw [decide_eq_false (fun e => absurd ((nI_eq (by omega) (by decide)).mp e) (by omega)), decide_eq_false (m4_ne (show s < 2 ^ 31 by omega))]; rfl
  · rw [if_neg (m4_ne (by omega))]
    rcases hx with rfl | ⟨s, hs, rfl⟩
    · rw [decide_eq_false (m4_ne' (show u < 2 ^ 31 by omega))]; simp
    · rw [decide_eq_false (m4_ne (show s < 2 ^ 31 by omega))]; simp
theorem R_c_placedTrains (l : lt_L) (d : Nat) (t : lt_H) (σ : lt_S) {w : Nat → Int32} {ln T N : Nat} (hw : Wf w ln T N) (e2 : σ 13 2 = w 2) (hp : ∀ i, i < N → σ 22 i = w (16 + 7 * i + 6)) : lt_T l (d + 1) mX7_placedTrains (lt_SC ++ t) σ [.ref 10] (some (nI (pf_placed w))) σ := by
  refine lt_T.of [some (.ref 10), none, none] rfl rfl (Nat.le_of_ble_eq_true rfl) ?_
  have hN := hw.2.2.1
  have e2' : σ 13 2 = nI N := e2.trans hN.1
  unfold pf_placed
  rw [hw.tr.2.1]
  have key : ∀ k, k ≤ N → lt_g l (d + 1) mX7_placedTrains (lt_SC ++ t) σ 4 [some (.ref 10), some (.int (nI (sumF (fun i => !decide (w (16 + 7 * i + 6) = -4)) k))), some (.int (nI k))] [] (some (nI (sumF (fun i => !decide (w (16 + 7 * i + 6) = -4)) N))) σ := by
    refine lt_dn N ?_ ?_
    · refine g_il2 (pc2 := 5) dX7_placedTrains_4 rfl ?_
      refine g_al0 (pc2 := 6) dX7_placedTrains_5 rfl ?_
      refine g_getr (pc2 := 9) (by rfl) (by rfl) flX7_19 dX7_placedTrains_6 rfl ?_
      refine g_geti (pc2 := 12) (by rfl) (by rfl) flX7_109 dX7_placedTrains_9 rfl ?_
      rw [e2']
      refine g_icmpN_ge 38 15 dX7_placedTrains_12 rfl rfl (by omega) (by omega) (fun h12 => ?_) (fun h12 => ?_)
      · refine g_il1 (pc2 := 39) dX7_placedTrains_38 rfl ?_
        exact g_iretT dX7_placedTrains_39 rfl (Nat.le_refl _) (Nat.le_refl _) (rfl) (rfl)
      · omega
    · intro k hk ih
      have e22 := hp k hk
      refine g_il2 (pc2 := 5) dX7_placedTrains_4 rfl ?_
      refine g_al0 (pc2 := 6) dX7_placedTrains_5 rfl ?_
      refine g_getr (pc2 := 9) (by rfl) (by rfl) flX7_19 dX7_placedTrains_6 rfl ?_
      refine g_geti (pc2 := 12) (by rfl) (by rfl) flX7_109 dX7_placedTrains_9 rfl ?_
      rw [e2']
      refine g_icmpN_ge 38 15 dX7_placedTrains_12 rfl rfl (by omega) (by omega) (fun h12 => ?_) (fun h12 => ?_)
      · omega
      · refine g_al0 (pc2 := 16) dX7_placedTrains_15 rfl ?_
        refine g_getr (pc2 := 19) (by rfl) (by rfl) flX7_26 dX7_placedTrains_16 rfl ?_
        refine g_getr (pc2 := 22) (by rfl) (by rfl) flX7_144 dX7_placedTrains_19 rfl ?_
        refine g_il2 (pc2 := 23) dX7_placedTrains_22 rfl ?_
        refine g_iald (pc2 := 24) (by rfl) (by omega) (by decide) dX7_placedTrains_23 rfl ?_
        rw [e22]
        refine g_bipush (pc2 := 26) dX7_placedTrains_24 k_bipush_m4 rfl ?_
        refine g_icmp_eq 32 29 dX7_placedTrains_26 rfl rfl (fun h26 => ?_) (fun h26 => ?_)
        · refine g_in2 (pc2 := 35) dX7_placedTrains_32 (nI_inc _) (by decide) rfl ?_
          refine g_goto 4 dX7_placedTrains_35 rfl ?_
          simp only [sumF, h26] at ih; exact ih
        · refine g_in1 (pc2 := 32) dX7_placedTrains_29 (nI_inc _) (by decide) rfl ?_
          refine g_in2 (pc2 := 35) dX7_placedTrains_32 (nI_inc _) (by decide) rfl ?_
          refine g_goto 4 dX7_placedTrains_35 rfl ?_
          simp only [sumF, h26] at ih; exact ih
  refine g_iconst (pc2 := 1) dX7_placedTrains_0 k_iconst_0 rfl ?_
  refine g_is1 (pc2 := 2) dX7_placedTrains_1 (by decide) rfl ?_
  refine g_iconst (pc2 := 3) dX7_placedTrains_2 k_iconst_0 rfl ?_
  refine g_is2 (pc2 := 4) dX7_placedTrains_3 (by decide) rfl ?_
  exact key 0 (Nat.zero_le _)
theorem R_c_wishesMet22 (l : lt_L) (d : Nat) (t : lt_H) (σ : lt_S) {w : Nat → Int32} {ln T N : Nat} (hc : CC σ w ln T N) (x : Nat → Int32) (hx : ∀ i, i < N → σ 22 i = x i ∧ (x i = -4 ∨ ∃ t, t < 5 ∧ x i = nI t)) : lt_T l (d + 1) mX7_wishesMet (lt_SC ++ t) σ [.ref 10, .ref 22] (some (nI (sumF (fun i => !decide (x i = -4) && decide (x i = w (16 + 7 * i + 4))) N))) σ := by
  refine lt_T.of [some (.ref 10), some (.ref 22), none, none] rfl rfl (Nat.le_of_ble_eq_true rfl) ?_
  have hw := hc.1
  have hN := hw.2.2.1
  have hT := hw.2.1
  have e2' : σ 13 2 = nI N := hc.2.1.1.2.2.1.trans hN.1
  have key : ∀ k, k ≤ N → lt_g l (d + 1) mX7_wishesMet (lt_SC ++ t) σ 4 [some (.ref 10), some (.ref 22), some (.int (nI (sumF (fun i => !decide (x i = -4) && decide (x i = w (16 + 7 * i + 4))) k))), some (.int (nI k))] [] (some (nI (sumF (fun i => !decide (x i = -4) && decide (x i = w (16 + 7 * i + 4))) N))) σ := by
    refine lt_dn N ?_ ?_
    · refine g_il3 (pc2 := 5) dX7_wishesMet_4 rfl ?_
      refine g_al0 (pc2 := 6) dX7_wishesMet_5 rfl ?_
      refine g_getr (pc2 := 9) (by rfl) (by rfl) flX7_19 dX7_wishesMet_6 rfl ?_
      refine g_geti (pc2 := 12) (by rfl) (by rfl) flX7_109 dX7_wishesMet_9 rfl ?_
      rw [e2']
      refine g_icmpN_ge 39 15 dX7_wishesMet_12 rfl rfl (by omega) (by omega) (fun h12 => ?_) (fun h12 => ?_)
      · refine g_il2 (pc2 := 40) dX7_wishesMet_39 rfl ?_
        exact g_iretT dX7_wishesMet_40 rfl (Nat.le_refl _) (Nat.le_refl _) (rfl) (rfl)
      · omega
    · intro k hk ih
      have e22 := (hx k hk).1
      have e21 : σ 21 k = if w (16 + 7 * k + 4) = -4 then nI 9 else w (16 + 7 * k + 4) := (hc.2.2.1 k hk).2.2.1
      have hwe := wishEq (hx k hk).2 (v := w (16 + 7 * k + 4)) (by rcases (hw.2.2.2.2 k hk).2.2.2.1 with e | ⟨u, hu, e⟩; exact Or.inl e; exact Or.inr ⟨u, by omega, e⟩)
      simp only [sumF] at ih
      refine g_il3 (pc2 := 5) dX7_wishesMet_4 rfl ?_
      refine g_al0 (pc2 := 6) dX7_wishesMet_5 rfl ?_
      refine g_getr (pc2 := 9) (by rfl) (by rfl) flX7_19 dX7_wishesMet_6 rfl ?_
      refine g_geti (pc2 := 12) (by rfl) (by rfl) flX7_109 dX7_wishesMet_9 rfl ?_
      rw [e2']
      refine g_icmpN_ge 39 15 dX7_wishesMet_12 rfl rfl (by omega) (by omega) (fun h12 => ?_) (fun h12 => ?_)
      · omega
      · refine g_al1 (pc2 := 16) dX7_wishesMet_15 rfl ?_
        refine g_il3 (pc2 := 17) dX7_wishesMet_16 rfl ?_
        refine g_iald (pc2 := 18) (by rfl) (by omega) (by decide) dX7_wishesMet_17 rfl ?_
        rw [e22]
        refine g_al0 (pc2 := 19) dX7_wishesMet_18 rfl ?_
        refine g_getr (pc2 := 22) (by rfl) (by rfl) flX7_26 dX7_wishesMet_19 rfl ?_
        refine g_getr (pc2 := 25) (by rfl) (by rfl) flX7_138 dX7_wishesMet_22 rfl ?_
        refine g_il3 (pc2 := 26) dX7_wishesMet_25 rfl ?_
        refine g_iald (pc2 := 27) (by rfl) (by omega) (by decide) dX7_wishesMet_26 rfl ?_
        rw [e21]
        refine g_icmp_ne 33 30 dX7_wishesMet_27 rfl rfl (fun h27 => ?_) (fun h27 => ?_)
        · refine g_in3 (pc2 := 36) dX7_wishesMet_33 (nI_inc _) (by decide) rfl ?_
          refine g_goto 4 dX7_wishesMet_36 rfl ?_
          first | (rw [if_pos (by rw [← hwe]; exact decide_eq_true h27)] at ih; exact ih) | (rw [if_neg (by rw [← hwe, decide_eq_false h27]; decide)] at ih; exact ih)
        · refine g_in2 (pc2 := 33) dX7_wishesMet_30 (nI_inc _) (by decide) rfl ?_
          refine g_in3 (pc2 := 36) dX7_wishesMet_33 (nI_inc _) (by decide) rfl ?_
          refine g_goto 4 dX7_wishesMet_36 rfl ?_
          first | (rw [if_pos (by rw [← hwe]; exact decide_eq_true h27)] at ih; exact ih) | (rw [if_neg (by rw [← hwe, decide_eq_false h27]; decide)] at ih; exact ih)
  refine g_iconst (pc2 := 1) dX7_wishesMet_0 k_iconst_0 rfl ?_
  refine g_is2 (pc2 := 2) dX7_wishesMet_1 (by decide) rfl ?_
  refine g_iconst (pc2 := 3) dX7_wishesMet_2 k_iconst_0 rfl ?_
  refine g_is3 (pc2 := 4) dX7_wishesMet_3 (by decide) rfl ?_
  exact key 0 (Nat.zero_le _)
theorem R_c_wishesMet43 (l : lt_L) (d : Nat) (t : lt_H) (σ : lt_S) {w : Nat → Int32} {ln T N : Nat} (hc : CC σ w ln T N) (x : Nat → Int32) (hx : ∀ i, i < N → σ 43 i = x i ∧ (x i = -4 ∨ ∃ t, t < 5 ∧ x i = nI t)) : lt_T l (d + 1) mX7_wishesMet (lt_SC ++ t) σ [.ref 10, .ref 43] (some (nI (sumF (fun i => !decide (x i = -4) && decide (x i = w (16 + 7 * i + 4))) N))) σ := by
  refine lt_T.of [some (.ref 10), some (.ref 43), none, none] rfl rfl (Nat.le_of_ble_eq_true rfl) ?_
  have hw := hc.1
  have hN := hw.2.2.1
  have hT := hw.2.1
  have e2' : σ 13 2 = nI N := hc.2.1.1.2.2.1.trans hN.1
  have key : ∀ k, k ≤ N → lt_g l (d + 1) mX7_wishesMet (lt_SC ++ t) σ 4 [some (.ref 10), some (.ref 43), some (.int (nI (sumF (fun i => !decide (x i = -4) && decide (x i = w (16 + 7 * i + 4))) k))), some (.int (nI k))] [] (some (nI (sumF (fun i => !decide (x i = -4) && decide (x i = w (16 + 7 * i + 4))) N))) σ := by
    refine lt_dn N ?_ ?_
    · refine g_il3 (pc2 := 5) dX7_wishesMet_4 rfl ?_
      refine g_al0 (pc2 := 6) dX7_wishesMet_5 rfl ?_
      refine g_getr (pc2 := 9) (by rfl) (by rfl) flX7_19 dX7_wishesMet_6 rfl ?_
      refine g_geti (pc2 := 12) (by rfl) (by rfl) flX7_109 dX7_wishesMet_9 rfl ?_
      rw [e2']
      refine g_icmpN_ge 39 15 dX7_wishesMet_12 rfl rfl (by omega) (by omega) (fun h12 => ?_) (fun h12 => ?_)
      · refine g_il2 (pc2 := 40) dX7_wishesMet_39 rfl ?_
        exact g_iretT dX7_wishesMet_40 rfl (Nat.le_refl _) (Nat.le_refl _) (rfl) (rfl)
      · omega
    · intro k hk ih
      have e22 := (hx k hk).1
      have e21 : σ 21 k = if w (16 + 7 * k + 4) = -4 then nI 9 else w (16 + 7 * k + 4) := (hc.2.2.1 k hk).2.2.1
      have hwe := wishEq (hx k hk).2 (v := w (16 + 7 * k + 4)) (by rcases (hw.2.2.2.2 k hk).2.2.2.1 with e | ⟨u, hu, e⟩; exact Or.inl e; exact Or.inr ⟨u, by omega, e⟩)
      simp only [sumF] at ih
      refine g_il3 (pc2 := 5) dX7_wishesMet_4 rfl ?_
      refine g_al0 (pc2 := 6) dX7_wishesMet_5 rfl ?_
      refine g_getr (pc2 := 9) (by rfl) (by rfl) flX7_19 dX7_wishesMet_6 rfl ?_
      refine g_geti (pc2 := 12) (by rfl) (by rfl) flX7_109 dX7_wishesMet_9 rfl ?_
      rw [e2']
      refine g_icmpN_ge 39 15 dX7_wishesMet_12 rfl rfl (by omega) (by omega) (fun h12 => ?_) (fun h12 => ?_)
      · omega
      · refine g_al1 (pc2 := 16) dX7_wishesMet_15 rfl ?_
        refine g_il3 (pc2 := 17) dX7_wishesMet_16 rfl ?_
        refine g_iald (pc2 := 18) (by rfl) (by omega) (by decide) dX7_wishesMet_17 rfl ?_
        rw [e22]
        refine g_al0 (pc2 := 19) dX7_wishesMet_18 rfl ?_
        refine g_getr (pc2 := 22) (by rfl) (by rfl) flX7_26 dX7_wishesMet_19 rfl ?_
        refine g_getr (pc2 := 25) (by rfl) (by rfl) flX7_138 dX7_wishesMet_22 rfl ?_
        refine g_il3 (pc2 := 26) dX7_wishesMet_25 rfl ?_
        refine g_iald (pc2 := 27) (by rfl) (by omega) (by decide) dX7_wishesMet_26 rfl ?_
        rw [e21]
        refine g_icmp_ne 33 30 dX7_wishesMet_27 rfl rfl (fun h27 => ?_) (fun h27 => ?_)
        · refine g_in3 (pc2 := 36) dX7_wishesMet_33 (nI_inc _) (by decide) rfl ?_
          refine g_goto 4 dX7_wishesMet_36 rfl ?_
          first | (rw [if_pos (by rw [← hwe]; exact decide_eq_true h27)] at ih; exact ih) | (rw [if_neg (by rw [← hwe, decide_eq_false h27]; decide)] at ih; exact ih)
        · refine g_in2 (pc2 := 33) dX7_wishesMet_30 (nI_inc _) (by decide) rfl ?_
          refine g_in3 (pc2 := 36) dX7_wishesMet_33 (nI_inc _) (by decide) rfl ?_
          refine g_goto 4 dX7_wishesMet_36 rfl ?_
          first | (rw [if_pos (by rw [← hwe]; exact decide_eq_true h27)] at ih; exact ih) | (rw [if_neg (by rw [← hwe, decide_eq_false h27]; decide)] at ih; exact ih)
  refine g_iconst (pc2 := 1) dX7_wishesMet_0 k_iconst_0 rfl ?_
  refine g_is2 (pc2 := 2) dX7_wishesMet_1 (by decide) rfl ?_
  refine g_iconst (pc2 := 3) dX7_wishesMet_2 k_iconst_0 rfl ?_
  refine g_is3 (pc2 := 4) dX7_wishesMet_3 (by decide) rfl ?_
  exact key 0 (Nat.zero_le _)
theorem R_c_movedBy (l : lt_L) (d : Nat) (t : lt_H) (σ : lt_S) {w : Nat → Int32} {ln T N : Nat} (hc : CC σ w ln T N) (x : Nat → Int32) (hx : ∀ i, i < N → σ 43 i = x i) : lt_T l (d + 1) mX7_movedBy (lt_SC ++ t) σ [.ref 10, .ref 43] (some (nI (sumF (fun i => !decide (x i = w (16 + 7 * i + 6))) N))) σ := by
  refine lt_T.of [some (.ref 10), some (.ref 43), none, none] rfl rfl (Nat.le_of_ble_eq_true rfl) ?_
  have hw := hc.1
  have hN := hw.2.2.1
  have e2' : σ 13 2 = nI N := hc.2.1.1.2.2.1.trans hN.1
  have key : ∀ k, k ≤ N → lt_g l (d + 1) mX7_movedBy (lt_SC ++ t) σ 4 [some (.ref 10), some (.ref 43), some (.int (nI (sumF (fun i => !decide (x i = w (16 + 7 * i + 6))) k))), some (.int (nI k))] [] (some (nI (sumF (fun i => !decide (x i = w (16 + 7 * i + 6))) N))) σ := by
    refine lt_dn N ?_ ?_
    · refine g_il3 (pc2 := 5) dX7_movedBy_4 rfl ?_
      refine g_al0 (pc2 := 6) dX7_movedBy_5 rfl ?_
      refine g_getr (pc2 := 9) (by rfl) (by rfl) flX7_19 dX7_movedBy_6 rfl ?_
      refine g_geti (pc2 := 12) (by rfl) (by rfl) flX7_109 dX7_movedBy_9 rfl ?_
      rw [e2']
      refine g_icmpN_ge 39 15 dX7_movedBy_12 rfl rfl (by omega) (by omega) (fun h12 => ?_) (fun h12 => ?_)
      · refine g_il2 (pc2 := 40) dX7_movedBy_39 rfl ?_
        exact g_iretT dX7_movedBy_40 rfl (Nat.le_refl _) (Nat.le_refl _) (rfl) (rfl)
      · omega
    · intro k hk ih
      have e43 := hx k hk
      have e22 : σ 22 k = w (16 + 7 * k + 6) := (hc.2.2.1 k hk).2.2.2
      simp only [sumF] at ih
      refine g_il3 (pc2 := 5) dX7_movedBy_4 rfl ?_
      refine g_al0 (pc2 := 6) dX7_movedBy_5 rfl ?_
      refine g_getr (pc2 := 9) (by rfl) (by rfl) flX7_19 dX7_movedBy_6 rfl ?_
      refine g_geti (pc2 := 12) (by rfl) (by rfl) flX7_109 dX7_movedBy_9 rfl ?_
      rw [e2']
      refine g_icmpN_ge 39 15 dX7_movedBy_12 rfl rfl (by omega) (by omega) (fun h12 => ?_) (fun h12 => ?_)
      · omega
      · refine g_al1 (pc2 := 16) dX7_movedBy_15 rfl ?_
        refine g_il3 (pc2 := 17) dX7_movedBy_16 rfl ?_
        refine g_iald (pc2 := 18) (by rfl) (by omega) (by decide) dX7_movedBy_17 rfl ?_
        rw [e43]
        refine g_al0 (pc2 := 19) dX7_movedBy_18 rfl ?_
        refine g_getr (pc2 := 22) (by rfl) (by rfl) flX7_26 dX7_movedBy_19 rfl ?_
        refine g_getr (pc2 := 25) (by rfl) (by rfl) flX7_144 dX7_movedBy_22 rfl ?_
        refine g_il3 (pc2 := 26) dX7_movedBy_25 rfl ?_
        refine g_iald (pc2 := 27) (by rfl) (by omega) (by decide) dX7_movedBy_26 rfl ?_
        rw [e22]
        refine g_icmp_eq 33 30 dX7_movedBy_27 rfl rfl (fun h27 => ?_) (fun h27 => ?_)
        · refine g_in3 (pc2 := 36) dX7_movedBy_33 (nI_inc _) (by decide) rfl ?_
          refine g_goto 4 dX7_movedBy_36 rfl ?_
          first | (rw [if_neg (by rw [decide_eq_true h27]; decide)] at ih; exact ih) | (rw [if_pos (by rw [decide_eq_false h27]; rfl)] at ih; exact ih)
        · refine g_in2 (pc2 := 33) dX7_movedBy_30 (nI_inc _) (by decide) rfl ?_
          refine g_in3 (pc2 := 36) dX7_movedBy_33 (nI_inc _) (by decide) rfl ?_
          refine g_goto 4 dX7_movedBy_36 rfl ?_
          first | (rw [if_neg (by rw [decide_eq_true h27]; decide)] at ih; exact ih) | (rw [if_pos (by rw [decide_eq_false h27]; rfl)] at ih; exact ih)
  refine g_iconst (pc2 := 1) dX7_movedBy_0 k_iconst_0 rfl ?_
  refine g_is2 (pc2 := 2) dX7_movedBy_1 (by decide) rfl ?_
  refine g_iconst (pc2 := 3) dX7_movedBy_2 k_iconst_0 rfl ?_
  refine g_is3 (pc2 := 4) dX7_movedBy_3 (by decide) rfl ?_
  exact key 0 (Nat.zero_le _)
theorem R_c_trainsOn (l : lt_L) (d : Nat) (t : lt_H) (σ : lt_S) {w : Nat → Int32} {ln T N : Nat} (hc : CC σ w ln T N) (a m : Int32) : lt_T l (d + 1) mX7_trainsOn (lt_SC ++ t) σ [.ref 10, .int a, .int m] (some (pf_on w a m)) σ := by
  refine lt_T.of [some (.ref 10), some (.int a), some (.int m), none, none] rfl rfl (Nat.le_of_ble_eq_true rfl) ?_
  have hw := hc.1
  have hN := hw.2.2.1
  have e2' : σ 13 2 = nI N := hc.2.1.1.2.2.1.trans hN.1
  unfold pf_on
  rw [hw.tr.2.1]
  have key : ∀ k, k ≤ N → lt_g l (d + 1) mX7_trainsOn (lt_SC ++ t) σ 5 [some (.ref 10), some (.int a), some (.int m), some (.int (orF (fun i => if decide (w (16 + 7 * i + 6) = a) && inB m (w (16 + 7 * i + 2)) (w (16 + 7 * i + 3)) then nI 1 <<< (nI i &&& 31) else nI 0) k)), some (.int (nI k))] [] (some (orF (fun i => if decide (w (16 + 7 * i + 6) = a) && inB m (w (16 + 7 * i + 2)) (w (16 + 7 * i + 3)) then nI 1 <<< (nI i &&& 31) else nI 0) N)) σ := by
    refine lt_dn N ?_ ?_
    · refine g_il4 (pc2 := 7) dX7_trainsOn_5 rfl ?_
      refine g_al0 (pc2 := 8) dX7_trainsOn_7 rfl ?_
      refine g_getr (pc2 := 11) (by rfl) (by rfl) flX7_19 dX7_trainsOn_8 rfl ?_
      refine g_geti (pc2 := 14) (by rfl) (by rfl) flX7_109 dX7_trainsOn_11 rfl ?_
      rw [e2']
      refine g_icmpN_ge 72 17 dX7_trainsOn_14 rfl rfl (by omega) (by omega) (fun h14 => ?_) (fun h14 => ?_)
      · refine g_il3 (pc2 := 73) dX7_trainsOn_72 rfl ?_
        exact g_iretT dX7_trainsOn_73 rfl (Nat.le_refl _) (Nat.le_refl _) (rfl) (rfl)
      · omega
    · intro k hk ih
      obtain ⟨p1, p2, -, p4⟩ := hc.2.2.1 k hk
      have q1 : σ 19 k = w (16 + 7 * k + 2) := p1
      have q2 : σ 20 k = w (16 + 7 * k + 3) := p2
      have q4 : σ 22 k = w (16 + 7 * k + 6) := p4
      simp only [orF] at ih
      refine g_il4 (pc2 := 7) dX7_trainsOn_5 rfl ?_
      refine g_al0 (pc2 := 8) dX7_trainsOn_7 rfl ?_
      refine g_getr (pc2 := 11) (by rfl) (by rfl) flX7_19 dX7_trainsOn_8 rfl ?_
      refine g_geti (pc2 := 14) (by rfl) (by rfl) flX7_109 dX7_trainsOn_11 rfl ?_
      rw [e2']
      refine g_icmpN_ge 72 17 dX7_trainsOn_14 rfl rfl (by omega) (by omega) (fun h14 => ?_) (fun h14 => ?_)
      · omega
      · refine g_al0 (pc2 := 18) dX7_trainsOn_17 rfl ?_
        refine g_getr (pc2 := 21) (by rfl) (by rfl) flX7_26 dX7_trainsOn_18 rfl ?_
        refine g_getr (pc2 := 24) (by rfl) (by rfl) flX7_144 dX7_trainsOn_21 rfl ?_
        refine g_il4 (pc2 := 26) dX7_trainsOn_24 rfl ?_
        refine g_iald (pc2 := 27) (by rfl) (by omega) (by decide) dX7_trainsOn_26 rfl ?_
        rw [q4]
        refine g_il1 (pc2 := 28) dX7_trainsOn_27 rfl ?_
        refine g_icmp_ne 66 31 dX7_trainsOn_28 rfl rfl (fun h28 => ?_) (fun h28 => ?_)
        · refine g_in4 (pc2 := 69) dX7_trainsOn_66 (nI_inc _) (by decide) rfl ?_
          refine g_goto 5 dX7_trainsOn_69 rfl ?_
          first | (rw [if_pos (by simp [inB, h28, h42, h56])] at ih; exact ih) | (rw [if_neg (by first | (simp [h28]; done) | (simp [inB, h42]; done) | (simp [inB, h56]; done)), or_0] at ih; exact ih)
        · refine g_al0 (pc2 := 32) dX7_trainsOn_31 rfl ?_
          refine g_getr (pc2 := 35) (by rfl) (by rfl) flX7_26 dX7_trainsOn_32 rfl ?_
          refine g_getr (pc2 := 38) (by rfl) (by rfl) flX7_132 dX7_trainsOn_35 rfl ?_
          refine g_il4 (pc2 := 40) dX7_trainsOn_38 rfl ?_
          refine g_iald (pc2 := 41) (by rfl) (by omega) (by decide) dX7_trainsOn_40 rfl ?_
          rw [q1]
          refine g_il2 (pc2 := 42) dX7_trainsOn_41 rfl ?_
          refine g_icmp_gt 66 45 dX7_trainsOn_42 rfl rfl (fun h42 => ?_) (fun h42 => ?_)
          · refine g_in4 (pc2 := 69) dX7_trainsOn_66 (nI_inc _) (by decide) rfl ?_
            refine g_goto 5 dX7_trainsOn_69 rfl ?_
            first | (rw [if_pos (by simp [inB, h28, h42, h56])] at ih; exact ih) | (rw [if_neg (by first | (simp [h28]; done) | (simp [inB, h42]; done) | (simp [inB, h56]; done)), or_0] at ih; exact ih)
          · refine g_il2 (pc2 := 46) dX7_trainsOn_45 rfl ?_
            refine g_al0 (pc2 := 47) dX7_trainsOn_46 rfl ?_
            refine g_getr (pc2 := 50) (by rfl) (by rfl) flX7_26 dX7_trainsOn_47 rfl ?_
            refine g_getr (pc2 := 53) (by rfl) (by rfl) flX7_135 dX7_trainsOn_50 rfl ?_
            refine g_il4 (pc2 := 55) dX7_trainsOn_53 rfl ?_
            refine g_iald (pc2 := 56) (by rfl) (by omega) (by decide) dX7_trainsOn_55 rfl ?_
            rw [q2]
            refine g_icmp_gt 66 59 dX7_trainsOn_56 rfl rfl (fun h56 => ?_) (fun h56 => ?_)
            · refine g_in4 (pc2 := 69) dX7_trainsOn_66 (nI_inc _) (by decide) rfl ?_
              refine g_goto 5 dX7_trainsOn_69 rfl ?_
              first | (rw [if_pos (by simp [inB, h28, h42, h56])] at ih; exact ih) | (rw [if_neg (by first | (simp [h28]; done) | (simp [inB, h42]; done) | (simp [inB, h56]; done)), or_0] at ih; exact ih)
            · refine g_il3 (pc2 := 60) dX7_trainsOn_59 rfl ?_
              refine g_iconst (pc2 := 61) dX7_trainsOn_60 k_iconst_1 rfl ?_
              refine g_il4 (pc2 := 63) dX7_trainsOn_61 rfl ?_
              refine g_ishl (pc2 := 64) dX7_trainsOn_63 rfl ?_
              refine g_ior (pc2 := 65) dX7_trainsOn_64 rfl ?_
              refine g_is3 (pc2 := 66) dX7_trainsOn_65 (by decide) rfl ?_
              refine g_in4 (pc2 := 69) dX7_trainsOn_66 (nI_inc _) (by decide) rfl ?_
              refine g_goto 5 dX7_trainsOn_69 rfl ?_
              first | (rw [if_pos (by simp [inB, h28, h42, h56])] at ih; exact ih) | (rw [if_neg (by first | (simp [h28]; done) | (simp [inB, h42]; done) | (simp [inB, h56]; done)), or_0] at ih; exact ih)
  refine g_iconst (pc2 := 1) dX7_trainsOn_0 k_iconst_0 rfl ?_
  refine g_is3 (pc2 := 2) dX7_trainsOn_1 (by decide) rfl ?_
  refine g_iconst (pc2 := 3) dX7_trainsOn_2 k_iconst_0 rfl ?_
  refine g_is4 (pc2 := 5) dX7_trainsOn_3 (by decide) rfl ?_
  exact key 0 (Nat.zero_le _)
theorem R_c_comesIn (l : lt_L) (d : Nat) (t : lt_H) (σ : lt_S) (i k p : Nat) (hi : i < 7) (hk : k < 100) (hp : σ 19 i = nI p) (hp1 : 1 ≤ p) (hp2 : p ≤ 98) : lt_T l (d + 1) mX2_comesIn (lt_SC ++ t) σ [.ref 18, .int (nI i), .int (nI k)] (some (bI (inB (nI k) (nI p - nI 1) (nI p)))) σ := by
  refine lt_T.of [some (.ref 18), some (.int (nI i)), some (.int (nI k))] rfl rfl (Nat.le_of_ble_eq_true rfl) ?_
  rw [pk_sub hp1, inB_N (by omega) (by omega) (by omega)]
  refine g_il2 (pc2 := 1) dX2_comesIn_0 rfl ?_
  refine g_al0 (pc2 := 2) dX2_comesIn_1 rfl ?_
  refine g_getr (pc2 := 5) (by rfl) (by rfl) flX2_9 dX2_comesIn_2 rfl ?_
  refine g_il1 (pc2 := 6) dX2_comesIn_5 rfl ?_
  refine g_iald (pc2 := 7) (by rfl) (by omega) (by decide) dX2_comesIn_6 rfl ?_
  rw [hp]
  refine g_iconst (pc2 := 8) dX2_comesIn_7 k_iconst_1 rfl ?_
  refine g_isubN (pc2 := 9) dX2_comesIn_8 rfl (by omega) ?_
  refine g_icmpN_eq 22 12 dX2_comesIn_9 rfl rfl (by omega) (by omega) (fun h9 => ?_) (fun h9 => ?_)
  · refine g_iconst (pc2 := 23) dX2_comesIn_22 k_iconst_1 rfl ?_
    refine g_goto 27 dX2_comesIn_23 rfl ?_
    exact g_zretT dX2_comesIn_27 rfl (Nat.le_refl _) (Nat.le_refl _) (by first | (rw [show (decide (p - 1 ≤ k) && decide (k ≤ p)) = true from (by simp; omega)]; rfl) | (rw [show (decide (p - 1 ≤ k) && decide (k ≤ p)) = false from (by simp; omega)]; rfl)) (rfl)
  · refine g_il2 (pc2 := 13) dX2_comesIn_12 rfl ?_
    refine g_al0 (pc2 := 14) dX2_comesIn_13 rfl ?_
    refine g_getr (pc2 := 17) (by rfl) (by rfl) flX2_9 dX2_comesIn_14 rfl ?_
    refine g_il1 (pc2 := 18) dX2_comesIn_17 rfl ?_
    refine g_iald (pc2 := 19) (by rfl) (by omega) (by decide) dX2_comesIn_18 rfl ?_
    rw [hp]
    refine g_icmpN_ne 26 22 dX2_comesIn_19 rfl rfl (by omega) (by omega) (fun h19 => ?_) (fun h19 => ?_)
    · refine g_iconst (pc2 := 27) dX2_comesIn_26 k_iconst_0 rfl ?_
      exact g_zretT dX2_comesIn_27 rfl (Nat.le_refl _) (Nat.le_refl _) (by first | (rw [show (decide (p - 1 ≤ k) && decide (k ≤ p)) = true from (by simp; omega)]; rfl) | (rw [show (decide (p - 1 ≤ k) && decide (k ≤ p)) = false from (by simp; omega)]; rfl)) (rfl)
    · refine g_iconst (pc2 := 23) dX2_comesIn_22 k_iconst_1 rfl ?_
      refine g_goto 27 dX2_comesIn_23 rfl ?_
      exact g_zretT dX2_comesIn_27 rfl (Nat.le_refl _) (Nat.le_refl _) (by first | (rw [show (decide (p - 1 ≤ k) && decide (k ≤ p)) = true from (by simp; omega)]; rfl) | (rw [show (decide (p - 1 ≤ k) && decide (k ≤ p)) = false from (by simp; omega)]; rfl)) (rfl)
theorem R_c_goesOut (l : lt_L) (d : Nat) (t : lt_H) (σ : lt_S) (i k q : Nat) (hi : i < 7) (hk : k < 100) (hq : σ 20 i = nI q) (hq2 : q ≤ 98) : lt_T l (d + 1) mX2_goesOut (lt_SC ++ t) σ [.ref 18, .int (nI i), .int (nI k)] (some (bI (inB (nI k) (nI q) (nI q + nI 1)))) σ := by
  refine lt_T.of [some (.ref 18), some (.int (nI i)), some (.int (nI k))] rfl rfl (Nat.le_of_ble_eq_true rfl) ?_
  rw [nI_add, inB_N (by omega) (by omega) (by omega)]
  refine g_il2 (pc2 := 1) dX2_goesOut_0 rfl ?_
  refine g_al0 (pc2 := 2) dX2_goesOut_1 rfl ?_
  refine g_getr (pc2 := 5) (by rfl) (by rfl) flX2_15 dX2_goesOut_2 rfl ?_
  refine g_il1 (pc2 := 6) dX2_goesOut_5 rfl ?_
  refine g_iald (pc2 := 7) (by rfl) (by omega) (by decide) dX2_goesOut_6 rfl ?_
  rw [hq]
  refine g_icmpN_eq 22 10 dX2_goesOut_7 rfl rfl (by omega) (by omega) (fun h7 => ?_) (fun h7 => ?_)
  · refine g_iconst (pc2 := 23) dX2_goesOut_22 k_iconst_1 rfl ?_
    refine g_goto 27 dX2_goesOut_23 rfl ?_
    exact g_zretT dX2_goesOut_27 rfl (Nat.le_refl _) (Nat.le_refl _) (by first | (rw [show (decide (q ≤ k) && decide (k ≤ q + 1)) = true from (by simp; omega)]; rfl) | (rw [show (decide (q ≤ k) && decide (k ≤ q + 1)) = false from (by simp; omega)]; rfl)) (rfl)
  · refine g_il2 (pc2 := 11) dX2_goesOut_10 rfl ?_
    refine g_al0 (pc2 := 12) dX2_goesOut_11 rfl ?_
    refine g_getr (pc2 := 15) (by rfl) (by rfl) flX2_15 dX2_goesOut_12 rfl ?_
    refine g_il1 (pc2 := 16) dX2_goesOut_15 rfl ?_
    refine g_iald (pc2 := 17) (by rfl) (by omega) (by decide) dX2_goesOut_16 rfl ?_
    rw [hq]
    refine g_iconst (pc2 := 18) dX2_goesOut_17 k_iconst_1 rfl ?_
    refine g_iaddN (pc2 := 19) dX2_goesOut_18 rfl ?_
    refine g_icmpN_ne 26 22 dX2_goesOut_19 rfl rfl (by omega) (by omega) (fun h19 => ?_) (fun h19 => ?_)
    · refine g_iconst (pc2 := 27) dX2_goesOut_26 k_iconst_0 rfl ?_
      exact g_zretT dX2_goesOut_27 rfl (Nat.le_refl _) (Nat.le_refl _) (by first | (rw [show (decide (q ≤ k) && decide (k ≤ q + 1)) = true from (by simp; omega)]; rfl) | (rw [show (decide (q ≤ k) && decide (k ≤ q + 1)) = false from (by simp; omega)]; rfl)) (rfl)
    · refine g_iconst (pc2 := 23) dX2_goesOut_22 k_iconst_1 rfl ?_
      refine g_goto 27 dX2_goesOut_23 rfl ?_
      exact g_zretT dX2_goesOut_27 rfl (Nat.le_refl _) (Nat.le_refl _) (by first | (rw [show (decide (q ≤ k) && decide (k ≤ q + 1)) = true from (by simp; omega)]; rfl) | (rw [show (decide (q ≤ k) && decide (k ≤ q + 1)) = false from (by simp; omega)]; rfl)) (rfl)
theorem R_c_switchesIn (l : lt_L) (d : Nat) (t : lt_H) (σ : lt_S) {w : Nat → Int32} {ln T N : Nat} (hc : CC σ w ln T N) (m : Nat) (hm : m < 100) : lt_T l (d + 2) mX7_switchesIn (lt_SC ++ t) σ [.ref 10, .int (nI m)] (some (pf_taken w (nI m))) σ := by
  refine lt_T.of [some (.ref 10), some (.int (nI m)), none, none, none] rfl rfl (Nat.le_of_ble_eq_true rfl) ?_
  have hw := hc.1
  have hN := hw.2.2.1
  have hT := hw.2.1
  have e2' : σ 13 2 = nI N := hc.2.1.1.2.2.1.trans hN.1
  unfold pf_taken
  rw [hw.tr.2.1]
  have key : ∀ k, k ≤ N → ∀ z : Option Value, lt_g l (d + 2) mX7_switchesIn (lt_SC ++ t) σ 4 [some (.ref 10), some (.int (nI m)), some (.int (orF (pf_takenI w (nI m)) k)), some (.int (nI k)), z] [] (some (orF (pf_takenI w (nI m)) N)) σ := by
    refine lt_dn N ?_ ?_
    · intro z
      refine g_il3 (pc2 := 5) dX7_switchesIn_4 rfl ?_
      refine g_al0 (pc2 := 6) dX7_switchesIn_5 rfl ?_
      refine g_getr (pc2 := 9) (by rfl) (by rfl) flX7_19 dX7_switchesIn_6 rfl ?_
      refine g_geti (pc2 := 12) (by rfl) (by rfl) flX7_109 dX7_switchesIn_9 rfl ?_
      rw [e2']
      refine g_icmpN_ge 96 15 dX7_switchesIn_12 rfl rfl (by omega) (by omega) (fun h12 => ?_) (fun h12 => ?_)
      · refine g_il2 (pc2 := 97) dX7_switchesIn_96 rfl ?_
        exact g_iretT dX7_switchesIn_97 rfl (Nat.le_refl _) (Nat.le_refl _) (rfl) (rfl)
      · omega
    · intro k hk ih z
      have hkk := hw.ln hk
      obtain ⟨p1, p2, -, p4⟩ := hc.2.2.1 k hk
      obtain ⟨p, q, r1, r2, r3, r4, r5⟩ := (hw.2.2.2.2 k hk).2.2.1
      have q1 : σ 19 k = nI p := (show σ 19 k = w (16 + 7 * k + 2) from p1).trans r4
      have q2 : σ 20 k = nI q := (show σ 20 k = w (16 + 7 * k + 3) from p2).trans r5
      have q4 : σ 22 k = w (16 + 7 * k + 6) := p4
      have fin : ∀ (x : Int32) (z : Option Value), x = pf_takenI w (nI m) k → lt_g l (d + 2) mX7_switchesIn (lt_SC ++ t) σ 4 [some (.ref 10), some (.int (nI m)), some (.int (orF (pf_takenI w (nI m)) k ||| x)), some (.int (nI (k + 1))), z] [] (some (orF (pf_takenI w (nI m)) N)) σ := by
        intro x z hx
        subst hx
        exact ih z
      by_cases hp : w (16 + 7 * k + 6) = -4
      · have f9 := fun z => fin (nI 0) z (by simp [pf_takenI, hp])
        rw [or_0] at f9
        refine g_il3 (pc2 := 5) dX7_switchesIn_4 rfl ?_
        refine g_al0 (pc2 := 6) dX7_switchesIn_5 rfl ?_
        refine g_getr (pc2 := 9) (by rfl) (by rfl) flX7_19 dX7_switchesIn_6 rfl ?_
        refine g_geti (pc2 := 12) (by rfl) (by rfl) flX7_109 dX7_switchesIn_9 rfl ?_
        rw [e2']
        refine g_icmpN_ge 96 15 dX7_switchesIn_12 rfl rfl (by omega) (by omega) (fun h12 => ?_) (fun h12 => ?_)
        · omega
        · refine g_al0 (pc2 := 16) dX7_switchesIn_15 rfl ?_
          refine g_getr (pc2 := 19) (by rfl) (by rfl) flX7_26 dX7_switchesIn_16 rfl ?_
          refine g_getr (pc2 := 22) (by rfl) (by rfl) flX7_144 dX7_switchesIn_19 rfl ?_
          refine g_il3 (pc2 := 23) dX7_switchesIn_22 rfl ?_
          refine g_iald (pc2 := 24) (by rfl) (by omega) (by decide) dX7_switchesIn_23 rfl ?_
          rw [q4]
          refine g_is4 (pc2 := 26) dX7_switchesIn_24 (by decide) rfl ?_
          refine g_il4 (pc2 := 28) dX7_switchesIn_26 rfl ?_
          refine g_bipush (pc2 := 30) dX7_switchesIn_28 k_bipush_m4 rfl ?_
          refine g_icmp_eq 58 33 dX7_switchesIn_30 rfl rfl (fun h30 => ?_) (fun h30 => ?_)
          · refine g_il4 (pc2 := 60) dX7_switchesIn_58 rfl ?_
            refine g_bipush (pc2 := 62) dX7_switchesIn_60 k_bipush_m4 rfl ?_
            refine g_icmp_eq 90 65 dX7_switchesIn_62 rfl rfl (fun h62 => ?_) (fun h62 => ?_)
            · refine g_in3 (pc2 := 93) dX7_switchesIn_90 (nI_inc _) (by decide) rfl ?_
              refine g_goto 4 dX7_switchesIn_93 rfl ?_
              exact f9 _
            · exact absurd hp h62
          · exact absurd hp h30
      · obtain ⟨o, ho1, ho2, ho3⟩ := hw.pl hk hp
        have hTI : pf_takenI w (nI m) k = (if inB (nI m) (nI p - nI 1) (nI p) then pf_in w k o else nI 0) ||| (if inB (nI m) (nI q) (nI q + nI 1) then pf_out w k o else nI 0) := by
          unfold pf_takenI
          rw [if_neg hp, r4, r5, ho2, tN_nI (by omega)]
        have f1 := fun z (h1 : inB (nI m) (nI p - nI 1) (nI p) = true) (h2 : inB (nI m) (nI q) (nI q + nI 1) = true) => fin (pf_in w k o ||| pf_out w k o) z (by rw [hTI, h1, h2]; rfl)
        have f2 := fun z (h1 : inB (nI m) (nI p - nI 1) (nI p) = true) (h2 : inB (nI m) (nI q) (nI q + nI 1) = false) => fin (pf_in w k o) z (by rw [hTI, h1, h2]; exact (or_0 _).symm)
        have f3 := fun z (h1 : inB (nI m) (nI p - nI 1) (nI p) = false) (h2 : inB (nI m) (nI q) (nI q + nI 1) = true) => fin (pf_out w k o) z (by rw [hTI, h1, h2]; show _ = nI 0 ||| pf_out w k o; rw [nI_0, Int32.zero_or])
        have f4 := fun z (h1 : inB (nI m) (nI p - nI 1) (nI p) = false) (h2 : inB (nI m) (nI q) (nI q + nI 1) = false) => fin (nI 0) z (by rw [hTI, h1, h2]; exact (or_0 _).symm)
        simp only [or_0, ← or_assoc32] at f1 f2 f3 f4
        refine g_il3 (pc2 := 5) dX7_switchesIn_4 rfl ?_
        refine g_al0 (pc2 := 6) dX7_switchesIn_5 rfl ?_
        refine g_getr (pc2 := 9) (by rfl) (by rfl) flX7_19 dX7_switchesIn_6 rfl ?_
        refine g_geti (pc2 := 12) (by rfl) (by rfl) flX7_109 dX7_switchesIn_9 rfl ?_
        rw [e2']
        refine g_icmpN_ge 96 15 dX7_switchesIn_12 rfl rfl (by omega) (by omega) (fun h12 => ?_) (fun h12 => ?_)
        · omega
        · refine g_al0 (pc2 := 16) dX7_switchesIn_15 rfl ?_
          refine g_getr (pc2 := 19) (by rfl) (by rfl) flX7_26 dX7_switchesIn_16 rfl ?_
          refine g_getr (pc2 := 22) (by rfl) (by rfl) flX7_144 dX7_switchesIn_19 rfl ?_
          refine g_il3 (pc2 := 23) dX7_switchesIn_22 rfl ?_
          refine g_iald (pc2 := 24) (by rfl) (by omega) (by decide) dX7_switchesIn_23 rfl ?_
          rw [q4, ho2]
          refine g_is4 (pc2 := 26) dX7_switchesIn_24 (by decide) rfl ?_
          refine g_il4 (pc2 := 28) dX7_switchesIn_26 rfl ?_
          refine g_bipush (pc2 := 30) dX7_switchesIn_28 k_bipush_m4 rfl ?_
          refine g_icmp_eq 58 33 dX7_switchesIn_30 rfl rfl (fun h30 => ?_) (fun h30 => ?_)
          · exact absurd h30 (m4_ne (by omega))
          · refine g_al0 (pc2 := 34) dX7_switchesIn_33 rfl ?_
            refine g_getr (pc2 := 37) (by rfl) (by rfl) flX7_26 dX7_switchesIn_34 rfl ?_
            refine g_il3 (pc2 := 38) dX7_switchesIn_37 rfl ?_
            refine g_il1 (pc2 := 39) dX7_switchesIn_38 rfl ?_
            refine g_cVi (pc2 := 42) (R_c_comesIn l d _ _ _ _ p hkk.1 hm q1 r1 (by omega)) meX2_comesIn mlX7_227 (by rfl) ⟨_, rfl, rfl⟩ rfl rfl (by simp) ⟨Nat.le_refl _, Nat.le_refl _⟩ dX7_switchesIn_39 rfl ?_
            refine g_if_eqB 58 45 dX7_switchesIn_42 rfl rfl (fun h42 => ?_) (fun h42 => ?_)
            · refine g_il4 (pc2 := 60) dX7_switchesIn_58 rfl ?_
              refine g_bipush (pc2 := 62) dX7_switchesIn_60 k_bipush_m4 rfl ?_
              refine g_icmp_eq 90 65 dX7_switchesIn_62 rfl rfl (fun h62 => ?_) (fun h62 => ?_)
              · exact absurd h62 (m4_ne (by omega))
              · refine g_al0 (pc2 := 66) dX7_switchesIn_65 rfl ?_
                refine g_getr (pc2 := 69) (by rfl) (by rfl) flX7_26 dX7_switchesIn_66 rfl ?_
                refine g_il3 (pc2 := 70) dX7_switchesIn_69 rfl ?_
                refine g_il1 (pc2 := 71) dX7_switchesIn_70 rfl ?_
                refine g_cVi (pc2 := 74) (R_c_goesOut l d _ _ _ _ q hkk.1 hm q2 r3) meX2_goesOut mlX7_230 (by rfl) ⟨_, rfl, rfl⟩ rfl rfl (by simp) ⟨Nat.le_refl _, Nat.le_refl _⟩ dX7_switchesIn_71 rfl ?_
                refine g_if_eqB 90 77 dX7_switchesIn_74 rfl rfl (fun h74 => ?_) (fun h74 => ?_)
                · refine g_in3 (pc2 := 93) dX7_switchesIn_90 (nI_inc _) (by decide) rfl ?_
                  refine g_goto 4 dX7_switchesIn_93 rfl ?_
                  first | exact f1 _ h42 h74 | exact f2 _ h42 h74 | exact f3 _ h42 h74 | exact f4 _ h42 h74
                · refine g_il2 (pc2 := 78) dX7_switchesIn_77 rfl ?_
                  refine g_al0 (pc2 := 79) dX7_switchesIn_78 rfl ?_
                  refine g_getr (pc2 := 82) (by rfl) (by rfl) flX7_19 dX7_switchesIn_79 rfl ?_
                  refine g_il3 (pc2 := 83) dX7_switchesIn_82 rfl ?_
                  refine g_il4 (pc2 := 85) dX7_switchesIn_83 rfl ?_
                  refine g_cVi (pc2 := 88) (R_c_routeOut l d _ _ hc.2.1 _ _ hk hkk (by omega)) meX6_routeOut mlX7_173 (by rfl) ⟨_, rfl, rfl⟩ rfl rfl (by simp) ⟨Nat.le_refl _, Nat.le_refl _⟩ dX7_switchesIn_85 rfl ?_
                  refine g_ior (pc2 := 89) dX7_switchesIn_88 rfl ?_
                  refine g_is2 (pc2 := 90) dX7_switchesIn_89 (by decide) rfl ?_
                  refine g_in3 (pc2 := 93) dX7_switchesIn_90 (nI_inc _) (by decide) rfl ?_
                  refine g_goto 4 dX7_switchesIn_93 rfl ?_
                  first | exact f1 _ h42 h74 | exact f2 _ h42 h74 | exact f3 _ h42 h74 | exact f4 _ h42 h74
            · refine g_il2 (pc2 := 46) dX7_switchesIn_45 rfl ?_
              refine g_al0 (pc2 := 47) dX7_switchesIn_46 rfl ?_
              refine g_getr (pc2 := 50) (by rfl) (by rfl) flX7_19 dX7_switchesIn_47 rfl ?_
              refine g_il3 (pc2 := 51) dX7_switchesIn_50 rfl ?_
              refine g_il4 (pc2 := 53) dX7_switchesIn_51 rfl ?_
              refine g_cVi (pc2 := 56) (R_c_routeIn l d _ _ hc.2.1 _ _ hk hkk (by omega)) meX6_routeIn mlX7_170 (by rfl) ⟨_, rfl, rfl⟩ rfl rfl (by simp) ⟨Nat.le_refl _, Nat.le_refl _⟩ dX7_switchesIn_53 rfl ?_
              refine g_ior (pc2 := 57) dX7_switchesIn_56 rfl ?_
              refine g_is2 (pc2 := 58) dX7_switchesIn_57 (by decide) rfl ?_
              refine g_il4 (pc2 := 60) dX7_switchesIn_58 rfl ?_
              refine g_bipush (pc2 := 62) dX7_switchesIn_60 k_bipush_m4 rfl ?_
              refine g_icmp_eq 90 65 dX7_switchesIn_62 rfl rfl (fun h62 => ?_) (fun h62 => ?_)
              · exact absurd h62 (m4_ne (by omega))
              · refine g_al0 (pc2 := 66) dX7_switchesIn_65 rfl ?_
                refine g_getr (pc2 := 69) (by rfl) (by rfl) flX7_26 dX7_switchesIn_66 rfl ?_
                refine g_il3 (pc2 := 70) dX7_switchesIn_69 rfl ?_
                refine g_il1 (pc2 := 71) dX7_switchesIn_70 rfl ?_
                refine g_cVi (pc2 := 74) (R_c_goesOut l d _ _ _ _ q hkk.1 hm q2 r3) meX2_goesOut mlX7_230 (by rfl) ⟨_, rfl, rfl⟩ rfl rfl (by simp) ⟨Nat.le_refl _, Nat.le_refl _⟩ dX7_switchesIn_71 rfl ?_
                refine g_if_eqB 90 77 dX7_switchesIn_74 rfl rfl (fun h74 => ?_) (fun h74 => ?_)
                · refine g_in3 (pc2 := 93) dX7_switchesIn_90 (nI_inc _) (by decide) rfl ?_
                  refine g_goto 4 dX7_switchesIn_93 rfl ?_
                  first | exact f1 _ h42 h74 | exact f2 _ h42 h74 | exact f3 _ h42 h74 | exact f4 _ h42 h74
                · refine g_il2 (pc2 := 78) dX7_switchesIn_77 rfl ?_
                  refine g_al0 (pc2 := 79) dX7_switchesIn_78 rfl ?_
                  refine g_getr (pc2 := 82) (by rfl) (by rfl) flX7_19 dX7_switchesIn_79 rfl ?_
                  refine g_il3 (pc2 := 83) dX7_switchesIn_82 rfl ?_
                  refine g_il4 (pc2 := 85) dX7_switchesIn_83 rfl ?_
                  refine g_cVi (pc2 := 88) (R_c_routeOut l d _ _ hc.2.1 _ _ hk hkk (by omega)) meX6_routeOut mlX7_173 (by rfl) ⟨_, rfl, rfl⟩ rfl rfl (by simp) ⟨Nat.le_refl _, Nat.le_refl _⟩ dX7_switchesIn_85 rfl ?_
                  refine g_ior (pc2 := 89) dX7_switchesIn_88 rfl ?_
                  refine g_is2 (pc2 := 90) dX7_switchesIn_89 (by decide) rfl ?_
                  refine g_in3 (pc2 := 93) dX7_switchesIn_90 (nI_inc _) (by decide) rfl ?_
                  refine g_goto 4 dX7_switchesIn_93 rfl ?_
                  first | exact f1 _ h42 h74 | exact f2 _ h42 h74 | exact f3 _ h42 h74 | exact f4 _ h42 h74
  refine g_iconst (pc2 := 1) dX7_switchesIn_0 k_iconst_0 rfl ?_
  refine g_is2 (pc2 := 2) dX7_switchesIn_1 (by decide) rfl ?_
  refine g_iconst (pc2 := 3) dX7_switchesIn_2 k_iconst_0 rfl ?_
  refine g_is3 (pc2 := 4) dX7_switchesIn_3 (by decide) rfl ?_
  exact key 0 (Nat.zero_le _) _
theorem R_c_minutesOfTrack (l : lt_L) (d : Nat) (t : lt_H) (σ : lt_S) {w : Nat → Int32} {ln T N : Nat} (hc : CC σ w ln T N) (x : Int32) : lt_T l (d + 2) mX7_minutesOfTrack (lt_SC ++ t) σ [.ref 10, .int x] (some (nI (pf_use w 0 x))) σ := by
  refine lt_T.of [some (.ref 10), some (.int x), none, none] rfl rfl (Nat.le_of_ble_eq_true rfl) ?_
  have key : ∀ k, k ≤ 100 → lt_g l (d + 2) mX7_minutesOfTrack (lt_SC ++ t) σ 4 [some (.ref 10), some (.int x), some (.int (nI (sumF (pf_useB w 0 x) k))), some (.int (nI k))] [] (some (nI (pf_use w 0 x))) σ := by
    refine lt_dn 100 ?_ ?_
    · refine g_il3 (pc2 := 5) dX7_minutesOfTrack_4 rfl ?_
      refine g_bipush (pc2 := 7) dX7_minutesOfTrack_5 k_bipush_100 rfl ?_
      refine g_icmpN_ge 28 10 dX7_minutesOfTrack_7 rfl rfl (by omega) (by omega) (fun h7 => ?_) (fun h7 => ?_)
      · refine g_il2 (pc2 := 29) dX7_minutesOfTrack_28 rfl ?_
        exact g_iretT dX7_minutesOfTrack_29 rfl (Nat.le_refl _) (Nat.le_refl _) (rfl) (rfl)
      · omega
    · intro k hk ih
      have hu : pf_useB w 0 x k = !decide (pf_on w x (nI k) = 0) := by unfold pf_useB; rw [if_pos rfl]
      simp only [sumF] at ih
      rw [hu] at ih
      refine g_il3 (pc2 := 5) dX7_minutesOfTrack_4 rfl ?_
      refine g_bipush (pc2 := 7) dX7_minutesOfTrack_5 k_bipush_100 rfl ?_
      refine g_icmpN_ge 28 10 dX7_minutesOfTrack_7 rfl rfl (by omega) (by omega) (fun h7 => ?_) (fun h7 => ?_)
      · omega
      · refine g_al0 (pc2 := 11) dX7_minutesOfTrack_10 rfl ?_
        refine g_il1 (pc2 := 12) dX7_minutesOfTrack_11 rfl ?_
        refine g_il3 (pc2 := 13) dX7_minutesOfTrack_12 rfl ?_
        refine g_cVi (pc2 := 16) (R_c_trainsOn l d _ _ hc _ _) meX7_trainsOn mlX7_212 (by rfl) ⟨_, rfl, rfl⟩ rfl rfl (by simp) ⟨Nat.le_refl _, Nat.le_refl _⟩ dX7_minutesOfTrack_13 rfl ?_
        refine g_if_eq 22 19 dX7_minutesOfTrack_16 rfl rfl (fun h16 => ?_) (fun h16 => ?_)
        · refine g_in3 (pc2 := 25) dX7_minutesOfTrack_22 (nI_inc _) (by decide) rfl ?_
          refine g_goto 4 dX7_minutesOfTrack_25 rfl ?_
          first | (rw [if_neg (by rw [decide_eq_true h16]; decide)] at ih; exact ih) | (rw [if_pos (by rw [decide_eq_false h16]; rfl)] at ih; exact ih)
        · refine g_in2 (pc2 := 22) dX7_minutesOfTrack_19 (nI_inc _) (by decide) rfl ?_
          refine g_in3 (pc2 := 25) dX7_minutesOfTrack_22 (nI_inc _) (by decide) rfl ?_
          refine g_goto 4 dX7_minutesOfTrack_25 rfl ?_
          first | (rw [if_neg (by rw [decide_eq_true h16]; decide)] at ih; exact ih) | (rw [if_pos (by rw [decide_eq_false h16]; rfl)] at ih; exact ih)
  refine g_iconst (pc2 := 1) dX7_minutesOfTrack_0 k_iconst_0 rfl ?_
  refine g_is2 (pc2 := 2) dX7_minutesOfTrack_1 (by decide) rfl ?_
  refine g_iconst (pc2 := 3) dX7_minutesOfTrack_2 k_iconst_0 rfl ?_
  refine g_is3 (pc2 := 4) dX7_minutesOfTrack_3 (by decide) rfl ?_
  exact key 0 (Nat.zero_le _)
theorem R_c_minutesOfSwitch (l : lt_L) (d : Nat) (t : lt_H) (σ : lt_S) {w : Nat → Int32} {ln T N : Nat} (hc : CC σ w ln T N) (x : Int32) : lt_T l (d + 3) mX7_minutesOfSwitch (lt_SC ++ t) σ [.ref 10, .int x] (some (nI (pf_use w (nI 1) x))) σ := by
  refine lt_T.of [some (.ref 10), some (.int x), none, none] rfl rfl (Nat.le_of_ble_eq_true rfl) ?_
  have key : ∀ k, k ≤ 100 → lt_g l (d + 3) mX7_minutesOfSwitch (lt_SC ++ t) σ 4 [some (.ref 10), some (.int x), some (.int (nI (sumF (pf_useB w (nI 1) x) k))), some (.int (nI k))] [] (some (nI (pf_use w (nI 1) x))) σ := by
    refine lt_dn 100 ?_ ?_
    · refine g_il3 (pc2 := 5) dX7_minutesOfSwitch_4 rfl ?_
      refine g_bipush (pc2 := 7) dX7_minutesOfSwitch_5 k_bipush_100 rfl ?_
      refine g_icmpN_ge 31 10 dX7_minutesOfSwitch_7 rfl rfl (by omega) (by omega) (fun h7 => ?_) (fun h7 => ?_)
      · refine g_il2 (pc2 := 32) dX7_minutesOfSwitch_31 rfl ?_
        exact g_iretT dX7_minutesOfSwitch_32 rfl (Nat.le_refl _) (Nat.le_refl _) (rfl) (rfl)
      · omega
    · intro k hk ih
      have hu : pf_useB w (nI 1) x k = decide ((pf_taken w (nI k) >>> (x &&& 31)) &&& nI 1 = nI 1) := by unfold pf_useB; rw [if_neg (by decide)]
      have h01 : (pf_taken w (nI k) >>> (x &&& 31)) &&& nI 1 = nI 0 ∨ (pf_taken w (nI k) >>> (x &&& 31)) &&& nI 1 = nI 1 := by
        obtain ⟨j, hj, e⟩ := pk_andE (pf_taken w (nI k) >>> (x &&& 31)) (m := nI 1) 1 (by decide)
        rcases (show j = 0 ∨ j = 1 by omega) with rfl | rfl
        · exact Or.inl e
        · exact Or.inr e
      simp only [sumF] at ih
      rw [hu] at ih
      refine g_il3 (pc2 := 5) dX7_minutesOfSwitch_4 rfl ?_
      refine g_bipush (pc2 := 7) dX7_minutesOfSwitch_5 k_bipush_100 rfl ?_
      refine g_icmpN_ge 31 10 dX7_minutesOfSwitch_7 rfl rfl (by omega) (by omega) (fun h7 => ?_) (fun h7 => ?_)
      · omega
      · refine g_al0 (pc2 := 11) dX7_minutesOfSwitch_10 rfl ?_
        refine g_il3 (pc2 := 12) dX7_minutesOfSwitch_11 rfl ?_
        refine g_cVi (pc2 := 15) (R_c_switchesIn l d _ _ hc _ hk) meX7_switchesIn mlX7_215 (by rfl) ⟨_, rfl, rfl⟩ rfl rfl (by simp) ⟨Nat.le_refl _, Nat.le_refl _⟩ dX7_minutesOfSwitch_12 rfl ?_
        refine g_il1 (pc2 := 16) dX7_minutesOfSwitch_15 rfl ?_
        refine g_ishr (pc2 := 17) dX7_minutesOfSwitch_16 rfl ?_
        refine g_iconst (pc2 := 18) dX7_minutesOfSwitch_17 k_iconst_1 rfl ?_
        refine g_iand (pc2 := 19) dX7_minutesOfSwitch_18 rfl ?_
        refine g_if_eq 25 22 dX7_minutesOfSwitch_19 rfl rfl (fun h19 => ?_) (fun h19 => ?_)
        · refine g_in3 (pc2 := 28) dX7_minutesOfSwitch_25 (nI_inc _) (by decide) rfl ?_
          refine g_goto 4 dX7_minutesOfSwitch_28 rfl ?_
          first | (rw [if_neg (by rw [h19]; decide)] at ih; exact ih) | (rw [if_pos (decide_eq_true (h01.resolve_left (fun e => h19 (e.trans nI_0))))] at ih; exact ih)
        · refine g_in2 (pc2 := 25) dX7_minutesOfSwitch_22 (nI_inc _) (by decide) rfl ?_
          refine g_in3 (pc2 := 28) dX7_minutesOfSwitch_25 (nI_inc _) (by decide) rfl ?_
          refine g_goto 4 dX7_minutesOfSwitch_28 rfl ?_
          first | (rw [if_neg (by rw [h19]; decide)] at ih; exact ih) | (rw [if_pos (decide_eq_true (h01.resolve_left (fun e => h19 (e.trans nI_0))))] at ih; exact ih)
  refine g_iconst (pc2 := 1) dX7_minutesOfSwitch_0 k_iconst_0 rfl ?_
  refine g_is2 (pc2 := 2) dX7_minutesOfSwitch_1 (by decide) rfl ?_
  refine g_iconst (pc2 := 3) dX7_minutesOfSwitch_2 k_iconst_0 rfl ?_
  refine g_is3 (pc2 := 4) dX7_minutesOfSwitch_3 (by decide) rfl ?_
  exact key 0 (Nat.zero_le _)
