/-! the class: ways -/
def Scrc (σ σ' : lt_S) : Prop := (∀ a, a < 39 ∨ 43 < a → σ' a = σ a) ∧ ∀ k, k ≠ 7 → σ' 39 k = σ 39 k
theorem Scrc.rf (σ : lt_S) : Scrc σ σ := ⟨fun _ _ => rfl, fun _ _ => rfl⟩
def FC (σ σ' : lt_S) (w : Nat → Int32) (law nt : Int32) (T N : Nat) : Prop := Scrc σ σ' ∧ ∀ j, j < N → σ' 43 j = asT (wayG w law nt T N j) ∧ wayG w law nt T N j < 5
theorem BC.got {σ : lt_S} {w : Nat → Int32} {law nt : Int32} {T N : Nat} (h : BC w law N σ (wayF w law nt T N)) : ∀ j, j < N → σ 43 j = asT (wayG w law nt T N j) ∧ wayG w law nt T N j < 5 := by
  obtain ⟨q, hq⟩ := exN_some (lg := lgB w nt T) (cs := costN w law N) (fun f m => by simp [lgB]) N 0 (fun _ => 0) none
  have e : wayG w law nt T N = q.2 := by unfold wayG wayF; rw [hq]
  rw [show wayF w law nt T N = some q from hq] at h
  rw [e]
  exact h.2.2
theorem R_c_find (l : lt_L) (d : Nat) (t : lt_H) (σ : lt_S) {w : Nat → Int32} {ln T N : Nat} (hc : CC σ w ln T N) (law : Int32) : lt_R l (d + 12) 0 0 mX4_find (lt_SC ++ t) σ [.ref 39, .int law] (fun r sh' σ' => r = none ∧ sh' = lt_SC ++ t ∧ FC σ σ' w law (nI 0) T N) := by
  refine lt_R.of [some (.ref 39), some (.int law)] rfl rfl (Nat.le_of_ble_eq_true rfl) ?_
  have hN := hc.1.2.2.1
  have hd : d + (7 - N) + N + 4 = d + 11 := by omega
  refine g_al0 (pc2 := 1) dX4_find_0 rfl ?_
  refine g_il1 (pc2 := 2) dX4_find_1 rfl ?_
  refine g_iconst (pc2 := 3) dX4_find_2 k_iconst_0 rfl ?_
  refine g_callV (pc2 := 6) (R_c_weigh l (d + 8) t σ hc law (nI 0)) meX4_weigh mlX4_40 (by rfl) ⟨_, rfl, rfl⟩ rfl rfl (by simp) ⟨Nat.le_refl _, Nat.le_refl _⟩ dX4_find_3 rfl ?_
  rintro r sh2 σ1 ⟨rfl, rfl, u1, u2⟩
  refine g_al0 (pc2 := 7) dX4_find_6 rfl ?_
  refine g_callV (pc2 := 10) (hd ▸ R_c_start l (d + (7 - N)) t σ1 law (nI 0) (hc.off (fun x hx => u1 x (by omega))) u2) meX4_start mlX4_44 (by rfl) ⟨_, rfl, rfl⟩ rfl rfl (by simp) ⟨Nat.le_refl _, Nat.le_refl _⟩ dX4_find_7 rfl ?_
  rintro r sh2 σ2 ⟨rfl, rfl, v1, v2, v3⟩
  exact g_ret dX4_find_10 rfl (Nat.le_refl _) (Nat.le_refl _) ⟨rfl, rfl, ⟨fun a ha => (v1 a (by omega) (by omega) (by omega) (by omega)).trans (u1 a (by omega)), fun k hk => (v2 k hk).trans (congrFun (u1 39 (by decide)) k)⟩, v3.got⟩
theorem R_c_findAvoiding (l : lt_L) (d : Nat) (t : lt_H) (σ : lt_S) {w : Nat → Int32} {ln T N : Nat} (hc : CC σ w ln T N) (nt : Int32) : lt_R l (d + 12) 0 0 mX4_findAvoiding (lt_SC ++ t) σ [.ref 39, .int nt] (fun r sh' σ' => r = none ∧ sh' = lt_SC ++ t ∧ FC σ σ' w (nI 0) nt T N) := by
  refine lt_R.of [some (.ref 39), some (.int nt)] rfl rfl (Nat.le_of_ble_eq_true rfl) ?_
  have hN := hc.1.2.2.1
  have hd : d + (7 - N) + N + 4 = d + 11 := by omega
  refine g_al0 (pc2 := 1) dX4_findAvoiding_0 rfl ?_
  refine g_iconst (pc2 := 2) dX4_findAvoiding_1 k_iconst_0 rfl ?_
  refine g_il1 (pc2 := 3) dX4_findAvoiding_2 rfl ?_
  refine g_callV (pc2 := 6) (R_c_weigh l (d + 8) t σ hc (nI 0) nt) meX4_weigh mlX4_40 (by rfl) ⟨_, rfl, rfl⟩ rfl rfl (by simp) ⟨Nat.le_refl _, Nat.le_refl _⟩ dX4_findAvoiding_3 rfl ?_
  rintro r sh2 σ1 ⟨rfl, rfl, u1, u2⟩
  refine g_al0 (pc2 := 7) dX4_findAvoiding_6 rfl ?_
  refine g_callV (pc2 := 10) (hd ▸ R_c_start l (d + (7 - N)) t σ1 (nI 0) nt (hc.off (fun x hx => u1 x (by omega))) u2) meX4_start mlX4_44 (by rfl) ⟨_, rfl, rfl⟩ rfl rfl (by simp) ⟨Nat.le_refl _, Nat.le_refl _⟩ dX4_findAvoiding_7 rfl ?_
  rintro r sh2 σ2 ⟨rfl, rfl, v1, v2, v3⟩
  exact g_ret dX4_findAvoiding_10 rfl (Nat.le_refl _) (Nat.le_refl _) ⟨rfl, rfl, ⟨fun a ha => (v1 a (by omega) (by omega) (by omega) (by omega)).trans (u1 a (by omega)), fun k hk => (v2 k hk).trans (congrFun (u1 39 (by decide)) k)⟩, v3.got⟩
theorem asT_4 {o : Nat} (ho : o < 5) : asT o = -4 ↔ o = 4 := by
  unfold asT
  split
  · next h => exact ⟨fun _ => h, fun _ => rfl⟩
  · next h => exact ⟨fun e => absurd e (m4_ne (by omega)), fun e => absurd e h⟩
theorem R_c_trackless (l : lt_L) (d : Nat) (t : lt_H) (σ : lt_S) {N : Nat} (hN : σ 13 2 = nI N) (hN7 : N ≤ 7) (g : Nat → Nat) (hg : ∀ j, j < N → σ 43 j = asT (g j) ∧ g j < 5) : lt_T l (d + 1) mX4_trackless (lt_SC ++ t) σ [.ref 39] (some (nI (noneN g N))) σ := by
  refine lt_T.of [some (.ref 39), none, none] rfl rfl (Nat.le_of_ble_eq_true rfl) ?_
  unfold noneN
  have key : ∀ k, k ≤ N → lt_g l (d + 1) mX4_trackless (lt_SC ++ t) σ 4 [some (.ref 39), some (.int (nI (sumF (fun i => decide (g i = 4)) k))), some (.int (nI k))] [] (some (nI (sumF (fun i => decide (g i = 4)) N))) σ := by
    refine lt_dn N ?_ ?_
    · refine g_il2 (pc2 := 5) dX4_trackless_4 rfl ?_
      refine g_al0 (pc2 := 6) dX4_trackless_5 rfl ?_
      refine g_getr (pc2 := 9) (by rfl) (by rfl) flX4_28 dX4_trackless_6 rfl ?_
      refine g_geti (pc2 := 12) (by rfl) (by rfl) flX4_47 dX4_trackless_9 rfl ?_
      rw [hN]
      refine g_icmpN_ge 35 15 dX4_trackless_12 rfl rfl (by omega) (by omega) (fun h12 => ?_) (fun h12 => ?_)
      · refine g_il1 (pc2 := 36) dX4_trackless_35 rfl ?_
        exact g_iretT dX4_trackless_36 rfl (Nat.le_refl _) (Nat.le_refl _) (rfl) (rfl)
      · omega
    · intro k hk ih
      have hk2 := hg k hk
      have e4 := asT_4 hk2.2
      refine g_il2 (pc2 := 5) dX4_trackless_4 rfl ?_
      refine g_al0 (pc2 := 6) dX4_trackless_5 rfl ?_
      refine g_getr (pc2 := 9) (by rfl) (by rfl) flX4_28 dX4_trackless_6 rfl ?_
      refine g_geti (pc2 := 12) (by rfl) (by rfl) flX4_47 dX4_trackless_9 rfl ?_
      rw [hN]
      refine g_icmpN_ge 35 15 dX4_trackless_12 rfl rfl (by omega) (by omega) (fun h12 => ?_) (fun h12 => ?_)
      · omega
      · refine g_al0 (pc2 := 16) dX4_trackless_15 rfl ?_
        refine g_getr (pc2 := 19) (by rfl) (by rfl) flX4_21 dX4_trackless_16 rfl ?_
        refine g_il2 (pc2 := 20) dX4_trackless_19 rfl ?_
        refine g_iald (pc2 := 21) (by rfl) (by omega) (by decide) dX4_trackless_20 rfl ?_
        rw [hk2.1]
        refine g_bipush (pc2 := 23) dX4_trackless_21 k_bipush_m4 rfl ?_
        refine g_icmp_ne 29 26 dX4_trackless_23 rfl rfl (fun h23 => ?_) (fun h23 => ?_)
        · refine g_in2 (pc2 := 32) dX4_trackless_29 (nI_inc _) (by decide) rfl ?_
          refine g_goto 4 dX4_trackless_32 rfl ?_
          simp only [sumF] at ih
          first | (rw [if_neg (by rw [decide_eq_true_eq]; exact fun q => h23 (e4.mpr q))] at ih; exact ih) | (rw [if_pos (by rw [decide_eq_true_eq]; exact e4.mp h23)] at ih; exact ih)
        · refine g_in1 (pc2 := 29) dX4_trackless_26 (nI_inc _) (by decide) rfl ?_
          refine g_in2 (pc2 := 32) dX4_trackless_29 (nI_inc _) (by decide) rfl ?_
          refine g_goto 4 dX4_trackless_32 rfl ?_
          simp only [sumF] at ih
          first | (rw [if_neg (by rw [decide_eq_true_eq]; exact fun q => h23 (e4.mpr q))] at ih; exact ih) | (rw [if_pos (by rw [decide_eq_true_eq]; exact e4.mp h23)] at ih; exact ih)
  refine g_iconst (pc2 := 1) dX4_trackless_0 k_iconst_0 rfl ?_
  refine g_is1 (pc2 := 2) dX4_trackless_1 (by decide) rfl ?_
  refine g_iconst (pc2 := 3) dX4_trackless_2 k_iconst_0 rfl ?_
  refine g_is2 (pc2 := 4) dX4_trackless_3 (by decide) rfl ?_
  exact key 0 (Nat.zero_le _)
theorem hasB_2 (x : Int32) : hasB x (nI 2) = (decide (x = 0) || decide (x = nI 1)) := by
  cases h : hasB x (nI 2) with
  | true =>
    obtain ⟨j, hj, rfl⟩ := hasB_ix (by decide) h
    rcases (show j = 0 ∨ j = 1 by omega) with rfl | rfl <;> decide
  | false =>
    symm
    rw [Bool.or_eq_false_iff, decide_eq_false_iff_not, decide_eq_false_iff_not]
    refine ⟨fun e => ?_, fun e => ?_⟩ <;> rw [e] at h <;> exact absurd h (by decide)
theorem asT_or {o : Nat} (ho : o < 5) : asT o = -4 ∨ ∃ t, t < 5 ∧ asT o = nI t := by
  unfold asT
  split
  · exact Or.inl rfl
  · exact Or.inr ⟨o, ho, rfl⟩
theorem R_c_way (l : lt_L) (d : Nat) (t : lt_H) (σ : lt_S) {w : Nat → Int32} {ln T N : Nat} (hc : CC σ w ln T N) (law i : Int32) : lt_R l (d + 13) 0 0 mX7_way (lt_SC ++ t) σ [.ref 10, .int law, .int i] (fun r sh' σ' => r = some (F_way w T N law i) ∧ sh' = lt_SC ++ t ∧ Scrc σ σ') := by
  refine lt_R.of [some (.ref 10), some (.int law), some (.int i)] rfl rfl (Nat.le_of_ble_eq_true rfl) ?_
  have hN := hc.1.2.2.1
  have e2 : σ 13 2 = w 2 := hc.2.1.1.2.2.1
  have hL := hasB_2 law
  have fin : wayOk w law i = true → lt_G l (d + 13) 0 0 mX7_way 0 0 (lt_SC ++ t) σ 28 [some (.ref 10), some (.int law), some (.int i)] [] (fun r sh' σ' => r = some (F_way w T N law i) ∧ sh' = lt_SC ++ t ∧ Scrc σ σ') := by
    intro hok
    have go : ∀ σ1, FC σ σ1 w law (nI 0) T N → lt_G l (d + 13) 0 0 mX7_way 0 0 (lt_SC ++ t) σ1 36 [some (.ref 10), some (.int law), some (.int i)] [] (fun r sh' σ' => r = some (F_way w T N law i) ∧ sh' = lt_SC ++ t ∧ Scrc σ σ') := by
      intro σ1 hfc
      have hsc := hfc.1
      have g2 := hfc.2
      have hc1 := hc.off (σ' := σ1) (fun x hx => hsc.1 x (Or.inl hx))
      have hN1 : σ1 13 2 = nI N := hc1.2.1.1.2.2.1.trans hN.1
      rcases wayOk_cases hN.1 hN.2 hok with rfl | rfl | rfl | ⟨j, hj, rfl⟩
      · have eF : F_way w T N law (-1) = nI (noneN (wayG w law (nI 0) T N) N) := by unfold F_way; rw [if_pos hok, if_pos rfl]
        refine g_il2 (pc2 := 37) dX7_way_36 rfl ?_
        refine g_tableIn 64 dX7_way_37 (by decide) (by decide) (off := 27) (by decide) rfl ?_
        refine g_al0 (pc2 := 65) dX7_way_64 rfl ?_
        refine g_getr (pc2 := 68) (by rfl) (by rfl) flX7_56 dX7_way_65 rfl ?_
        refine g_cVi (pc2 := 71) (R_c_trackless l (d + 11) _ _ hN1 hN.2 _ g2) meX4_trackless mlX7_187 (by rfl) ⟨_, rfl, rfl⟩ rfl rfl (by simp) ⟨Nat.le_refl _, Nat.le_refl _⟩ dX7_way_68 rfl ?_
        exact g_iret dX7_way_71 rfl (Nat.le_refl _) (Nat.le_refl _) ⟨congrArg some (by rw [eF]), rfl, hsc⟩
      · have eF : F_way w T N law (-2) = nI (pf_gotWish w (wayG w law (nI 0) T N) N) := by unfold F_way; rw [if_pos hok, if_neg (by decide), if_pos rfl]
        refine g_il2 (pc2 := 37) dX7_way_36 rfl ?_
        refine g_tableIn 72 dX7_way_37 (by decide) (by decide) (off := 35) (by decide) rfl ?_
        refine g_al0 (pc2 := 73) dX7_way_72 rfl ?_
        refine g_al0 (pc2 := 74) dX7_way_73 rfl ?_
        refine g_getr (pc2 := 77) (by rfl) (by rfl) flX7_56 dX7_way_74 rfl ?_
        refine g_getr (pc2 := 80) (by rfl) (by rfl) flX7_190 dX7_way_77 rfl ?_
        refine g_cVi (pc2 := 83) (R_c_wishesMet43 l (d + 11) _ _ hc1 (fun i => asT (wayG w law (nI 0) T N i)) (fun i hi => ⟨(g2 i hi).1, asT_or (g2 i hi).2⟩)) meX7_wishesMet mlX7_193 (by rfl) ⟨_, rfl, rfl⟩ rfl rfl (by simp) ⟨Nat.le_refl _, Nat.le_refl _⟩ dX7_way_80 rfl ?_
        exact g_iret dX7_way_83 rfl (Nat.le_refl _) (Nat.le_refl _) ⟨congrArg some (by rw [eF]; rfl), rfl, hsc⟩
      · have eF : F_way w T N law (-3) = nI (pf_other w (wayG w law (nI 0) T N) N) := by unfold F_way; rw [if_pos hok, if_neg (by decide), if_neg (by decide), if_pos rfl]
        refine g_il2 (pc2 := 37) dX7_way_36 rfl ?_
        refine g_tableIn 84 dX7_way_37 (by decide) (by decide) (off := 47) (by decide) rfl ?_
        refine g_al0 (pc2 := 85) dX7_way_84 rfl ?_
        refine g_al0 (pc2 := 86) dX7_way_85 rfl ?_
        refine g_getr (pc2 := 89) (by rfl) (by rfl) flX7_56 dX7_way_86 rfl ?_
        refine g_getr (pc2 := 92) (by rfl) (by rfl) flX7_190 dX7_way_89 rfl ?_
        refine g_cVi (pc2 := 95) (R_c_movedBy l (d + 11) _ _ hc1 (fun i => asT (wayG w law (nI 0) T N i)) (fun i hi => (g2 i hi).1)) meX7_movedBy mlX7_197 (by rfl) ⟨_, rfl, rfl⟩ rfl rfl (by simp) ⟨Nat.le_refl _, Nat.le_refl _⟩ dX7_way_92 rfl ?_
        exact g_iret dX7_way_95 rfl (Nat.le_refl _) (Nat.le_refl _) ⟨congrArg some (by rw [eF]; rfl), rfl, hsc⟩
      · have hj31 : (nI j).toInt = j := nI_toInt (by omega)
        have nm : ∀ x : Int32, x.toInt < 0 → ¬ nI j = x := fun x hx e => by rw [← e, hj31] at hx; omega
        have eF : F_way w T N law (nI j) = asT (wayG w law (nI 0) T N j) := by unfold F_way; rw [if_pos hok, if_neg (nm _ (by decide)), if_neg (nm _ (by decide)), if_neg (nm _ (by decide)), tN_nI (by omega)]
        have hj2 := g2 j hj
        refine g_il2 (pc2 := 37) dX7_way_36 rfl ?_
        refine g_tableOut 96 dX7_way_37 (Or.inr (by rw [hj31]; omega)) rfl ?_
        refine g_al0 (pc2 := 97) dX7_way_96 rfl ?_
        refine g_getr (pc2 := 100) (by rfl) (by rfl) flX7_56 dX7_way_97 rfl ?_
        refine g_getr (pc2 := 103) (by rfl) (by rfl) flX7_190 dX7_way_100 rfl ?_
        refine g_il2 (pc2 := 104) dX7_way_103 rfl ?_
        refine g_iald (pc2 := 105) (by rfl) (by omega) (by decide) dX7_way_104 rfl ?_
        exact g_iret dX7_way_105 rfl (Nat.le_refl _) (Nat.le_refl _) ⟨congrArg some (by rw [eF]; exact hj2.1), rfl, hsc⟩
    refine g_al0 (pc2 := 29) dX7_way_28 rfl ?_
    refine g_getr (pc2 := 32) (by rfl) (by rfl) flX7_56 dX7_way_29 rfl ?_
    refine g_il1 (pc2 := 33) dX7_way_32 rfl ?_
    refine g_callV (pc2 := 36) (R_c_find l d t σ hc law) meX4_find mlX7_183 (by rfl) ⟨_, rfl, rfl⟩ rfl rfl (by simp) ⟨Nat.le_refl _, Nat.le_refl _⟩ dX7_way_33 rfl ?_
    rintro r sh2 σ1 ⟨rfl, rfl, hfc⟩
    exact go σ1 hfc
  refine g_il1 (pc2 := 1) dX7_way_0 rfl ?_
  refine g_if_eq 9 4 dX7_way_1 rfl rfl (fun h1 => ?_) (fun h1 => ?_)
  · refine g_il2 (pc2 := 10) dX7_way_9 rfl ?_
    refine g_bipush (pc2 := 12) dX7_way_10 k_bipush_m3 rfl ?_
    refine g_icmp_lt 26 15 dX7_way_12 rfl rfl (fun h12 => ?_) (fun h12 => ?_)
    · refine g_iconst (pc2 := 27) dX7_way_26 k_iconst_m1 rfl ?_
      refine g_iret dX7_way_27 rfl (Nat.le_refl _) (Nat.le_refl _) ⟨congrArg some ?_, rfl, Scrc.rf σ⟩
      unfold F_way
      rw [if_neg]
      unfold wayOk
      rw [hL]
      first | (rw [decide_eq_false h1, decide_eq_false h6]; simp; done) | (rw [decide_eq_true h12]; simp; done) | (rw [decide_eq_true (Int32.not_lt.mp h23)]; simp; done)
    · refine g_il2 (pc2 := 16) dX7_way_15 rfl ?_
      refine g_al0 (pc2 := 17) dX7_way_16 rfl ?_
      refine g_getr (pc2 := 20) (by rfl) (by rfl) flX7_19 dX7_way_17 rfl ?_
      refine g_geti (pc2 := 23) (by rfl) (by rfl) flX7_109 dX7_way_20 rfl ?_
      rw [e2]
      refine g_icmp_lt 28 26 dX7_way_23 rfl rfl (fun h23 => ?_) (fun h23 => ?_)
      · refine fin ?_
        unfold wayOk
        rw [hL]
        first | (rw [decide_eq_true h1, decide_eq_false h12, decide_eq_false (Int32.not_le.mpr h23)]; rfl) | (rw [decide_eq_true h6, decide_eq_false h12, decide_eq_false (Int32.not_le.mpr h23)]; simp)
      · refine g_iconst (pc2 := 27) dX7_way_26 k_iconst_m1 rfl ?_
        refine g_iret dX7_way_27 rfl (Nat.le_refl _) (Nat.le_refl _) ⟨congrArg some ?_, rfl, Scrc.rf σ⟩
        unfold F_way
        rw [if_neg]
        unfold wayOk
        rw [hL]
        first | (rw [decide_eq_false h1, decide_eq_false h6]; simp; done) | (rw [decide_eq_true h12]; simp; done) | (rw [decide_eq_true (Int32.not_lt.mp h23)]; simp; done)
  · refine g_il1 (pc2 := 5) dX7_way_4 rfl ?_
    refine g_iconst (pc2 := 6) dX7_way_5 k_iconst_1 rfl ?_
    refine g_icmp_ne 26 9 dX7_way_6 rfl rfl (fun h6 => ?_) (fun h6 => ?_)
    · refine g_iconst (pc2 := 27) dX7_way_26 k_iconst_m1 rfl ?_
      refine g_iret dX7_way_27 rfl (Nat.le_refl _) (Nat.le_refl _) ⟨congrArg some ?_, rfl, Scrc.rf σ⟩
      unfold F_way
      rw [if_neg]
      unfold wayOk
      rw [hL]
      first | (rw [decide_eq_false h1, decide_eq_false h6]; simp; done) | (rw [decide_eq_true h12]; simp; done) | (rw [decide_eq_true (Int32.not_lt.mp h23)]; simp; done)
    · refine g_il2 (pc2 := 10) dX7_way_9 rfl ?_
      refine g_bipush (pc2 := 12) dX7_way_10 k_bipush_m3 rfl ?_
      refine g_icmp_lt 26 15 dX7_way_12 rfl rfl (fun h12 => ?_) (fun h12 => ?_)
      · refine g_iconst (pc2 := 27) dX7_way_26 k_iconst_m1 rfl ?_
        refine g_iret dX7_way_27 rfl (Nat.le_refl _) (Nat.le_refl _) ⟨congrArg some ?_, rfl, Scrc.rf σ⟩
        unfold F_way
        rw [if_neg]
        unfold wayOk
        rw [hL]
        first | (rw [decide_eq_false h1, decide_eq_false h6]; simp; done) | (rw [decide_eq_true h12]; simp; done) | (rw [decide_eq_true (Int32.not_lt.mp h23)]; simp; done)
      · refine g_il2 (pc2 := 16) dX7_way_15 rfl ?_
        refine g_al0 (pc2 := 17) dX7_way_16 rfl ?_
        refine g_getr (pc2 := 20) (by rfl) (by rfl) flX7_19 dX7_way_17 rfl ?_
        refine g_geti (pc2 := 23) (by rfl) (by rfl) flX7_109 dX7_way_20 rfl ?_
        rw [e2]
        refine g_icmp_lt 28 26 dX7_way_23 rfl rfl (fun h23 => ?_) (fun h23 => ?_)
        · refine fin ?_
          unfold wayOk
          rw [hL]
          first | (rw [decide_eq_true h1, decide_eq_false h12, decide_eq_false (Int32.not_le.mpr h23)]; rfl) | (rw [decide_eq_true h6, decide_eq_false h12, decide_eq_false (Int32.not_le.mpr h23)]; simp)
        · refine g_iconst (pc2 := 27) dX7_way_26 k_iconst_m1 rfl ?_
          refine g_iret dX7_way_27 rfl (Nat.le_refl _) (Nat.le_refl _) ⟨congrArg some ?_, rfl, Scrc.rf σ⟩
          unfold F_way
          rw [if_neg]
          unfold wayOk
          rw [hL]
          first | (rw [decide_eq_false h1, decide_eq_false h6]; simp; done) | (rw [decide_eq_true h12]; simp; done) | (rw [decide_eq_true (Int32.not_lt.mp h23)]; simp; done)
theorem R_c_without (l : lt_L) (d : Nat) (t : lt_H) (σ : lt_S) {w : Nat → Int32} {ln T N : Nat} (hc : CC σ w ln T N) (s : Int32) : lt_R l (d + 13) 0 0 mX7_without (lt_SC ++ t) σ [.ref 10, .int s] (fun r sh' σ' => r = some (if hasB s (nI 12) then nI (noneN (wayG w (nI 0) (nI 1 <<< (s &&& 31)) T N) N) else -1) ∧ sh' = lt_SC ++ t ∧ Scrc σ σ') := by
  refine lt_R.of [some (.ref 10), some (.int s)] rfl rfl (Nat.le_of_ble_eq_true rfl) ?_
  have hN := hc.1.2.2.1
  have go : ∀ σ1, FC σ σ1 w (nI 0) (nI 1 <<< (s &&& 31)) T N → hasB s (nI 12) = true → lt_G l (d + 13) 0 0 mX7_without 0 0 (lt_SC ++ t) σ1 22 [some (.ref 10), some (.int s)] [] (fun r sh' σ' => r = some (if hasB s (nI 12) then nI (noneN (wayG w (nI 0) (nI 1 <<< (s &&& 31)) T N) N) else -1) ∧ sh' = lt_SC ++ t ∧ Scrc σ σ') := by
    intro σ1 hfc h
    have hsc := hfc.1
    have g2 := hfc.2
    have hc1 := hc.off (σ' := σ1) (fun x hx => hsc.1 x (Or.inl hx))
    have hN1 : σ1 13 2 = nI N := hc1.2.1.1.2.2.1.trans hN.1
    refine g_al0 (pc2 := 23) dX7_without_22 rfl ?_
    refine g_getr (pc2 := 26) (by rfl) (by rfl) flX7_56 dX7_without_23 rfl ?_
    refine g_cVi (pc2 := 29) (R_c_trackless l (d + 11) _ _ hN1 hN.2 _ g2) meX4_trackless mlX7_187 (by rfl) ⟨_, rfl, rfl⟩ rfl rfl (by simp) ⟨Nat.le_refl _, Nat.le_refl _⟩ dX7_without_26 rfl ?_
    exact g_iret dX7_without_29 rfl (Nat.le_refl _) (Nat.le_refl _) ⟨congrArg some (by rw [if_pos h]), rfl, hsc⟩
  refine g_il1 (pc2 := 1) dX7_without_0 rfl ?_
  refine g_if_lt 10 4 dX7_without_1 rfl rfl (fun h1 => ?_) (fun h1 => ?_)
  · refine g_iconst (pc2 := 11) dX7_without_10 k_iconst_m1 rfl ?_
    exact g_iret dX7_without_11 rfl (Nat.le_refl _) (Nat.le_refl _) ⟨congrArg some (by rw [if_neg (by unfold hasB; first | (rw [decide_eq_true h1]; simp; done) | (rw [decide_eq_true (Int32.not_lt.mp h7)]; simp; done))]), rfl, Scrc.rf σ⟩
  · refine g_il1 (pc2 := 5) dX7_without_4 rfl ?_
    refine g_bipush (pc2 := 7) dX7_without_5 k_bipush_12 rfl ?_
    refine g_icmp_lt 12 10 dX7_without_7 rfl rfl (fun h7 => ?_) (fun h7 => ?_)
    · refine g_al0 (pc2 := 13) dX7_without_12 rfl ?_
      refine g_getr (pc2 := 16) (by rfl) (by rfl) flX7_56 dX7_without_13 rfl ?_
      refine g_iconst (pc2 := 17) dX7_without_16 k_iconst_1 rfl ?_
      refine g_il1 (pc2 := 18) dX7_without_17 rfl ?_
      refine g_ishl (pc2 := 19) dX7_without_18 rfl ?_
      refine g_callV (pc2 := 22) (R_c_findAvoiding l d t σ hc _) meX4_findAvoiding mlX7_206 (by rfl) ⟨_, rfl, rfl⟩ rfl rfl (by simp) ⟨Nat.le_refl _, Nat.le_refl _⟩ dX7_without_19 rfl ?_
      rintro r sh2 σ1 ⟨rfl, rfl, hfc⟩
      exact go σ1 hfc (by unfold hasB; rw [decide_eq_false h1, decide_eq_false (Int32.not_le.mpr h7)]; rfl)
    · refine g_iconst (pc2 := 11) dX7_without_10 k_iconst_m1 rfl ?_
      exact g_iret dX7_without_11 rfl (Nat.le_refl _) (Nat.le_refl _) ⟨congrArg some (by rw [if_neg (by unfold hasB; first | (rw [decide_eq_true h1]; simp; done) | (rw [decide_eq_true (Int32.not_lt.mp h7)]; simp; done))]), rfl, Scrc.rf σ⟩
theorem R_c_adopt (l : lt_L) (d : Nat) (t : lt_H) (σ : lt_S) {w : Nat → Int32} {ln T N nx c : Nat} (hc : CC σ w ln T N) (hk : KP σ nx c) (law : Int32) : lt_R l (d + 13) 0 0 mX7_adopt (lt_SC ++ t) σ [.ref 10, .int law] (fun r sh' σ' => r = some (F_adopt w T N law) ∧ sh' = lt_SC ++ t ∧ (if hasB law (nI 2) then ∃ σ1, Scrc σ σ1 ∧ (∀ j, j < N → σ1 43 j = asT (wayG w law (nI 0) T N j)) ∧ σ' = lt_ur (S_ckeep σ1 nx c) 22 (va_cpy (σ1 43) (σ1 22) 0 0 N) else σ' = σ)) := by
  refine lt_R.of [some (.ref 10), some (.int law), none] rfl rfl (Nat.le_of_ble_eq_true rfl) ?_
  have hN := hc.1.2.2.1
  have hL := hasB_2 law
  cases hb : hasB law (nI 2) with
  | false =>
    rw [hb] at hL
    have hL2 := Bool.or_eq_false_iff.mp hL.symm
    have n0 := decide_eq_false_iff_not.mp hL2.1
    have n1 := decide_eq_false_iff_not.mp hL2.2
    refine g_il1 (pc2 := 1) dX7_adopt_0 rfl ?_
    refine g_if_eq 11 4 dX7_adopt_1 rfl rfl (fun h1 => ?_) (fun h1 => ?_)
    · exact absurd h1 n0
    · refine g_il1 (pc2 := 5) dX7_adopt_4 rfl ?_
      refine g_iconst (pc2 := 6) dX7_adopt_5 k_iconst_1 rfl ?_
      refine g_icmp_eq 11 9 dX7_adopt_6 rfl rfl (fun h6 => ?_) (fun h6 => ?_)
      · exact absurd h6 n1
      · refine g_iconst (pc2 := 10) dX7_adopt_9 k_iconst_m1 rfl ?_
        exact g_iret dX7_adopt_10 rfl (Nat.le_refl _) (Nat.le_refl _) ⟨congrArg some (by unfold F_adopt; rw [hb]; rfl), rfl, rfl⟩
  | true =>
    have eF : F_adopt w T N law = nI (pf_other w (wayG w law (nI 0) T N) N) := by unfold F_adopt; rw [if_pos hb]
    rw [eF]
    have go : ∀ σ1, FC σ σ1 w law (nI 0) T N → lt_G l (d + 13) 0 0 mX7_adopt 0 0 (lt_SC ++ t) σ1 19 [some (.ref 10), some (.int law), none] [] (fun r sh' σ' => r = some (nI (pf_other w (wayG w law (nI 0) T N) N)) ∧ sh' = lt_SC ++ t ∧ (if true = true then ∃ σ1, Scrc σ σ1 ∧ (∀ j, j < N → σ1 43 j = asT (wayG w law (nI 0) T N j)) ∧ σ' = lt_ur (S_ckeep σ1 nx c) 22 (va_cpy (σ1 43) (σ1 22) 0 0 N) else σ' = σ)) := by
      intro σ1 hfc
      have hsc := hfc.1
      have g2 := hfc.2
      have hc1 := hc.off (σ' := σ1) (fun x hx => hsc.1 x (Or.inl hx))
      have hk1 : KP σ1 nx c := by
        unfold KP
        rw [hsc.1 44 (by decide)]
        exact hk
      have hx := hk.2.1
      generalize hσ2 : S_ckeep σ1 nx c = σ2
      have o2 : ∀ a, a < 44 → σ2 a = σ1 a := fun a ha => by rw [← hσ2]; exact S_ckeep_ne σ1 (Or.inl ha) hx
      have hN2 : σ2 13 2 = nI N := by rw [o2 13 (by decide)]; exact hc1.2.1.1.2.2.1.trans hN.1
      refine g_al0 (pc2 := 20) dX7_adopt_19 rfl ?_
      refine g_al0 (pc2 := 21) dX7_adopt_20 rfl ?_
      refine g_getr (pc2 := 24) (by rfl) (by rfl) flX7_56 dX7_adopt_21 rfl ?_
      refine g_getr (pc2 := 27) (by rfl) (by rfl) flX7_190 dX7_adopt_24 rfl ?_
      refine g_cVi (pc2 := 30) (R_c_movedBy l (d + 11) _ _ hc1 (fun i => asT (wayG w law (nI 0) T N i)) (fun i hi => (g2 i hi).1)) meX7_movedBy mlX7_197 (by rfl) ⟨_, rfl, rfl⟩ rfl rfl (by simp) ⟨Nat.le_refl _, Nat.le_refl _⟩ dX7_adopt_27 rfl ?_
      refine g_is2 (pc2 := 31) dX7_adopt_30 (by decide) rfl ?_
      refine g_al0 (pc2 := 32) dX7_adopt_31 rfl ?_
      refine g_getr (pc2 := 35) (by rfl) (by rfl) flX7_63 dX7_adopt_32 rfl ?_
      refine g_al0 (pc2 := 36) dX7_adopt_35 rfl ?_
      refine g_getr (pc2 := 39) (by rfl) (by rfl) flX7_26 dX7_adopt_36 rfl ?_
      refine g_cVv (pc2 := 42) (R_c_keep l (d + 10) _ _ hk1) meX1_keep mlX7_163 (by rfl) ⟨_, rfl, rfl⟩ rfl rfl (by simp) ⟨Nat.le_refl _, Nat.le_refl _⟩ dX7_adopt_39 rfl ?_
      rw [hσ2]
      refine g_al0 (pc2 := 43) dX7_adopt_42 rfl ?_
      refine g_getr (pc2 := 46) (by rfl) (by rfl) flX7_56 dX7_adopt_43 rfl ?_
      refine g_getr (pc2 := 49) (by rfl) (by rfl) flX7_190 dX7_adopt_46 rfl ?_
      refine g_iconst (pc2 := 50) dX7_adopt_49 k_iconst_0 rfl ?_
      refine g_al0 (pc2 := 51) dX7_adopt_50 rfl ?_
      refine g_getr (pc2 := 54) (by rfl) (by rfl) flX7_26 dX7_adopt_51 rfl ?_
      refine g_getr (pc2 := 57) (by rfl) (by rfl) flX7_144 dX7_adopt_54 rfl ?_
      refine g_iconst (pc2 := 58) dX7_adopt_57 k_iconst_0 rfl ?_
      refine g_al0 (pc2 := 59) dX7_adopt_58 rfl ?_
      refine g_getr (pc2 := 62) (by rfl) (by rfl) flX7_19 dX7_adopt_59 rfl ?_
      refine g_geti (pc2 := 65) (by rfl) (by rfl) flX7_109 dX7_adopt_62 rfl ?_
      rw [hN2]
      refine g_copy (pc2 := 68) (by rfl) (by rfl) (by omega) (by omega) (by decide) (by decide) mlX7_200 ac_1 ac_2 ac_3 (by simp) (by omega) dX7_adopt_65 rfl ?_
      refine g_il2 (pc2 := 69) dX7_adopt_68 rfl ?_
      refine g_iret dX7_adopt_69 rfl (Nat.le_refl _) (Nat.le_refl _) ⟨rfl, rfl, σ1, hsc, fun j hj => (g2 j hj).1, ?_⟩
      rw [hσ2, o2 43 (by decide), o2 22 (by decide)]
    refine g_il1 (pc2 := 1) dX7_adopt_0 rfl ?_
    refine g_if_eq 11 4 dX7_adopt_1 rfl rfl (fun h1 => ?_) (fun h1 => ?_)
    · refine g_al0 (pc2 := 12) dX7_adopt_11 rfl ?_
      refine g_getr (pc2 := 15) (by rfl) (by rfl) flX7_56 dX7_adopt_12 rfl ?_
      refine g_il1 (pc2 := 16) dX7_adopt_15 rfl ?_
      refine g_callV (pc2 := 19) (R_c_find l d t σ hc law) meX4_find mlX7_183 (by rfl) ⟨_, rfl, rfl⟩ rfl rfl (by simp) ⟨Nat.le_refl _, Nat.le_refl _⟩ dX7_adopt_16 rfl ?_
      rintro r sh2 σ1 ⟨rfl, rfl, hfc⟩
      exact go σ1 hfc
    · refine g_il1 (pc2 := 5) dX7_adopt_4 rfl ?_
      refine g_iconst (pc2 := 6) dX7_adopt_5 k_iconst_1 rfl ?_
      refine g_icmp_eq 11 9 dX7_adopt_6 rfl rfl (fun h6 => ?_) (fun h6 => ?_)
      · refine g_al0 (pc2 := 12) dX7_adopt_11 rfl ?_
        refine g_getr (pc2 := 15) (by rfl) (by rfl) flX7_56 dX7_adopt_12 rfl ?_
        refine g_il1 (pc2 := 16) dX7_adopt_15 rfl ?_
        refine g_callV (pc2 := 19) (R_c_find l d t σ hc law) meX4_find mlX7_183 (by rfl) ⟨_, rfl, rfl⟩ rfl rfl (by simp) ⟨Nat.le_refl _, Nat.le_refl _⟩ dX7_adopt_16 rfl ?_
        rintro r sh2 σ1 ⟨rfl, rfl, hfc⟩
        exact go σ1 hfc
      · exact absurd (hb.symm.trans hL) (by rw [decide_eq_false h1, decide_eq_false h6]; decide)
