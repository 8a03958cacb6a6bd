/-! the class: a text's first fault, what is laid -/

theorem CR23.same {σ σ' : lt_S} {r : Nat → Int32} (h : CR23 σ r) (he : ∀ a, (13 ≤ a ∧ a ≤ 17) ∨ (19 ≤ a ∧ a ≤ 22) → σ' a = σ a) : CR23 σ' r := by
  unfold CR23 CY CP at h ⊢
  rw [he 13 (by decide), he (13 + 1) (by decide), he (13 + 2) (by decide), he (13 + 3) (by decide), he (13 + 4) (by decide), he (18 + 1) (by decide), he (18 + 2) (by decide), he (18 + 3) (by decide), he (18 + 4) (by decide)]
  exact h
theorem R_c_isTold23 (l : lt_L) (d : Nat) (t : lt_H) (σ : lt_S) {r : Nat → Int32} {ln T N : Nat} {ns : List Nat} (h : In23 σ r ln T N ns) (k : Nat) (hk : k < 5) : lt_R l (d + 4) 0 0 mX3_isTold (lt_SC ++ t) σ [.ref 23, .int (nI k)] (tQ23 t σ (itemR r k ns)) := by
  refine lt_R.of [some (.ref 23), some (.int (nI k))] rfl rfl (Nat.le_of_ble_eq_true rfl) ?_
  have y0 : σ 13 0 = r 0 := h.2.1.1.1.1
  have e0 : nI 0 = 0 := nI_0
  rcases (show k = 0 ∨ k = 1 ∨ k = 2 ∨ k = 3 ∨ k = 4 by omega) with rfl | rfl | rfl | rfl | rfl
  · refine g_il1 (pc2 := 1) dX3_isTold_0 rfl ?_
    refine g_if_ne 9 4 dX3_isTold_1 rfl rfl (fun h => absurd nI_0 h) (fun _ => ?_)
    refine g_al0 (pc2 := 5) dX3_isTold_4 rfl ?_
    refine g_callV (pc2 := 8) (R_c_tellYard23 l (d + 2) t σ h) meX3_tellYard mlX3_66 (by rfl) ⟨_, rfl, rfl⟩ rfl rfl (by simp) ⟨Nat.le_refl _, Nat.le_refl _⟩ dX3_isTold_5 rfl ?_
    rintro r' sh2 σ2 ⟨rfl, rfl, u1, u2⟩
    exact g_zret dX3_isTold_8 rfl (bI_nar _) (Nat.le_refl _) (Nat.le_refl _) ⟨rfl, rfl, u1, u2⟩
  · by_cases hr0 : r 0 = nI 0
    · rw [itemX hr0 1 (by decide)]
      refine g_il1 (pc2 := 1) dX3_isTold_0 rfl ?_
      refine g_if_ne 9 4 dX3_isTold_1 rfl rfl (fun _ => ?_) (fun h => absurd h (nI_ne0 (by decide) (by decide)))
      refine g_al0 (pc2 := 10) dX3_isTold_9 rfl ?_
      refine g_getr (pc2 := 13) (by rfl) (by rfl) flX3_23 dX3_isTold_10 rfl ?_
      refine g_geti (pc2 := 16) (by rfl) (by rfl) flX3_70 dX3_isTold_13 rfl ?_
      rw [y0]
      refine g_if_ne 21 19 dX3_isTold_16 rfl rfl (fun h16 => ?_) (fun h16 => ?_)
      · exact absurd (hr0.trans e0) h16
      · refine g_iconst (pc2 := 20) dX3_isTold_19 k_iconst_0 rfl ?_
        exact g_zret dX3_isTold_20 rfl (bI_nar false) (Nat.le_refl _) (Nat.le_refl _) tQ23_bad
    · refine g_il1 (pc2 := 1) dX3_isTold_0 rfl ?_
      refine g_if_ne 9 4 dX3_isTold_1 rfl rfl (fun _ => ?_) (fun h => absurd h (nI_ne0 (by decide) (by decide)))
      refine g_al0 (pc2 := 10) dX3_isTold_9 rfl ?_
      refine g_getr (pc2 := 13) (by rfl) (by rfl) flX3_23 dX3_isTold_10 rfl ?_
      refine g_geti (pc2 := 16) (by rfl) (by rfl) flX3_70 dX3_isTold_13 rfl ?_
      rw [y0]
      refine g_if_ne 21 19 dX3_isTold_16 rfl rfl (fun h16 => ?_) (fun h16 => ?_)
      · refine g_il1 (pc2 := 22) dX3_isTold_21 rfl ?_
        refine g_tableIn 52 dX3_isTold_22 (by decide) (by decide) (off := 30) (by decide) rfl ?_
        refine g_al0 (pc2 := 53) dX3_isTold_52 rfl ?_
        refine g_callV (pc2 := 56) (R_c_tellPath23 l (d + 1) t σ h hr0) meX3_tellPath mlX3_73 (by rfl) ⟨_, rfl, rfl⟩ rfl rfl (by simp) ⟨Nat.le_refl _, Nat.le_refl _⟩ dX3_isTold_53 rfl ?_
        rintro r' sh2 σ2 ⟨rfl, rfl, u1, u2⟩
        exact g_zret dX3_isTold_56 rfl (bI_nar _) (Nat.le_refl _) (Nat.le_refl _) ⟨rfl, rfl, u1, u2⟩
      · exact absurd (h16.trans e0.symm) hr0
  · by_cases hr0 : r 0 = nI 0
    · rw [itemX hr0 2 (by decide)]
      refine g_il1 (pc2 := 1) dX3_isTold_0 rfl ?_
      refine g_if_ne 9 4 dX3_isTold_1 rfl rfl (fun _ => ?_) (fun h => absurd h (nI_ne0 (by decide) (by decide)))
      refine g_al0 (pc2 := 10) dX3_isTold_9 rfl ?_
      refine g_getr (pc2 := 13) (by rfl) (by rfl) flX3_23 dX3_isTold_10 rfl ?_
      refine g_geti (pc2 := 16) (by rfl) (by rfl) flX3_70 dX3_isTold_13 rfl ?_
      rw [y0]
      refine g_if_ne 21 19 dX3_isTold_16 rfl rfl (fun h16 => ?_) (fun h16 => ?_)
      · exact absurd (hr0.trans e0) h16
      · refine g_iconst (pc2 := 20) dX3_isTold_19 k_iconst_0 rfl ?_
        exact g_zret dX3_isTold_20 rfl (bI_nar false) (Nat.le_refl _) (Nat.le_refl _) tQ23_bad
    · refine g_il1 (pc2 := 1) dX3_isTold_0 rfl ?_
      refine g_if_ne 9 4 dX3_isTold_1 rfl rfl (fun _ => ?_) (fun h => absurd h (nI_ne0 (by decide) (by decide)))
      refine g_al0 (pc2 := 10) dX3_isTold_9 rfl ?_
      refine g_getr (pc2 := 13) (by rfl) (by rfl) flX3_23 dX3_isTold_10 rfl ?_
      refine g_geti (pc2 := 16) (by rfl) (by rfl) flX3_70 dX3_isTold_13 rfl ?_
      rw [y0]
      refine g_if_ne 21 19 dX3_isTold_16 rfl rfl (fun h16 => ?_) (fun h16 => ?_)
      · refine g_il1 (pc2 := 22) dX3_isTold_21 rfl ?_
        refine g_tableIn 57 dX3_isTold_22 (by decide) (by decide) (off := 35) (by decide) rfl ?_
        refine g_al0 (pc2 := 58) dX3_isTold_57 rfl ?_
        refine g_callV (pc2 := 61) (R_c_tellTrain23 l d t σ h hr0) meX3_tellTrain mlX3_76 (by rfl) ⟨_, rfl, rfl⟩ rfl rfl (by simp) ⟨Nat.le_refl _, Nat.le_refl _⟩ dX3_isTold_58 rfl ?_
        rintro r' sh2 σ2 ⟨rfl, rfl, u1, u2⟩
        exact g_zret dX3_isTold_61 rfl (bI_nar _) (Nat.le_refl _) (Nat.le_refl _) ⟨rfl, rfl, u1, u2⟩
      · exact absurd (h16.trans e0.symm) hr0
  · by_cases hr0 : r 0 = nI 0
    · rw [itemX hr0 3 (by decide)]
      refine g_il1 (pc2 := 1) dX3_isTold_0 rfl ?_
      refine g_if_ne 9 4 dX3_isTold_1 rfl rfl (fun _ => ?_) (fun h => absurd h (nI_ne0 (by decide) (by decide)))
      refine g_al0 (pc2 := 10) dX3_isTold_9 rfl ?_
      refine g_getr (pc2 := 13) (by rfl) (by rfl) flX3_23 dX3_isTold_10 rfl ?_
      refine g_geti (pc2 := 16) (by rfl) (by rfl) flX3_70 dX3_isTold_13 rfl ?_
      rw [y0]
      refine g_if_ne 21 19 dX3_isTold_16 rfl rfl (fun h16 => ?_) (fun h16 => ?_)
      · exact absurd (hr0.trans e0) h16
      · refine g_iconst (pc2 := 20) dX3_isTold_19 k_iconst_0 rfl ?_
        exact g_zret dX3_isTold_20 rfl (bI_nar false) (Nat.le_refl _) (Nat.le_refl _) tQ23_bad
    · refine g_il1 (pc2 := 1) dX3_isTold_0 rfl ?_
      refine g_if_ne 9 4 dX3_isTold_1 rfl rfl (fun _ => ?_) (fun h => absurd h (nI_ne0 (by decide) (by decide)))
      refine g_al0 (pc2 := 10) dX3_isTold_9 rfl ?_
      refine g_getr (pc2 := 13) (by rfl) (by rfl) flX3_23 dX3_isTold_10 rfl ?_
      refine g_geti (pc2 := 16) (by rfl) (by rfl) flX3_70 dX3_isTold_13 rfl ?_
      rw [y0]
      refine g_if_ne 21 19 dX3_isTold_16 rfl rfl (fun h16 => ?_) (fun h16 => ?_)
      · refine g_il1 (pc2 := 22) dX3_isTold_21 rfl ?_
        refine g_tableIn 62 dX3_isTold_22 (by decide) (by decide) (off := 40) (by decide) rfl ?_
        refine g_al0 (pc2 := 63) dX3_isTold_62 rfl ?_
        refine g_callV (pc2 := 66) (R_c_tellPair23 l (d + 1) t σ h hr0) meX3_tellPair mlX3_79 (by rfl) ⟨_, rfl, rfl⟩ rfl rfl (by simp) ⟨Nat.le_refl _, Nat.le_refl _⟩ dX3_isTold_63 rfl ?_
        rintro r' sh2 σ2 ⟨rfl, rfl, u1, u2⟩
        exact g_zret dX3_isTold_66 rfl (bI_nar _) (Nat.le_refl _) (Nat.le_refl _) ⟨rfl, rfl, u1, u2⟩
      · exact absurd (h16.trans e0.symm) hr0
  · by_cases hr0 : r 0 = nI 0
    · rw [itemX hr0 4 (by decide)]
      refine g_il1 (pc2 := 1) dX3_isTold_0 rfl ?_
      refine g_if_ne 9 4 dX3_isTold_1 rfl rfl (fun _ => ?_) (fun h => absurd h (nI_ne0 (by decide) (by decide)))
      refine g_al0 (pc2 := 10) dX3_isTold_9 rfl ?_
      refine g_getr (pc2 := 13) (by rfl) (by rfl) flX3_23 dX3_isTold_10 rfl ?_
      refine g_geti (pc2 := 16) (by rfl) (by rfl) flX3_70 dX3_isTold_13 rfl ?_
      rw [y0]
      refine g_if_ne 21 19 dX3_isTold_16 rfl rfl (fun h16 => ?_) (fun h16 => ?_)
      · exact absurd (hr0.trans e0) h16
      · refine g_iconst (pc2 := 20) dX3_isTold_19 k_iconst_0 rfl ?_
        exact g_zret dX3_isTold_20 rfl (bI_nar false) (Nat.le_refl _) (Nat.le_refl _) tQ23_bad
    · refine g_il1 (pc2 := 1) dX3_isTold_0 rfl ?_
      refine g_if_ne 9 4 dX3_isTold_1 rfl rfl (fun _ => ?_) (fun h => absurd h (nI_ne0 (by decide) (by decide)))
      refine g_al0 (pc2 := 10) dX3_isTold_9 rfl ?_
      refine g_getr (pc2 := 13) (by rfl) (by rfl) flX3_23 dX3_isTold_10 rfl ?_
      refine g_geti (pc2 := 16) (by rfl) (by rfl) flX3_70 dX3_isTold_13 rfl ?_
      rw [y0]
      refine g_if_ne 21 19 dX3_isTold_16 rfl rfl (fun h16 => ?_) (fun h16 => ?_)
      · refine g_il1 (pc2 := 22) dX3_isTold_21 rfl ?_
        refine g_tableIn 67 dX3_isTold_22 (by decide) (by decide) (off := 45) (by decide) rfl ?_
        refine g_al0 (pc2 := 68) dX3_isTold_67 rfl ?_
        refine g_callV (pc2 := 71) (R_c_tellGap23 l (d + 2) t σ h hr0) meX3_tellGap mlX3_82 (by rfl) ⟨_, rfl, rfl⟩ rfl rfl (by simp) ⟨Nat.le_refl _, Nat.le_refl _⟩ dX3_isTold_68 rfl ?_
        rintro r' sh2 σ2 ⟨rfl, rfl, u1, u2⟩
        exact g_zret dX3_isTold_71 rfl (bI_nar _) (Nat.le_refl _) (Nat.le_refl _) ⟨rfl, rfl, u1, u2⟩
      · exact absurd (h16.trans e0.symm) hr0
def PF23 (σ σ' : lt_S) : Prop := ∀ a, (a < 13 ∨ 24 < a) → σ' a = σ a
def ffQ23 (t : lt_H) (σ : lt_S) (q : Option Nat × (Nat → Int32)) : lt_Q := fun r' sh' σ' => r' = some (oI q.1) ∧ sh' = lt_SC ++ t ∧ PF23 σ σ' ∧ (q.1 = none → CR23 σ' q.2)
theorem R_c_ffL23 (l : lt_L) (d : Nat) (t : lt_H) (σ : lt_S) {n : Nat} {tx : Nat → Nat} (hT : TC σ n tx) : ∀ (f p items : Nat) (r : Nat → Int32) (σ1 : lt_S) (z3 z4 : Option Value), n < f + p → p ≤ n → items ≤ p → PF23 σ σ1 → CR23 σ1 r → (∃ ln T N, Wp r ln T N) → lt_G l (d + 6) 0 0 mX3_firstFault 0 0 (lt_SC ++ t) σ1 11 [some (.ref 23), some (.int (nI p)), some (.int (nI items)), z3, z4] [] (ffQ23 t σ (parseL tx n f r p)) := by
  intro f
  induction f with
  | zero => intro p items r σ1 z3 z4 h1 h2; omega
  | succ f ih =>
    intro p items r σ1 z3 z4 h1 h2 h3 hP hC hWp
    have hT1 : TC σ1 n tx := by
      unfold TC
      rw [hP 11 (by decide), hP 12 (by decide)]
      exact hT
    have hn2 := hT1.2.1
    have eL := hT1.1
    by_cases hpn : p < n
    · cases hk : kindAt tx n p with
      | none =>
        have ek : oI (kindAt tx n p) = -4 := by rw [hk]; rfl
        have eP : parseL tx n (f + 1) r p = (some p, r) := by
          simp only [parseL]
          rw [if_pos hpn]
          simp only [itemAt, hk]
        rw [eP]
        refine g_il2 (pc2 := 12) dX3_firstFault_11 rfl ?_
        refine g_sipush (pc2 := 15) dX3_firstFault_12 k_sipush_200 rfl ?_
        refine g_icmpN_ge 81 18 dX3_firstFault_15 rfl rfl (by omega) (by omega) (fun h15 => ?_) (fun h15 => ?_)
        · omega
        · refine g_il1 (pc2 := 19) dX3_firstFault_18 rfl ?_
          refine g_al0 (pc2 := 20) dX3_firstFault_19 rfl ?_
          refine g_getr (pc2 := 23) (by rfl) (by rfl) flX3_19 dX3_firstFault_20 rfl ?_
          refine g_geti (pc2 := 26) (by rfl) (by rfl) flX3_36 dX3_firstFault_23 rfl ?_
          rw [eL]
          refine g_icmpN_ge 81 29 dX3_firstFault_26 rfl rfl (by omega) (by omega) (fun h26 => ?_) (fun h26 => ?_)
          · omega
          · refine g_al0 (pc2 := 30) dX3_firstFault_29 rfl ?_
            refine g_il1 (pc2 := 31) dX3_firstFault_30 rfl ?_
            refine g_cVi (pc2 := 34) (R_c_wordAt23 l d _ _ hT1 _ (by omega)) meX3_wordAt mlX3_41 (by rfl) ⟨_, rfl, rfl⟩ rfl rfl (by simp) ⟨Nat.le_refl _, Nat.le_refl _⟩ dX3_firstFault_31 rfl ?_
            rw [ek]
            refine g_is3 (pc2 := 35) dX3_firstFault_34 (by decide) rfl ?_
            refine g_il3 (pc2 := 36) dX3_firstFault_35 rfl ?_
            refine g_bipush (pc2 := 38) dX3_firstFault_36 k_bipush_m4 rfl ?_
            refine g_icmp_ne 46 41 dX3_firstFault_38 rfl rfl (fun h38 => ?_) (fun h38 => ?_)
            · exact absurd rfl h38
            · refine g_bipush (pc2 := 43) dX3_firstFault_41 k_bipush_m4 rfl ?_
              refine g_goto 53 dX3_firstFault_43 rfl ?_
              refine g_is4 (pc2 := 55) dX3_firstFault_53 (by decide) rfl ?_
              refine g_il4 (pc2 := 57) dX3_firstFault_55 rfl ?_
              refine g_bipush (pc2 := 59) dX3_firstFault_57 k_bipush_m4 rfl ?_
              refine g_icmp_eq 70 62 dX3_firstFault_59 rfl rfl (fun h59 => ?_) (fun h59 => ?_)
              · refine g_il1 (pc2 := 71) dX3_firstFault_70 rfl ?_
                exact g_iret dX3_firstFault_71 rfl (Nat.le_refl _) (Nat.le_refl _) ⟨rfl, rfl, hP, fun q => by cases q⟩
              · exact absurd rfl h59
      | some k =>
        have ek : oI (kindAt tx n p) = nI k := by rw [hk]; rfl
        have hk5 := kind_lt hk
        have go : ∀ σ2, RN23 σ1 σ2 → (∀ q, numsAt tx n 6 (p + 5) = some q → NS23 σ2 q.1) → ∀ z4 : Option Value, lt_G l (d + 6) 0 0 mX3_firstFault 0 0 (lt_SC ++ t) σ2 53 [some (.ref 23), some (.int (nI p)), some (.int (nI items)), some (.int (nI k)), z4] [.int (nsV (numsAt tx n 6 (p + 5)))] (ffQ23 t σ (parseL tx n (f + 1) r p)) := by
          intro σ2 u1 u2 z4
          have hP2 : PF23 σ σ2 := fun a ha => (u1.1 a (by omega) (by omega)).trans (hP a ha)
          cases hq : numsAt tx n 6 (p + 5) with
          | none =>
            have eP : parseL tx n (f + 1) r p = (some p, r) := by
              simp only [parseL]
              rw [if_pos hpn]
              simp only [itemAt, hk, hq]
            rw [eP, show nsV none = -4 from rfl]
            refine g_is4 (pc2 := 55) dX3_firstFault_53 (by decide) rfl ?_
            refine g_il4 (pc2 := 57) dX3_firstFault_55 rfl ?_
            refine g_bipush (pc2 := 59) dX3_firstFault_57 k_bipush_m4 rfl ?_
            refine g_icmp_eq 70 62 dX3_firstFault_59 rfl rfl (fun h59 => ?_) (fun h59 => ?_)
            · refine g_il1 (pc2 := 71) dX3_firstFault_70 rfl ?_
              exact g_iret dX3_firstFault_71 rfl (Nat.le_refl _) (Nat.le_refl _) ⟨rfl, rfl, hP2, fun q => by cases q⟩
            · exact absurd rfl h59
          | some q =>
            have hnl := numsAt_le hq
            obtain ⟨ln, T, N, hW⟩ := hWp
            have hC2 : CR23 σ2 r := hC.same (fun a ha => u1.1 a (by omega) (by omega))
            have hIn : In23 σ2 r ln T N q.1 := ⟨hW, hC2, u2 q hq, hnl.1, hnl.2.1, hnl.2.2.1⟩
            rw [show nsV (some q) = nI q.2 from rfl]
            cases hi : itemR r k q.1 with
            | none =>
              have eP : parseL tx n (f + 1) r p = (some p, r) := by
                simp only [parseL]
                rw [if_pos hpn]
                simp only [itemAt, hk, hq, hi]
              rw [eP]
              have tl := R_c_isTold23 l (d + 1) t σ2 hIn k hk5
              rw [hi] at tl
              refine g_is4 (pc2 := 55) dX3_firstFault_53 (by decide) rfl ?_
              refine g_il4 (pc2 := 57) dX3_firstFault_55 rfl ?_
              refine g_bipush (pc2 := 59) dX3_firstFault_57 k_bipush_m4 rfl ?_
              refine g_icmp_eq 70 62 dX3_firstFault_59 rfl rfl (fun h59 => ?_) (fun h59 => ?_)
              · exact absurd h59 (m4_ne (by omega))
              · refine g_al0 (pc2 := 63) dX3_firstFault_62 rfl ?_
                refine g_il3 (pc2 := 64) dX3_firstFault_63 rfl ?_
                refine g_callV (pc2 := 67) (tl) meX3_isTold mlX3_48 (by rfl) ⟨_, rfl, rfl⟩ rfl rfl (by simp) ⟨Nat.le_refl _, Nat.le_refl _⟩ dX3_firstFault_64 rfl ?_
                rintro r2 sh2 σ3 ⟨rfl, rfl, v1, v2⟩
                show lt_G l (d + 6) 0 0 mX3_firstFault 0 0 (lt_SC ++ t) σ3 67 _ [.int (nI 0)] _
                refine g_if_ne 72 70 dX3_firstFault_67 rfl rfl (fun h => absurd nI_0 h) (fun _ => ?_)
                refine g_il1 (pc2 := 71) dX3_firstFault_70 rfl ?_
                exact g_iret dX3_firstFault_71 rfl (Nat.le_refl _) (Nat.le_refl _) ⟨rfl, rfl, fun a ha => (v1 a (by omega) (by omega)).trans (hP2 a ha), fun q => by cases q⟩
            | some r2 =>
              have eP : parseL tx n (f + 1) r p = parseL tx n f r2 q.2 := by
                simp only [parseL]
                rw [if_pos hpn]
                simp only [itemAt, hk, hq, hi]
              rw [eP]
              have tl := R_c_isTold23 l (d + 1) t σ2 hIn k hk5
              rw [hi] at tl
              refine g_is4 (pc2 := 55) dX3_firstFault_53 (by decide) rfl ?_
              refine g_il4 (pc2 := 57) dX3_firstFault_55 rfl ?_
              refine g_bipush (pc2 := 59) dX3_firstFault_57 k_bipush_m4 rfl ?_
              refine g_icmp_eq 70 62 dX3_firstFault_59 rfl rfl (fun h59 => ?_) (fun h59 => ?_)
              · exact absurd h59 (m4_ne (by omega))
              · refine g_al0 (pc2 := 63) dX3_firstFault_62 rfl ?_
                refine g_il3 (pc2 := 64) dX3_firstFault_63 rfl ?_
                refine g_callV (pc2 := 67) (tl) meX3_isTold mlX3_48 (by rfl) ⟨_, rfl, rfl⟩ rfl rfl (by simp) ⟨Nat.le_refl _, Nat.le_refl _⟩ dX3_firstFault_64 rfl ?_
                rintro r3 sh2 σ3 ⟨rfl, rfl, v1, v2⟩
                show lt_G l (d + 6) 0 0 mX3_firstFault 0 0 (lt_SC ++ t) σ3 67 _ [.int (nI 1)] _
                refine g_if_ne 72 70 dX3_firstFault_67 rfl rfl (fun _ => ?_) (fun h => absurd h (nI_ne0 (by decide) (by decide)))
                refine g_il4 (pc2 := 74) dX3_firstFault_72 rfl ?_
                refine g_is1 (pc2 := 75) dX3_firstFault_74 (by decide) rfl ?_
                refine g_in2 (pc2 := 78) dX3_firstFault_75 (nI_inc _) (by decide) rfl ?_
                refine g_goto 11 dX3_firstFault_78 rfl ?_
                exact ih q.2 (items + 1) r2 σ3 _ _ (by omega) (by omega) (by omega) (fun a ha => (v1 a (by omega) (by omega)).trans (hP2 a ha)) (v2 r2 rfl) (hW.item hi)
        refine g_il2 (pc2 := 12) dX3_firstFault_11 rfl ?_
        refine g_sipush (pc2 := 15) dX3_firstFault_12 k_sipush_200 rfl ?_
        refine g_icmpN_ge 81 18 dX3_firstFault_15 rfl rfl (by omega) (by omega) (fun h15 => ?_) (fun h15 => ?_)
        · omega
        · refine g_il1 (pc2 := 19) dX3_firstFault_18 rfl ?_
          refine g_al0 (pc2 := 20) dX3_firstFault_19 rfl ?_
          refine g_getr (pc2 := 23) (by rfl) (by rfl) flX3_19 dX3_firstFault_20 rfl ?_
          refine g_geti (pc2 := 26) (by rfl) (by rfl) flX3_36 dX3_firstFault_23 rfl ?_
          rw [eL]
          refine g_icmpN_ge 81 29 dX3_firstFault_26 rfl rfl (by omega) (by omega) (fun h26 => ?_) (fun h26 => ?_)
          · omega
          · refine g_al0 (pc2 := 30) dX3_firstFault_29 rfl ?_
            refine g_il1 (pc2 := 31) dX3_firstFault_30 rfl ?_
            refine g_cVi (pc2 := 34) (R_c_wordAt23 l d _ _ hT1 _ (by omega)) meX3_wordAt mlX3_41 (by rfl) ⟨_, rfl, rfl⟩ rfl rfl (by simp) ⟨Nat.le_refl _, Nat.le_refl _⟩ dX3_firstFault_31 rfl ?_
            rw [ek]
            refine g_is3 (pc2 := 35) dX3_firstFault_34 (by decide) rfl ?_
            refine g_il3 (pc2 := 36) dX3_firstFault_35 rfl ?_
            refine g_bipush (pc2 := 38) dX3_firstFault_36 k_bipush_m4 rfl ?_
            refine g_icmp_ne 46 41 dX3_firstFault_38 rfl rfl (fun h38 => ?_) (fun h38 => ?_)
            · refine g_al0 (pc2 := 47) dX3_firstFault_46 rfl ?_
              refine g_il1 (pc2 := 48) dX3_firstFault_47 rfl ?_
              refine g_iconst (pc2 := 49) dX3_firstFault_48 k_iconst_5 rfl ?_
              refine g_iaddN (pc2 := 50) dX3_firstFault_49 rfl ?_
              refine g_callV (pc2 := 53) (R_c_readNumbers23 l (d + 2) t σ1 hT1 (p + 5) (by omega)) meX3_readNumbers mlX3_45 (by rfl) ⟨_, rfl, rfl⟩ rfl rfl (by simp) ⟨Nat.le_refl _, Nat.le_refl _⟩ dX3_firstFault_50 rfl ?_
              rintro r2 sh2 σ2 ⟨rfl, rfl, u1, u2⟩
              exact go σ2 u1 u2 _
            · exact absurd h38 (m4_ne (by omega))
    · have eP : parseL tx n (f + 1) r p = (none, r) := by
        simp only [parseL]
        rw [if_neg hpn]
      rw [eP]
      refine g_il2 (pc2 := 12) dX3_firstFault_11 rfl ?_
      refine g_sipush (pc2 := 15) dX3_firstFault_12 k_sipush_200 rfl ?_
      refine g_icmpN_ge 81 18 dX3_firstFault_15 rfl rfl (by omega) (by omega) (fun h15 => ?_) (fun h15 => ?_)
      · refine g_bipush (pc2 := 83) dX3_firstFault_81 k_bipush_m4 rfl ?_
        exact g_iret dX3_firstFault_83 rfl (Nat.le_refl _) (Nat.le_refl _) ⟨rfl, rfl, hP, fun _ => hC⟩
      · refine g_il1 (pc2 := 19) dX3_firstFault_18 rfl ?_
        refine g_al0 (pc2 := 20) dX3_firstFault_19 rfl ?_
        refine g_getr (pc2 := 23) (by rfl) (by rfl) flX3_19 dX3_firstFault_20 rfl ?_
        refine g_geti (pc2 := 26) (by rfl) (by rfl) flX3_36 dX3_firstFault_23 rfl ?_
        rw [eL]
        refine g_icmpN_ge 81 29 dX3_firstFault_26 rfl rfl (by omega) (by omega) (fun h26 => ?_) (fun h26 => ?_)
        · refine g_bipush (pc2 := 83) dX3_firstFault_81 k_bipush_m4 rfl ?_
          exact g_iret dX3_firstFault_83 rfl (Nat.le_refl _) (Nat.le_refl _) ⟨rfl, rfl, hP, fun _ => hC⟩
        · omega
theorem R_c_firstFault23 (l : lt_L) (d : Nat) (t : lt_H) (σ : lt_S) {n : Nat} {tx : Nat → Nat} (hT : TC σ n tx) {r : Nat → Int32} (hr : Beg r) : lt_R l (d + 6) 0 0 mX3_firstFault (lt_SC ++ t) σ [.ref 23] (ffQ23 t σ (parseM tx n r)) := by
  refine lt_R.of [some (.ref 23), none, none, none, none] rfl rfl (Nat.le_of_ble_eq_true rfl) ?_
  have hN0 : tN (r 2) = 0 := hr.wp.e.2.2
  have hC : CR23 (S_clear13 σ) r := by
    unfold CR23
    rw [hN0]
    exact ⟨CY_clear13 σ hr, fun i hi => by omega⟩
  have hP : PF23 σ (S_clear13 σ) := by
    intro a ha
    unfold S_clear13
    rw [lt_ur_ne _ _ (by omega), lt_up_nr _ _ _ (by omega), lt_up_nr _ _ _ (by omega), lt_up_nr _ _ _ (by omega), lt_up_nr _ _ _ (by omega)]
  refine g_al0 (pc2 := 1) dX3_firstFault_0 rfl ?_
  refine g_getr (pc2 := 4) (by rfl) (by rfl) flX3_23 dX3_firstFault_1 rfl ?_
  refine g_cVv (pc2 := 7) (R_c_clear13 l (d + 4) _ _) meX6_clear mlX3_31 (by rfl) ⟨_, rfl, rfl⟩ rfl rfl (by simp) ⟨Nat.le_refl _, Nat.le_refl _⟩ dX3_firstFault_4 rfl ?_
  refine g_iconst (pc2 := 8) dX3_firstFault_7 k_iconst_0 rfl ?_
  refine g_is1 (pc2 := 9) dX3_firstFault_8 (by decide) rfl ?_
  refine g_iconst (pc2 := 10) dX3_firstFault_9 k_iconst_0 rfl ?_
  refine g_is2 (pc2 := 11) dX3_firstFault_10 (by decide) rfl ?_
  exact R_c_ffL23 l d t σ hT (n + 1) 0 0 r _ _ _ (by omega) (by omega) (by omega) hP hC ⟨0, 0, 0, hr.wp⟩

theorem CR25.same {σ σ' : lt_S} {r : Nat → Int32} (h : CR25 σ r) (he : ∀ a, (26 ≤ a ∧ a ≤ 30) ∨ (32 ≤ a ∧ a ≤ 35) → σ' a = σ a) : CR25 σ' r := by
  unfold CR25 CY CP at h ⊢
  rw [he 26 (by decide), he (26 + 1) (by decide), he (26 + 2) (by decide), he (26 + 3) (by decide), he (26 + 4) (by decide), he (31 + 1) (by decide), he (31 + 2) (by decide), he (31 + 3) (by decide), he (31 + 4) (by decide)]
  exact h
theorem R_c_isTold25 (l : lt_L) (d : Nat) (t : lt_H) (σ : lt_S) {r : Nat → Int32} {ln T N : Nat} {ns : List Nat} (h : In25 σ r ln T N ns) (k : Nat) (hk : k < 5) : lt_R l (d + 4) 0 0 mX3_isTold (lt_SC ++ t) σ [.ref 25, .int (nI k)] (tQ25 t σ (itemR r k ns)) := by
  refine lt_R.of [some (.ref 25), some (.int (nI k))] rfl rfl (Nat.le_of_ble_eq_true rfl) ?_
  have y0 : σ 26 0 = r 0 := h.2.1.1.1.1
  have e0 : nI 0 = 0 := nI_0
  rcases (show k = 0 ∨ k = 1 ∨ k = 2 ∨ k = 3 ∨ k = 4 by omega) with rfl | rfl | rfl | rfl | rfl
  · refine g_il1 (pc2 := 1) dX3_isTold_0 rfl ?_
    refine g_if_ne 9 4 dX3_isTold_1 rfl rfl (fun h => absurd nI_0 h) (fun _ => ?_)
    refine g_al0 (pc2 := 5) dX3_isTold_4 rfl ?_
    refine g_callV (pc2 := 8) (R_c_tellYard25 l (d + 2) t σ h) meX3_tellYard mlX3_66 (by rfl) ⟨_, rfl, rfl⟩ rfl rfl (by simp) ⟨Nat.le_refl _, Nat.le_refl _⟩ dX3_isTold_5 rfl ?_
    rintro r' sh2 σ2 ⟨rfl, rfl, u1, u2⟩
    exact g_zret dX3_isTold_8 rfl (bI_nar _) (Nat.le_refl _) (Nat.le_refl _) ⟨rfl, rfl, u1, u2⟩
  · by_cases hr0 : r 0 = nI 0
    · rw [itemX hr0 1 (by decide)]
      refine g_il1 (pc2 := 1) dX3_isTold_0 rfl ?_
      refine g_if_ne 9 4 dX3_isTold_1 rfl rfl (fun _ => ?_) (fun h => absurd h (nI_ne0 (by decide) (by decide)))
      refine g_al0 (pc2 := 10) dX3_isTold_9 rfl ?_
      refine g_getr (pc2 := 13) (by rfl) (by rfl) flX3_23 dX3_isTold_10 rfl ?_
      refine g_geti (pc2 := 16) (by rfl) (by rfl) flX3_70 dX3_isTold_13 rfl ?_
      rw [y0]
      refine g_if_ne 21 19 dX3_isTold_16 rfl rfl (fun h16 => ?_) (fun h16 => ?_)
      · exact absurd (hr0.trans e0) h16
      · refine g_iconst (pc2 := 20) dX3_isTold_19 k_iconst_0 rfl ?_
        exact g_zret dX3_isTold_20 rfl (bI_nar false) (Nat.le_refl _) (Nat.le_refl _) tQ25_bad
    · refine g_il1 (pc2 := 1) dX3_isTold_0 rfl ?_
      refine g_if_ne 9 4 dX3_isTold_1 rfl rfl (fun _ => ?_) (fun h => absurd h (nI_ne0 (by decide) (by decide)))
      refine g_al0 (pc2 := 10) dX3_isTold_9 rfl ?_
      refine g_getr (pc2 := 13) (by rfl) (by rfl) flX3_23 dX3_isTold_10 rfl ?_
      refine g_geti (pc2 := 16) (by rfl) (by rfl) flX3_70 dX3_isTold_13 rfl ?_
      rw [y0]
      refine g_if_ne 21 19 dX3_isTold_16 rfl rfl (fun h16 => ?_) (fun h16 => ?_)
      · refine g_il1 (pc2 := 22) dX3_isTold_21 rfl ?_
        refine g_tableIn 52 dX3_isTold_22 (by decide) (by decide) (off := 30) (by decide) rfl ?_
        refine g_al0 (pc2 := 53) dX3_isTold_52 rfl ?_
        refine g_callV (pc2 := 56) (R_c_tellPath25 l (d + 1) t σ h hr0) meX3_tellPath mlX3_73 (by rfl) ⟨_, rfl, rfl⟩ rfl rfl (by simp) ⟨Nat.le_refl _, Nat.le_refl _⟩ dX3_isTold_53 rfl ?_
        rintro r' sh2 σ2 ⟨rfl, rfl, u1, u2⟩
        exact g_zret dX3_isTold_56 rfl (bI_nar _) (Nat.le_refl _) (Nat.le_refl _) ⟨rfl, rfl, u1, u2⟩
      · exact absurd (h16.trans e0.symm) hr0
  · by_cases hr0 : r 0 = nI 0
    · rw [itemX hr0 2 (by decide)]
      refine g_il1 (pc2 := 1) dX3_isTold_0 rfl ?_
      refine g_if_ne 9 4 dX3_isTold_1 rfl rfl (fun _ => ?_) (fun h => absurd h (nI_ne0 (by decide) (by decide)))
      refine g_al0 (pc2 := 10) dX3_isTold_9 rfl ?_
      refine g_getr (pc2 := 13) (by rfl) (by rfl) flX3_23 dX3_isTold_10 rfl ?_
      refine g_geti (pc2 := 16) (by rfl) (by rfl) flX3_70 dX3_isTold_13 rfl ?_
      rw [y0]
      refine g_if_ne 21 19 dX3_isTold_16 rfl rfl (fun h16 => ?_) (fun h16 => ?_)
      · exact absurd (hr0.trans e0) h16
      · refine g_iconst (pc2 := 20) dX3_isTold_19 k_iconst_0 rfl ?_
        exact g_zret dX3_isTold_20 rfl (bI_nar false) (Nat.le_refl _) (Nat.le_refl _) tQ25_bad
    · refine g_il1 (pc2 := 1) dX3_isTold_0 rfl ?_
      refine g_if_ne 9 4 dX3_isTold_1 rfl rfl (fun _ => ?_) (fun h => absurd h (nI_ne0 (by decide) (by decide)))
      refine g_al0 (pc2 := 10) dX3_isTold_9 rfl ?_
      refine g_getr (pc2 := 13) (by rfl) (by rfl) flX3_23 dX3_isTold_10 rfl ?_
      refine g_geti (pc2 := 16) (by rfl) (by rfl) flX3_70 dX3_isTold_13 rfl ?_
      rw [y0]
      refine g_if_ne 21 19 dX3_isTold_16 rfl rfl (fun h16 => ?_) (fun h16 => ?_)
      · refine g_il1 (pc2 := 22) dX3_isTold_21 rfl ?_
        refine g_tableIn 57 dX3_isTold_22 (by decide) (by decide) (off := 35) (by decide) rfl ?_
        refine g_al0 (pc2 := 58) dX3_isTold_57 rfl ?_
        refine g_callV (pc2 := 61) (R_c_tellTrain25 l d t σ h hr0) meX3_tellTrain mlX3_76 (by rfl) ⟨_, rfl, rfl⟩ rfl rfl (by simp) ⟨Nat.le_refl _, Nat.le_refl _⟩ dX3_isTold_58 rfl ?_
        rintro r' sh2 σ2 ⟨rfl, rfl, u1, u2⟩
        exact g_zret dX3_isTold_61 rfl (bI_nar _) (Nat.le_refl _) (Nat.le_refl _) ⟨rfl, rfl, u1, u2⟩
      · exact absurd (h16.trans e0.symm) hr0
  · by_cases hr0 : r 0 = nI 0
    · rw [itemX hr0 3 (by decide)]
      refine g_il1 (pc2 := 1) dX3_isTold_0 rfl ?_
      refine g_if_ne 9 4 dX3_isTold_1 rfl rfl (fun _ => ?_) (fun h => absurd h (nI_ne0 (by decide) (by decide)))
      refine g_al0 (pc2 := 10) dX3_isTold_9 rfl ?_
      refine g_getr (pc2 := 13) (by rfl) (by rfl) flX3_23 dX3_isTold_10 rfl ?_
      refine g_geti (pc2 := 16) (by rfl) (by rfl) flX3_70 dX3_isTold_13 rfl ?_
      rw [y0]
      refine g_if_ne 21 19 dX3_isTold_16 rfl rfl (fun h16 => ?_) (fun h16 => ?_)
      · exact absurd (hr0.trans e0) h16
      · refine g_iconst (pc2 := 20) dX3_isTold_19 k_iconst_0 rfl ?_
        exact g_zret dX3_isTold_20 rfl (bI_nar false) (Nat.le_refl _) (Nat.le_refl _) tQ25_bad
    · refine g_il1 (pc2 := 1) dX3_isTold_0 rfl ?_
      refine g_if_ne 9 4 dX3_isTold_1 rfl rfl (fun _ => ?_) (fun h => absurd h (nI_ne0 (by decide) (by decide)))
      refine g_al0 (pc2 := 10) dX3_isTold_9 rfl ?_
      refine g_getr (pc2 := 13) (by rfl) (by rfl) flX3_23 dX3_isTold_10 rfl ?_
      refine g_geti (pc2 := 16) (by rfl) (by rfl) flX3_70 dX3_isTold_13 rfl ?_
      rw [y0]
      refine g_if_ne 21 19 dX3_isTold_16 rfl rfl (fun h16 => ?_) (fun h16 => ?_)
      · refine g_il1 (pc2 := 22) dX3_isTold_21 rfl ?_
        refine g_tableIn 62 dX3_isTold_22 (by decide) (by decide) (off := 40) (by decide) rfl ?_
        refine g_al0 (pc2 := 63) dX3_isTold_62 rfl ?_
        refine g_callV (pc2 := 66) (R_c_tellPair25 l (d + 1) t σ h hr0) meX3_tellPair mlX3_79 (by rfl) ⟨_, rfl, rfl⟩ rfl rfl (by simp) ⟨Nat.le_refl _, Nat.le_refl _⟩ dX3_isTold_63 rfl ?_
        rintro r' sh2 σ2 ⟨rfl, rfl, u1, u2⟩
        exact g_zret dX3_isTold_66 rfl (bI_nar _) (Nat.le_refl _) (Nat.le_refl _) ⟨rfl, rfl, u1, u2⟩
      · exact absurd (h16.trans e0.symm) hr0
  · by_cases hr0 : r 0 = nI 0
    · rw [itemX hr0 4 (by decide)]
      refine g_il1 (pc2 := 1) dX3_isTold_0 rfl ?_
      refine g_if_ne 9 4 dX3_isTold_1 rfl rfl (fun _ => ?_) (fun h => absurd h (nI_ne0 (by decide) (by decide)))
      refine g_al0 (pc2 := 10) dX3_isTold_9 rfl ?_
      refine g_getr (pc2 := 13) (by rfl) (by rfl) flX3_23 dX3_isTold_10 rfl ?_
      refine g_geti (pc2 := 16) (by rfl) (by rfl) flX3_70 dX3_isTold_13 rfl ?_
      rw [y0]
      refine g_if_ne 21 19 dX3_isTold_16 rfl rfl (fun h16 => ?_) (fun h16 => ?_)
      · exact absurd (hr0.trans e0) h16
      · refine g_iconst (pc2 := 20) dX3_isTold_19 k_iconst_0 rfl ?_
        exact g_zret dX3_isTold_20 rfl (bI_nar false) (Nat.le_refl _) (Nat.le_refl _) tQ25_bad
    · refine g_il1 (pc2 := 1) dX3_isTold_0 rfl ?_
      refine g_if_ne 9 4 dX3_isTold_1 rfl rfl (fun _ => ?_) (fun h => absurd h (nI_ne0 (by decide) (by decide)))
      refine g_al0 (pc2 := 10) dX3_isTold_9 rfl ?_
      refine g_getr (pc2 := 13) (by rfl) (by rfl) flX3_23 dX3_isTold_10 rfl ?_
      refine g_geti (pc2 := 16) (by rfl) (by rfl) flX3_70 dX3_isTold_13 rfl ?_
      rw [y0]
      refine g_if_ne 21 19 dX3_isTold_16 rfl rfl (fun h16 => ?_) (fun h16 => ?_)
      · refine g_il1 (pc2 := 22) dX3_isTold_21 rfl ?_
        refine g_tableIn 67 dX3_isTold_22 (by decide) (by decide) (off := 45) (by decide) rfl ?_
        refine g_al0 (pc2 := 68) dX3_isTold_67 rfl ?_
        refine g_callV (pc2 := 71) (R_c_tellGap25 l (d + 2) t σ h hr0) meX3_tellGap mlX3_82 (by rfl) ⟨_, rfl, rfl⟩ rfl rfl (by simp) ⟨Nat.le_refl _, Nat.le_refl _⟩ dX3_isTold_68 rfl ?_
        rintro r' sh2 σ2 ⟨rfl, rfl, u1, u2⟩
        exact g_zret dX3_isTold_71 rfl (bI_nar _) (Nat.le_refl _) (Nat.le_refl _) ⟨rfl, rfl, u1, u2⟩
      · exact absurd (h16.trans e0.symm) hr0
def PF25 (σ σ' : lt_S) : Prop := ∀ a, (a < 25 ∨ 36 < a) → σ' a = σ a
def ffQ25 (t : lt_H) (σ : lt_S) (q : Option Nat × (Nat → Int32)) : lt_Q := fun r' sh' σ' => r' = some (oI q.1) ∧ sh' = lt_SC ++ t ∧ PF25 σ σ' ∧ (q.1 = none → CR25 σ' q.2)
theorem R_c_ffL25 (l : lt_L) (d : Nat) (t : lt_H) (σ : lt_S) {n : Nat} {tx : Nat → Nat} (hT : TC σ n tx) : ∀ (f p items : Nat) (r : Nat → Int32) (σ1 : lt_S) (z3 z4 : Option Value), n < f + p → p ≤ n → items ≤ p → PF25 σ σ1 → CR25 σ1 r → (∃ ln T N, Wp r ln T N) → lt_G l (d + 6) 0 0 mX3_firstFault 0 0 (lt_SC ++ t) σ1 11 [some (.ref 25), some (.int (nI p)), some (.int (nI items)), z3, z4] [] (ffQ25 t σ (parseL tx n f r p)) := by
  intro f
  induction f with
  | zero => intro p items r σ1 z3 z4 h1 h2; omega
  | succ f ih =>
    intro p items r σ1 z3 z4 h1 h2 h3 hP hC hWp
    have hT1 : TC σ1 n tx := by
      unfold TC
      rw [hP 11 (by decide), hP 12 (by decide)]
      exact hT
    have hn2 := hT1.2.1
    have eL := hT1.1
    by_cases hpn : p < n
    · cases hk : kindAt tx n p with
      | none =>
        have ek : oI (kindAt tx n p) = -4 := by rw [hk]; rfl
        have eP : parseL tx n (f + 1) r p = (some p, r) := by
          simp only [parseL]
          rw [if_pos hpn]
          simp only [itemAt, hk]
        rw [eP]
        refine g_il2 (pc2 := 12) dX3_firstFault_11 rfl ?_
        refine g_sipush (pc2 := 15) dX3_firstFault_12 k_sipush_200 rfl ?_
        refine g_icmpN_ge 81 18 dX3_firstFault_15 rfl rfl (by omega) (by omega) (fun h15 => ?_) (fun h15 => ?_)
        · omega
        · refine g_il1 (pc2 := 19) dX3_firstFault_18 rfl ?_
          refine g_al0 (pc2 := 20) dX3_firstFault_19 rfl ?_
          refine g_getr (pc2 := 23) (by rfl) (by rfl) flX3_19 dX3_firstFault_20 rfl ?_
          refine g_geti (pc2 := 26) (by rfl) (by rfl) flX3_36 dX3_firstFault_23 rfl ?_
          rw [eL]
          refine g_icmpN_ge 81 29 dX3_firstFault_26 rfl rfl (by omega) (by omega) (fun h26 => ?_) (fun h26 => ?_)
          · omega
          · refine g_al0 (pc2 := 30) dX3_firstFault_29 rfl ?_
            refine g_il1 (pc2 := 31) dX3_firstFault_30 rfl ?_
            refine g_cVi (pc2 := 34) (R_c_wordAt25 l d _ _ hT1 _ (by omega)) meX3_wordAt mlX3_41 (by rfl) ⟨_, rfl, rfl⟩ rfl rfl (by simp) ⟨Nat.le_refl _, Nat.le_refl _⟩ dX3_firstFault_31 rfl ?_
            rw [ek]
            refine g_is3 (pc2 := 35) dX3_firstFault_34 (by decide) rfl ?_
            refine g_il3 (pc2 := 36) dX3_firstFault_35 rfl ?_
            refine g_bipush (pc2 := 38) dX3_firstFault_36 k_bipush_m4 rfl ?_
            refine g_icmp_ne 46 41 dX3_firstFault_38 rfl rfl (fun h38 => ?_) (fun h38 => ?_)
            · exact absurd rfl h38
            · refine g_bipush (pc2 := 43) dX3_firstFault_41 k_bipush_m4 rfl ?_
              refine g_goto 53 dX3_firstFault_43 rfl ?_
              refine g_is4 (pc2 := 55) dX3_firstFault_53 (by decide) rfl ?_
              refine g_il4 (pc2 := 57) dX3_firstFault_55 rfl ?_
              refine g_bipush (pc2 := 59) dX3_firstFault_57 k_bipush_m4 rfl ?_
              refine g_icmp_eq 70 62 dX3_firstFault_59 rfl rfl (fun h59 => ?_) (fun h59 => ?_)
              · refine g_il1 (pc2 := 71) dX3_firstFault_70 rfl ?_
                exact g_iret dX3_firstFault_71 rfl (Nat.le_refl _) (Nat.le_refl _) ⟨rfl, rfl, hP, fun q => by cases q⟩
              · exact absurd rfl h59
      | some k =>
        have ek : oI (kindAt tx n p) = nI k := by rw [hk]; rfl
        have hk5 := kind_lt hk
        have go : ∀ σ2, RN25 σ1 σ2 → (∀ q, numsAt tx n 6 (p + 5) = some q → NS25 σ2 q.1) → ∀ z4 : Option Value, lt_G l (d + 6) 0 0 mX3_firstFault 0 0 (lt_SC ++ t) σ2 53 [some (.ref 25), some (.int (nI p)), some (.int (nI items)), some (.int (nI k)), z4] [.int (nsV (numsAt tx n 6 (p + 5)))] (ffQ25 t σ (parseL tx n (f + 1) r p)) := by
          intro σ2 u1 u2 z4
          have hP2 : PF25 σ σ2 := fun a ha => (u1.1 a (by omega) (by omega)).trans (hP a ha)
          cases hq : numsAt tx n 6 (p + 5) with
          | none =>
            have eP : parseL tx n (f + 1) r p = (some p, r) := by
              simp only [parseL]
              rw [if_pos hpn]
              simp only [itemAt, hk, hq]
            rw [eP, show nsV none = -4 from rfl]
            refine g_is4 (pc2 := 55) dX3_firstFault_53 (by decide) rfl ?_
            refine g_il4 (pc2 := 57) dX3_firstFault_55 rfl ?_
            refine g_bipush (pc2 := 59) dX3_firstFault_57 k_bipush_m4 rfl ?_
            refine g_icmp_eq 70 62 dX3_firstFault_59 rfl rfl (fun h59 => ?_) (fun h59 => ?_)
            · refine g_il1 (pc2 := 71) dX3_firstFault_70 rfl ?_
              exact g_iret dX3_firstFault_71 rfl (Nat.le_refl _) (Nat.le_refl _) ⟨rfl, rfl, hP2, fun q => by cases q⟩
            · exact absurd rfl h59
          | some q =>
            have hnl := numsAt_le hq
            obtain ⟨ln, T, N, hW⟩ := hWp
            have hC2 : CR25 σ2 r := hC.same (fun a ha => u1.1 a (by omega) (by omega))
            have hIn : In25 σ2 r ln T N q.1 := ⟨hW, hC2, u2 q hq, hnl.1, hnl.2.1, hnl.2.2.1⟩
            rw [show nsV (some q) = nI q.2 from rfl]
            cases hi : itemR r k q.1 with
            | none =>
              have eP : parseL tx n (f + 1) r p = (some p, r) := by
                simp only [parseL]
                rw [if_pos hpn]
                simp only [itemAt, hk, hq, hi]
              rw [eP]
              have tl := R_c_isTold25 l (d + 1) t σ2 hIn k hk5
              rw [hi] at tl
              refine g_is4 (pc2 := 55) dX3_firstFault_53 (by decide) rfl ?_
              refine g_il4 (pc2 := 57) dX3_firstFault_55 rfl ?_
              refine g_bipush (pc2 := 59) dX3_firstFault_57 k_bipush_m4 rfl ?_
              refine g_icmp_eq 70 62 dX3_firstFault_59 rfl rfl (fun h59 => ?_) (fun h59 => ?_)
              · exact absurd h59 (m4_ne (by omega))
              · refine g_al0 (pc2 := 63) dX3_firstFault_62 rfl ?_
                refine g_il3 (pc2 := 64) dX3_firstFault_63 rfl ?_
                refine g_callV (pc2 := 67) (tl) meX3_isTold mlX3_48 (by rfl) ⟨_, rfl, rfl⟩ rfl rfl (by simp) ⟨Nat.le_refl _, Nat.le_refl _⟩ dX3_firstFault_64 rfl ?_
                rintro r2 sh2 σ3 ⟨rfl, rfl, v1, v2⟩
                show lt_G l (d + 6) 0 0 mX3_firstFault 0 0 (lt_SC ++ t) σ3 67 _ [.int (nI 0)] _
                refine g_if_ne 72 70 dX3_firstFault_67 rfl rfl (fun h => absurd nI_0 h) (fun _ => ?_)
                refine g_il1 (pc2 := 71) dX3_firstFault_70 rfl ?_
                exact g_iret dX3_firstFault_71 rfl (Nat.le_refl _) (Nat.le_refl _) ⟨rfl, rfl, fun a ha => (v1 a (by omega) (by omega)).trans (hP2 a ha), fun q => by cases q⟩
            | some r2 =>
              have eP : parseL tx n (f + 1) r p = parseL tx n f r2 q.2 := by
                simp only [parseL]
                rw [if_pos hpn]
                simp only [itemAt, hk, hq, hi]
              rw [eP]
              have tl := R_c_isTold25 l (d + 1) t σ2 hIn k hk5
              rw [hi] at tl
              refine g_is4 (pc2 := 55) dX3_firstFault_53 (by decide) rfl ?_
              refine g_il4 (pc2 := 57) dX3_firstFault_55 rfl ?_
              refine g_bipush (pc2 := 59) dX3_firstFault_57 k_bipush_m4 rfl ?_
              refine g_icmp_eq 70 62 dX3_firstFault_59 rfl rfl (fun h59 => ?_) (fun h59 => ?_)
              · exact absurd h59 (m4_ne (by omega))
              · refine g_al0 (pc2 := 63) dX3_firstFault_62 rfl ?_
                refine g_il3 (pc2 := 64) dX3_firstFault_63 rfl ?_
                refine g_callV (pc2 := 67) (tl) meX3_isTold mlX3_48 (by rfl) ⟨_, rfl, rfl⟩ rfl rfl (by simp) ⟨Nat.le_refl _, Nat.le_refl _⟩ dX3_firstFault_64 rfl ?_
                rintro r3 sh2 σ3 ⟨rfl, rfl, v1, v2⟩
                show lt_G l (d + 6) 0 0 mX3_firstFault 0 0 (lt_SC ++ t) σ3 67 _ [.int (nI 1)] _
                refine g_if_ne 72 70 dX3_firstFault_67 rfl rfl (fun _ => ?_) (fun h => absurd h (nI_ne0 (by decide) (by decide)))
                refine g_il4 (pc2 := 74) dX3_firstFault_72 rfl ?_
                refine g_is1 (pc2 := 75) dX3_firstFault_74 (by decide) rfl ?_
                refine g_in2 (pc2 := 78) dX3_firstFault_75 (nI_inc _) (by decide) rfl ?_
                refine g_goto 11 dX3_firstFault_78 rfl ?_
                exact ih q.2 (items + 1) r2 σ3 _ _ (by omega) (by omega) (by omega) (fun a ha => (v1 a (by omega) (by omega)).trans (hP2 a ha)) (v2 r2 rfl) (hW.item hi)
        refine g_il2 (pc2 := 12) dX3_firstFault_11 rfl ?_
        refine g_sipush (pc2 := 15) dX3_firstFault_12 k_sipush_200 rfl ?_
        refine g_icmpN_ge 81 18 dX3_firstFault_15 rfl rfl (by omega) (by omega) (fun h15 => ?_) (fun h15 => ?_)
        · omega
        · refine g_il1 (pc2 := 19) dX3_firstFault_18 rfl ?_
          refine g_al0 (pc2 := 20) dX3_firstFault_19 rfl ?_
          refine g_getr (pc2 := 23) (by rfl) (by rfl) flX3_19 dX3_firstFault_20 rfl ?_
          refine g_geti (pc2 := 26) (by rfl) (by rfl) flX3_36 dX3_firstFault_23 rfl ?_
          rw [eL]
          refine g_icmpN_ge 81 29 dX3_firstFault_26 rfl rfl (by omega) (by omega) (fun h26 => ?_) (fun h26 => ?_)
          · omega
          · refine g_al0 (pc2 := 30) dX3_firstFault_29 rfl ?_
            refine g_il1 (pc2 := 31) dX3_firstFault_30 rfl ?_
            refine g_cVi (pc2 := 34) (R_c_wordAt25 l d _ _ hT1 _ (by omega)) meX3_wordAt mlX3_41 (by rfl) ⟨_, rfl, rfl⟩ rfl rfl (by simp) ⟨Nat.le_refl _, Nat.le_refl _⟩ dX3_firstFault_31 rfl ?_
            rw [ek]
            refine g_is3 (pc2 := 35) dX3_firstFault_34 (by decide) rfl ?_
            refine g_il3 (pc2 := 36) dX3_firstFault_35 rfl ?_
            refine g_bipush (pc2 := 38) dX3_firstFault_36 k_bipush_m4 rfl ?_
            refine g_icmp_ne 46 41 dX3_firstFault_38 rfl rfl (fun h38 => ?_) (fun h38 => ?_)
            · refine g_al0 (pc2 := 47) dX3_firstFault_46 rfl ?_
              refine g_il1 (pc2 := 48) dX3_firstFault_47 rfl ?_
              refine g_iconst (pc2 := 49) dX3_firstFault_48 k_iconst_5 rfl ?_
              refine g_iaddN (pc2 := 50) dX3_firstFault_49 rfl ?_
              refine g_callV (pc2 := 53) (R_c_readNumbers25 l (d + 2) t σ1 hT1 (p + 5) (by omega)) meX3_readNumbers mlX3_45 (by rfl) ⟨_, rfl, rfl⟩ rfl rfl (by simp) ⟨Nat.le_refl _, Nat.le_refl _⟩ dX3_firstFault_50 rfl ?_
              rintro r2 sh2 σ2 ⟨rfl, rfl, u1, u2⟩
              exact go σ2 u1 u2 _
            · exact absurd h38 (m4_ne (by omega))
    · have eP : parseL tx n (f + 1) r p = (none, r) := by
        simp only [parseL]
        rw [if_neg hpn]
      rw [eP]
      refine g_il2 (pc2 := 12) dX3_firstFault_11 rfl ?_
      refine g_sipush (pc2 := 15) dX3_firstFault_12 k_sipush_200 rfl ?_
      refine g_icmpN_ge 81 18 dX3_firstFault_15 rfl rfl (by omega) (by omega) (fun h15 => ?_) (fun h15 => ?_)
      · refine g_bipush (pc2 := 83) dX3_firstFault_81 k_bipush_m4 rfl ?_
        exact g_iret dX3_firstFault_83 rfl (Nat.le_refl _) (Nat.le_refl _) ⟨rfl, rfl, hP, fun _ => hC⟩
      · refine g_il1 (pc2 := 19) dX3_firstFault_18 rfl ?_
        refine g_al0 (pc2 := 20) dX3_firstFault_19 rfl ?_
        refine g_getr (pc2 := 23) (by rfl) (by rfl) flX3_19 dX3_firstFault_20 rfl ?_
        refine g_geti (pc2 := 26) (by rfl) (by rfl) flX3_36 dX3_firstFault_23 rfl ?_
        rw [eL]
        refine g_icmpN_ge 81 29 dX3_firstFault_26 rfl rfl (by omega) (by omega) (fun h26 => ?_) (fun h26 => ?_)
        · refine g_bipush (pc2 := 83) dX3_firstFault_81 k_bipush_m4 rfl ?_
          exact g_iret dX3_firstFault_83 rfl (Nat.le_refl _) (Nat.le_refl _) ⟨rfl, rfl, hP, fun _ => hC⟩
        · omega
theorem R_c_firstFault25 (l : lt_L) (d : Nat) (t : lt_H) (σ : lt_S) {n : Nat} {tx : Nat → Nat} (hT : TC σ n tx) {r : Nat → Int32} (hr : Beg r) : lt_R l (d + 6) 0 0 mX3_firstFault (lt_SC ++ t) σ [.ref 25] (ffQ25 t σ (parseM tx n r)) := by
  refine lt_R.of [some (.ref 25), none, none, none, none] rfl rfl (Nat.le_of_ble_eq_true rfl) ?_
  have hN0 : tN (r 2) = 0 := hr.wp.e.2.2
  have hC : CR25 (S_clear26 σ) r := by
    unfold CR25
    rw [hN0]
    exact ⟨CY_clear26 σ hr, fun i hi => by omega⟩
  have hP : PF25 σ (S_clear26 σ) := by
    intro a ha
    unfold S_clear26
    rw [lt_ur_ne _ _ (by omega), lt_up_nr _ _ _ (by omega), lt_up_nr _ _ _ (by omega), lt_up_nr _ _ _ (by omega), lt_up_nr _ _ _ (by omega)]
  refine g_al0 (pc2 := 1) dX3_firstFault_0 rfl ?_
  refine g_getr (pc2 := 4) (by rfl) (by rfl) flX3_23 dX3_firstFault_1 rfl ?_
  refine g_cVv (pc2 := 7) (R_c_clear26 l (d + 4) _ _) meX6_clear mlX3_31 (by rfl) ⟨_, rfl, rfl⟩ rfl rfl (by simp) ⟨Nat.le_refl _, Nat.le_refl _⟩ dX3_firstFault_4 rfl ?_
  refine g_iconst (pc2 := 8) dX3_firstFault_7 k_iconst_0 rfl ?_
  refine g_is1 (pc2 := 9) dX3_firstFault_8 (by decide) rfl ?_
  refine g_iconst (pc2 := 10) dX3_firstFault_9 k_iconst_0 rfl ?_
  refine g_is2 (pc2 := 11) dX3_firstFault_10 (by decide) rfl ?_
  exact R_c_ffL25 l d t σ hT (n + 1) 0 0 r _ _ _ (by omega) (by omega) (by omega) hP hC ⟨0, 0, 0, hr.wp⟩
def PF (σ σ' : lt_S) : Prop := ∀ a, (a < 13 ∨ 36 < a) → σ' a = σ a
theorem R_c_fault (l : lt_L) (d : Nat) (t : lt_H) (σ : lt_S) {n : Nat} {tx : Nat → Nat} (hT : TC σ n tx) {r : Nat → Int32} (hr : Beg r) : lt_R l (d + 7) 0 0 mX7_fault (lt_SC ++ t) σ [.ref 10] (fun r' sh' σ' => r' = some (oI (parseM tx n r).1) ∧ sh' = lt_SC ++ t ∧ PF25 σ σ') := by
  refine lt_R.of [some (.ref 10)] rfl rfl (Nat.le_of_ble_eq_true rfl) ?_
  refine g_al0 (pc2 := 1) dX7_fault_0 rfl ?_
  refine g_getr (pc2 := 4) (by rfl) (by rfl) flX7_39 dX7_fault_1 rfl ?_
  refine g_callV (pc2 := 7) (R_c_firstFault25 l d t σ hT hr) meX3_firstFault mlX7_96 (by rfl) ⟨_, rfl, rfl⟩ rfl rfl (by simp) ⟨Nat.le_refl _, Nat.le_refl _⟩ dX7_fault_4 rfl ?_
  rintro r2 sh2 σ2 ⟨rfl, rfl, u1, u2⟩
  exact g_iret dX7_fault_7 rfl (Nat.le_refl _) (Nat.le_refl _) ⟨rfl, rfl, u1⟩
theorem R_c_lay (l : lt_L) (d : Nat) (t : lt_H) (σ : lt_S) {n : Nat} {tx : Nat → Nat} (hT : TC σ n tx) {r : Nat → Int32} (hr : Beg r) : lt_R l (d + 7) 0 0 mX7_lay (lt_SC ++ t) σ [.ref 10] (fun r' sh' σ' => r' = some (if layOk (parseM tx n r) then (parseM tx n r).2 2 else -2) ∧ sh' = lt_SC ++ t ∧ (if layOk (parseM tx n r) then ∃ ln T N σ1, Wf (parseM tx n r).2 ln T N ∧ PF σ σ1 ∧ CR23 σ1 (parseM tx n r).2 ∧ σ' = lt_up (S_work σ1 (parseM tx n r).2 T N) 44 2 (nI 0) else PF25 σ σ')) := by
  refine lt_R.of [some (.ref 10)] rfl rfl (Nat.le_of_ble_eq_true rfl) ?_
  have hlt := parseL_lt (tx := tx) (n := n) (n + 1) r 0 (by omega) (by omega)
  have hn2 := hT.2.1
  obtain ⟨ln, T, N, hW⟩ := parseL_wp (tx := tx) (n := n) (n + 1) r 0 ⟨0, 0, 0, hr.wp⟩
  have ff1 := R_c_firstFault25 l d t σ hT hr
  have ffx := fun (σ2 : lt_S) (hT2 : TC σ2 n tx) => R_c_firstFault23 l d t σ2 hT2 hr
  rw [show parseL tx n (n + 1) r 0 = parseM tx n r from rfl] at hlt hW
  generalize parseM tx n r = q at *
  have e0 : nI 0 = 0 := nI_0
  cases hq : q.1 with
  | some p =>
    have hp := hlt p hq
    have hno : layOk q = false := by unfold layOk; rw [hq]; rfl
    rw [hno]
    refine g_al0 (pc2 := 1) dX7_lay_0 rfl ?_
    refine g_getr (pc2 := 4) (by rfl) (by rfl) flX7_39 dX7_lay_1 rfl ?_
    refine g_callV (pc2 := 7) (ff1) meX3_firstFault mlX7_96 (by rfl) ⟨_, rfl, rfl⟩ rfl rfl (by simp) ⟨Nat.le_refl _, Nat.le_refl _⟩ dX7_lay_4 rfl ?_
    rintro r2 sh2 σ2 ⟨rfl, rfl, u1, u2⟩
    show lt_G l (d + 7) 0 0 mX7_lay 0 0 (lt_SC ++ t) σ2 7 _ [.int (oI q.1)] _
    rw [hq]
    show lt_G l (d + 7) 0 0 mX7_lay 0 0 (lt_SC ++ t) σ2 7 _ [.int (nI p)] _
    refine g_bipush (pc2 := 9) dX7_lay_7 k_bipush_m4 rfl ?_
    refine g_icmp_ne 25 12 dX7_lay_9 rfl rfl (fun h9 => ?_) (fun h9 => absurd h9 (m4_ne (by omega)))
    refine g_bipush (pc2 := 27) dX7_lay_25 k_bipush_m2 rfl ?_
    exact g_iret dX7_lay_27 rfl (Nat.le_refl _) (Nat.le_refl _) ⟨rfl, rfl, u1⟩
  | none =>
    have go : ∀ σ2, PF25 σ σ2 → CR25 σ2 q.2 → lt_G l (d + 7) 0 0 mX7_lay 0 0 (lt_SC ++ t) σ2 12 [some (.ref 10)] [] (fun r' sh' σ' => r' = some (if layOk q then q.2 2 else -2) ∧ sh' = lt_SC ++ t ∧ (if layOk q then ∃ ln T N σ1, Wf q.2 ln T N ∧ PF σ σ1 ∧ CR23 σ1 q.2 ∧ σ' = lt_up (S_work σ1 q.2 T N) 44 2 (nI 0) else PF25 σ σ')) := by
      intro σ2 u1 u2
      have y0 : σ2 26 0 = q.2 0 := u2.1.1.1
      by_cases h0 : q.2 0 = nI 0
      · have hno : layOk q = false := by unfold layOk; rw [hq, decide_eq_true h0]; rfl
        rw [hno]
        refine g_al0 (pc2 := 13) dX7_lay_12 rfl ?_
        refine g_getr (pc2 := 16) (by rfl) (by rfl) flX7_39 dX7_lay_13 rfl ?_
        refine g_getr (pc2 := 19) (by rfl) (by rfl) flX7_99 dX7_lay_16 rfl ?_
        refine g_geti (pc2 := 22) (by rfl) (by rfl) flX7_100 dX7_lay_19 rfl ?_
        rw [y0]
        refine g_if_ne 28 25 dX7_lay_22 rfl rfl (fun h22 => ?_) (fun h22 => ?_)
        · exact absurd (h0.trans e0) h22
        · refine g_bipush (pc2 := 27) dX7_lay_25 k_bipush_m2 rfl ?_
          exact g_iret dX7_lay_27 rfl (Nat.le_refl _) (Nat.le_refl _) ⟨rfl, rfl, u1⟩
      · have hyes : layOk q = true := by unfold layOk; rw [hq, decide_eq_false h0]; rfl
        rw [hyes]
        have hf := hW.wf h0
        have hT2 : TC σ2 n tx := by
          unfold TC
          rw [u1 11 (by decide), u1 12 (by decide)]
          exact hT
        have fin : ∀ σ3, PF23 σ2 σ3 → CR23 σ3 q.2 → lt_G l (d + 7) 0 0 mX7_lay 0 0 (lt_SC ++ t) σ3 36 [some (.ref 10)] [] (fun r' sh' σ' => r' = some (if true = true then q.2 2 else -2) ∧ sh' = lt_SC ++ t ∧ (if true = true then ∃ ln T N σ1, Wf q.2 ln T N ∧ PF σ σ1 ∧ CR23 σ1 q.2 ∧ σ' = lt_up (S_work σ1 q.2 T N) 44 2 (nI 0) else PF25 σ σ')) := by
          intro σ3 v1 v2
          have eN := hW.e.2.2
          have v3 := v2
          unfold CR23 at v3
          rw [eN] at v3
          have y2 : lt_up (S_work σ3 q.2 T N) 44 2 (nI 0) 13 2 = q.2 2 := v2.1.1.2.2.1
          refine g_al0 (pc2 := 37) dX7_lay_36 rfl ?_
          refine g_getr (pc2 := 40) (by rfl) (by rfl) flX7_47 dX7_lay_37 rfl ?_
          refine g_cVv (pc2 := 43) (R_c_workOut l (d + 1) t σ3 hf v3.1 v3.2) meX0_workOut mlX7_103 (by rfl) ⟨_, rfl, rfl⟩ rfl rfl (by simp) ⟨Nat.le_refl _, Nat.le_refl _⟩ dX7_lay_40 rfl ?_
          refine g_al0 (pc2 := 44) dX7_lay_43 rfl ?_
          refine g_getr (pc2 := 47) (by rfl) (by rfl) flX7_63 dX7_lay_44 rfl ?_
          refine g_iconst (pc2 := 48) dX7_lay_47 k_iconst_0 rfl ?_
          refine g_puti (pc2 := 51) (by rfl) (by rfl) flX7_106 (fpX1_2 _) (fun h => by first | cases h | rfl) dX7_lay_48 rfl ?_
          refine g_al0 (pc2 := 52) dX7_lay_51 rfl ?_
          refine g_getr (pc2 := 55) (by rfl) (by rfl) flX7_19 dX7_lay_52 rfl ?_
          refine g_geti (pc2 := 58) (by rfl) (by rfl) flX7_109 dX7_lay_55 rfl ?_
          rw [y2]
          refine g_iret dX7_lay_58 rfl (Nat.le_refl _) (Nat.le_refl _) ⟨rfl, rfl, ?_⟩
          exact ⟨ln, T, N, σ3, hf, fun a ha => (v1 a (by omega)).trans (u1 a (by omega)), v2, rfl⟩
        refine g_al0 (pc2 := 13) dX7_lay_12 rfl ?_
        refine g_getr (pc2 := 16) (by rfl) (by rfl) flX7_39 dX7_lay_13 rfl ?_
        refine g_getr (pc2 := 19) (by rfl) (by rfl) flX7_99 dX7_lay_16 rfl ?_
        refine g_geti (pc2 := 22) (by rfl) (by rfl) flX7_100 dX7_lay_19 rfl ?_
        rw [y0]
        refine g_if_ne 28 25 dX7_lay_22 rfl rfl (fun h22 => ?_) (fun h22 => ?_)
        · refine g_al0 (pc2 := 29) dX7_lay_28 rfl ?_
          refine g_getr (pc2 := 32) (by rfl) (by rfl) flX7_35 dX7_lay_29 rfl ?_
          refine g_callV (pc2 := 35) (ffx σ2 hT2) meX3_firstFault mlX7_96 (by rfl) ⟨_, rfl, rfl⟩ rfl rfl (by simp) ⟨Nat.le_refl _, Nat.le_refl _⟩ dX7_lay_32 rfl ?_
          rintro r2 sh2 σ3 ⟨rfl, rfl, v1, v2⟩
          refine g_pop (pc2 := 36) dX7_lay_35 rfl ?_
          exact fin σ3 v1 (v2 hq)
        · exact absurd (h22.trans e0.symm) h0
    refine g_al0 (pc2 := 1) dX7_lay_0 rfl ?_
    refine g_getr (pc2 := 4) (by rfl) (by rfl) flX7_39 dX7_lay_1 rfl ?_
    refine g_callV (pc2 := 7) (ff1) meX3_firstFault mlX7_96 (by rfl) ⟨_, rfl, rfl⟩ rfl rfl (by simp) ⟨Nat.le_refl _, Nat.le_refl _⟩ dX7_lay_4 rfl ?_
    rintro r2 sh2 σ2 ⟨rfl, rfl, u1, u2⟩
    show lt_G l (d + 7) 0 0 mX7_lay 0 0 (lt_SC ++ t) σ2 7 _ [.int (oI q.1)] _
    rw [hq]
    show lt_G l (d + 7) 0 0 mX7_lay 0 0 (lt_SC ++ t) σ2 7 _ [.int (-4)] _
    refine g_bipush (pc2 := 9) dX7_lay_7 k_bipush_m4 rfl ?_
    refine g_icmp_ne 25 12 dX7_lay_9 rfl rfl (fun h9 => absurd rfl h9) (fun h9 => ?_)
    exact go σ2 u1 (u2 hq)
