/-! the class: late, undo, write, wipe; what is read -/
theorem S_work_ne (σ : lt_S) (w : Nat → Int32) (T N : Nat) {x : Nat} (h : x ≠ 38) : S_work σ w T N x = σ x := lt_ur_ne _ _ h
/-- the class for another plan of the same yard, its seats worked out -/
theorem CC.work {σ : lt_S} {w : Nat → Int32} {ln T N : Nat} (hw : Wf w ln T N) (hy : CY 13 σ w N) (hp : CP 18 σ w N) : CC (S_work σ w T N) w ln T N := ⟨hw, hy, hp, CA_work σ w T N hw.2.1.2.2⟩
theorem CY.same {σ : lt_S} {y : Nat} {w w' : Nat → Int32} {N : Nat} (h : CY y σ w N) (hs : SameY w w' N) : CY y σ w' N := by
  obtain ⟨⟨a0, a1, a2, a3⟩, b, c⟩ := h
  refine ⟨⟨by rw [hs.1 0 (by decide)]; exact a0, by rw [hs.1 1 (by decide)]; exact a1, by rw [hs.1 2 (by decide)]; exact a2, by rw [hs.1 3 (by decide)]; exact a3⟩, fun k hk => by rw [hs.1 _ (by omega)]; exact b k hk, fun i hi => ?_⟩
  obtain ⟨s0, s1, s5⟩ := hs.2 i hi
  rw [s0, s1, s5]
  exact c i hi
def S_clate1 (σ : lt_S) (nx c : Nat) (w : Nat → Int32) (i : Nat) (x : Int32) : lt_S := lt_up (lt_up (S_ckeep σ nx c) 19 i (w (16 + 7 * i + 2) + x)) 20 i (w (16 + 7 * i + 3) + x)
def S_clate (σ : lt_S) (nx c : Nat) (w : Nat → Int32) (T N i : Nat) (x : Int32) : lt_S := if lost_late (pf_late w i x) i then lt_up (S_work (S_clate1 σ nx c w i x) (pf_late w i x) T N) 22 i (-4) else S_work (S_clate1 σ nx c w i x) (pf_late w i x) T N
theorem CP.late {σ : lt_S} {w : Nat → Int32} {N nx c i : Nat} {x : Int32} (hx : nx < 6) (hp : CP 18 σ w N) : CP 18 (S_clate1 σ nx c w i x) (pf_late w i x) N := by
  intro j hj
  obtain ⟨p1, p2, p3, p4⟩ := hp j hj
  unfold S_clate1
  rw [pf_late_at w i x j 2 (by decide), pf_late_at w i x j 3 (by decide), pf_late_at w i x j 4 (by decide), pf_late_at w i x j 6 (by decide)]
  rw [if_neg (show ¬ (j = i ∧ (4 = 2 ∨ 4 = 3)) by omega), if_neg (show ¬ (j = i ∧ (6 = 2 ∨ 6 = 3)) by omega)]
  refine ⟨?_, ?_, ?_, ?_⟩
  · show lt_up (lt_up (S_ckeep σ nx c) 19 i _) 20 i _ 19 j = _
    rw [lt_up_nr _ _ _ (by decide)]
    by_cases e : j = i
    · subst e; rw [lt_up_at, if_pos ⟨rfl, Or.inl rfl⟩]
    · rw [lt_up_ne _ _ _ e, if_neg (by omega), S_ckeep_ne _ (by omega) hx]; exact p1
  · show lt_up (lt_up (S_ckeep σ nx c) 19 i _) 20 i _ 20 j = _
    by_cases e : j = i
    · subst e; rw [lt_up_at, if_pos ⟨rfl, Or.inr rfl⟩]
    · rw [lt_up_ne _ _ _ e, lt_up_nr _ _ _ (by decide), if_neg (by omega), S_ckeep_ne _ (by omega) hx]; exact p2
  · show lt_up (lt_up (S_ckeep σ nx c) 19 i _) 20 i _ 21 j = _
    rw [lt_up_nr _ _ _ (by decide), lt_up_nr _ _ _ (by decide), S_ckeep_ne _ (by omega) hx]; exact p3
  · show lt_up (lt_up (S_ckeep σ nx c) 19 i _) 20 i _ 22 j = _
    rw [lt_up_nr _ _ _ (by decide), lt_up_nr _ _ _ (by decide), S_ckeep_ne _ (by omega) hx]; exact p4
theorem S_clate1_far (σ : lt_S) {nx c : Nat} (w : Nat → Int32) (i : Nat) (x : Int32) (hx : nx < 6) {a : Nat} (ha : a < 44 ∨ 75 < a) (h1 : a ≠ 19) (h2 : a ≠ 20) : S_clate1 σ nx c w i x a = σ a := by
  unfold S_clate1
  rw [lt_up_nr _ _ _ h2, lt_up_nr _ _ _ h1, S_ckeep_ne _ ha hx]
theorem CC.late {σ : lt_S} {w : Nat → Int32} {ln T N nx c i : Nat} {x : Int32} (hx : nx < 6) (hc : CC σ w ln T N) (hwl : Wf (pf_late w i x) ln T N) : CY 13 (S_clate1 σ nx c w i x) (pf_late w i x) N ∧ CP 18 (S_clate1 σ nx c w i x) (pf_late w i x) N := by
  refine ⟨?_, CP.late hx hc.2.2.1⟩
  have hy := hc.2.1.same (pf_late_sy w N i x)
  unfold CY at hy ⊢
  simp only [S_clate1_far σ w i x hx (show 13 < 44 ∨ 75 < 13 by omega) (by decide) (by decide), S_clate1_far σ w i x hx (show 13 + 1 < 44 ∨ 75 < 13 + 1 by omega) (by decide) (by decide), S_clate1_far σ w i x hx (show 13 + 2 < 44 ∨ 75 < 13 + 2 by omega) (by decide) (by decide), S_clate1_far σ w i x hx (show 13 + 3 < 44 ∨ 75 < 13 + 3 by omega) (by decide) (by decide), S_clate1_far σ w i x hx (show 13 + 4 < 44 ∨ 75 < 13 + 4 by omega) (by decide) (by decide)]
  exact hy
theorem R_c_late (l : lt_L) (d : Nat) (t : lt_H) (σ : lt_S) {w : Nat → Int32} {ln T N nx c : Nat} (hc : CC σ w ln T N) (hk : KP σ nx c) (i x : Int32) : lt_T l (d + 6) mX7_late (lt_SC ++ t) σ [.ref 10, .int i, .int x] (some (F_late w i x)) (if ok_late w i x && can_late w (tN i) x then S_clate σ nx c w T N (tN i) x else σ) := by
  refine lt_T.of [some (.ref 10), some (.int i), some (.int x), none] rfl rfl (Nat.le_of_ble_eq_true rfl) ?_
  have hw := hc.1
  have hN := hw.2.2.1
  have hT := hw.2.1
  have e2 : σ 13 2 = w 2 := hc.2.1.1.2.2.1
  generalize hr : some (F_late w i x) = r
  generalize hs : (if ok_late w i x && can_late w (tN i) x then S_clate σ nx c w T N (tN i) x else σ) = s2
  have fin : hasB i (w 2) = true → ok_late w i x = true → lt_g l (d + 6) mX7_late (lt_SC ++ t) σ 29 [some (.ref 10), some (.int i), some (.int x), none] [] r s2 := by
    intro hb hok
    rw [hN.1] at hb
    obtain ⟨i, hi, rfl⟩ := hasB_ix (by omega) hb
    have t1 := tN_nI (show i < 2 ^ 31 by omega)
    have hx : inB x (-20) (nI 60) = true := by simp [ok_late] at hok; exact hok.2.2
    obtain ⟨p1, p2, p3, p4⟩ := hc.2.2.1 i hi
    have e19 : σ 19 i = w (16 + 7 * i + 2) := p1
    have e20 : σ 20 i = w (16 + 7 * i + 3) := p2
    have e22 : σ 22 i = w (16 + 7 * i + 6) := p4
    subst hr
    subst hs
    simp only [F_late, hok, t1]
    by_cases hcan : can_late w i x = true
    · have h1 : ¬ w (16 + 7 * i + 2) + x < nI 1 := by simp [can_late] at hcan; exact Int32.not_lt.mpr hcan.1
      have h2 : w (16 + 7 * i + 3) + x ≤ nI 98 := by simp [can_late] at hcan; exact hcan.2
      have hwl := hw.late hi hx h1 h2
      obtain ⟨hy1, hp1⟩ := CC.late (c := c) hk.2.1 hc hwl
      have g19 : S_ckeep σ nx c 19 i = w (16 + 7 * i + 2) := by rw [S_ckeep_ne _ (by omega) hk.2.1]; exact e19
      have g20 : lt_up (S_ckeep σ nx c) 19 i (w (16 + 7 * i + 2) + x) 20 i = w (16 + 7 * i + 3) := by rw [lt_up_nr _ _ _ (by decide), S_ckeep_ne _ (by omega) hk.2.1]; exact e20
      have hS1 : lt_up (lt_up (S_ckeep σ nx c) 19 i (w (16 + 7 * i + 2) + x)) 20 i (w (16 + 7 * i + 3) + x) = S_clate1 σ nx c w i x := rfl
      have e6 : pf_late w i x (16 + 7 * i + 6) = w (16 + 7 * i + 6) := by rw [pf_late_at _ _ _ _ _ (by decide), if_neg (by omega)]
      have g22 : S_work (S_clate1 σ nx c w i x) (pf_late w i x) T N 22 i = w (16 + 7 * i + 6) := by rw [S_work_ne _ _ _ _ (by decide), S_clate1_far _ _ _ _ hk.2.1 (by omega) (by decide) (by decide)]; exact e22
      have hcc := CC.work hwl hy1 hp1
      simp only [hcan, Bool.and_self, if_true]
      by_cases hp : w (16 + 7 * i + 6) = -4
      · have hl : lost_late (pf_late w i x) i = false := by simp [lost_late, e6, hp]
        simp only [S_clate, hl]
        refine g_al0 (pc2 := 30) dX7_late_29 rfl ?_
        refine g_getr (pc2 := 33) (by rfl) (by rfl) flX7_26 dX7_late_30 rfl ?_
        refine g_getr (pc2 := 36) (by rfl) (by rfl) flX7_132 dX7_late_33 rfl ?_
        refine g_il1 (pc2 := 37) dX7_late_36 rfl ?_
        refine g_iald (pc2 := 38) (by rfl) (by omega) (by decide) dX7_late_37 rfl ?_
        rw [e19]
        refine g_il2 (pc2 := 39) dX7_late_38 rfl ?_
        refine g_iadd (pc2 := 40) dX7_late_39 rfl ?_
        refine g_iconst (pc2 := 41) dX7_late_40 k_iconst_1 rfl ?_
        refine g_icmp_lt 60 44 dX7_late_41 rfl rfl (fun h41 => ?_) (fun h41 => ?_)
        · exact absurd h41 h1
        · refine g_al0 (pc2 := 45) dX7_late_44 rfl ?_
          refine g_getr (pc2 := 48) (by rfl) (by rfl) flX7_26 dX7_late_45 rfl ?_
          refine g_getr (pc2 := 51) (by rfl) (by rfl) flX7_135 dX7_late_48 rfl ?_
          refine g_il1 (pc2 := 52) dX7_late_51 rfl ?_
          refine g_iald (pc2 := 53) (by rfl) (by omega) (by decide) dX7_late_52 rfl ?_
          rw [e20]
          refine g_il2 (pc2 := 54) dX7_late_53 rfl ?_
          refine g_iadd (pc2 := 55) dX7_late_54 rfl ?_
          refine g_bipush (pc2 := 57) dX7_late_55 k_bipush_98 rfl ?_
          refine g_icmp_le 63 60 dX7_late_57 rfl rfl (fun h57 => ?_) (fun h57 => ?_)
          · refine g_al0 (pc2 := 64) dX7_late_63 rfl ?_
            refine g_getr (pc2 := 67) (by rfl) (by rfl) flX7_63 dX7_late_64 rfl ?_
            refine g_al0 (pc2 := 68) dX7_late_67 rfl ?_
            refine g_getr (pc2 := 71) (by rfl) (by rfl) flX7_26 dX7_late_68 rfl ?_
            refine g_cVv (pc2 := 74) (R_c_keep l (d + 3) _ _ hk) meX1_keep mlX7_163 (by rfl) ⟨_, rfl, rfl⟩ rfl rfl (by simp) ⟨Nat.le_refl _, Nat.le_refl _⟩ dX7_late_71 rfl ?_
            refine g_al0 (pc2 := 75) dX7_late_74 rfl ?_
            refine g_getr (pc2 := 78) (by rfl) (by rfl) flX7_26 dX7_late_75 rfl ?_
            refine g_getr (pc2 := 81) (by rfl) (by rfl) flX7_132 dX7_late_78 rfl ?_
            refine g_il1 (pc2 := 82) dX7_late_81 rfl ?_
            refine g_dup2 (pc2 := 83) dX7_late_82 rfl ?_
            refine g_iald (pc2 := 84) (by rfl) (by omega) (by decide) dX7_late_83 rfl ?_
            rw [g19]
            refine g_il2 (pc2 := 85) dX7_late_84 rfl ?_
            refine g_iadd (pc2 := 86) dX7_late_85 rfl ?_
            refine g_iast (pc2 := 87) (by rfl) (by omega) (by decide) dX7_late_86 rfl ?_
            refine g_al0 (pc2 := 88) dX7_late_87 rfl ?_
            refine g_getr (pc2 := 91) (by rfl) (by rfl) flX7_26 dX7_late_88 rfl ?_
            refine g_getr (pc2 := 94) (by rfl) (by rfl) flX7_135 dX7_late_91 rfl ?_
            refine g_il1 (pc2 := 95) dX7_late_94 rfl ?_
            refine g_dup2 (pc2 := 96) dX7_late_95 rfl ?_
            refine g_iald (pc2 := 97) (by rfl) (by omega) (by decide) dX7_late_96 rfl ?_
            rw [g20]
            refine g_il2 (pc2 := 98) dX7_late_97 rfl ?_
            refine g_iadd (pc2 := 99) dX7_late_98 rfl ?_
            refine g_iast (pc2 := 100) (by rfl) (by omega) (by decide) dX7_late_99 rfl ?_
            rw [hS1]
            refine g_al0 (pc2 := 101) dX7_late_100 rfl ?_
            refine g_getr (pc2 := 104) (by rfl) (by rfl) flX7_47 dX7_late_101 rfl ?_
            refine g_cVv (pc2 := 107) (R_c_workOut l d _ _ hwl hy1 hp1) meX0_workOut mlX7_103 (by rfl) ⟨_, rfl, rfl⟩ rfl rfl (by simp) ⟨Nat.le_refl _, Nat.le_refl _⟩ dX7_late_104 rfl ?_
            refine g_al0 (pc2 := 108) dX7_late_107 rfl ?_
            refine g_getr (pc2 := 111) (by rfl) (by rfl) flX7_26 dX7_late_108 rfl ?_
            refine g_getr (pc2 := 114) (by rfl) (by rfl) flX7_144 dX7_late_111 rfl ?_
            refine g_il1 (pc2 := 115) dX7_late_114 rfl ?_
            refine g_iald (pc2 := 116) (by rfl) (by omega) (by decide) dX7_late_115 rfl ?_
            rw [g22]
            refine g_is3 (pc2 := 117) dX7_late_116 (by decide) rfl ?_
            refine g_il3 (pc2 := 118) dX7_late_117 rfl ?_
            refine g_bipush (pc2 := 120) dX7_late_118 k_bipush_m4 rfl ?_
            refine g_icmp_eq 135 123 dX7_late_120 rfl rfl (fun h120 => ?_) (fun h120 => ?_)
            · refine g_iconst (pc2 := 136) dX7_late_135 k_iconst_0 rfl ?_
              exact g_iretT dX7_late_136 rfl (Nat.le_refl _) (Nat.le_refl _) (rfl) (rfl)
            · exact absurd hp h120
          · exact absurd h2 h57
      · obtain ⟨b, hb1, hb2, hb3⟩ := hw.pl hi hp
        have hbl : pf_late w i x (16 + 7 * i + 6) = nI b := e6.trans hb2
        have hfl : pf_fit (pf_late w i x) i b = true := by rw [(pf_late_sy w N i x).fit hi (hw.ln hi) (by omega)]; exact hb3
        have hff := hfl
        simp only [pf_fit, Bool.and_eq_true, Bool.not_eq_true', decide_eq_false_iff_not] at hff
        have hl : lost_late (pf_late w i x) i = !decide (pf_why (pf_late w i x) i b = 0) := by
          unfold lost_late
          rw [hbl, tN_nI (by omega), decide_eq_false (m4_ne (show b < 2 ^ 31 by omega))]
          simp only [Bool.not_false, Bool.true_and]
          congr 1
          rw [decide_eq_decide]
          unfold pf_why
          rw [if_neg hff.1, if_neg hff.2]
          cases pf_clashing (pf_late w i x) i b <;> simp
        rw [hb2] at g22
        simp only [S_clate, hl]
        refine g_al0 (pc2 := 30) dX7_late_29 rfl ?_
        refine g_getr (pc2 := 33) (by rfl) (by rfl) flX7_26 dX7_late_30 rfl ?_
        refine g_getr (pc2 := 36) (by rfl) (by rfl) flX7_132 dX7_late_33 rfl ?_
        refine g_il1 (pc2 := 37) dX7_late_36 rfl ?_
        refine g_iald (pc2 := 38) (by rfl) (by omega) (by decide) dX7_late_37 rfl ?_
        rw [e19]
        refine g_il2 (pc2 := 39) dX7_late_38 rfl ?_
        refine g_iadd (pc2 := 40) dX7_late_39 rfl ?_
        refine g_iconst (pc2 := 41) dX7_late_40 k_iconst_1 rfl ?_
        refine g_icmp_lt 60 44 dX7_late_41 rfl rfl (fun h41 => ?_) (fun h41 => ?_)
        · exact absurd h41 h1
        · refine g_al0 (pc2 := 45) dX7_late_44 rfl ?_
          refine g_getr (pc2 := 48) (by rfl) (by rfl) flX7_26 dX7_late_45 rfl ?_
          refine g_getr (pc2 := 51) (by rfl) (by rfl) flX7_135 dX7_late_48 rfl ?_
          refine g_il1 (pc2 := 52) dX7_late_51 rfl ?_
          refine g_iald (pc2 := 53) (by rfl) (by omega) (by decide) dX7_late_52 rfl ?_
          rw [e20]
          refine g_il2 (pc2 := 54) dX7_late_53 rfl ?_
          refine g_iadd (pc2 := 55) dX7_late_54 rfl ?_
          refine g_bipush (pc2 := 57) dX7_late_55 k_bipush_98 rfl ?_
          refine g_icmp_le 63 60 dX7_late_57 rfl rfl (fun h57 => ?_) (fun h57 => ?_)
          · refine g_al0 (pc2 := 64) dX7_late_63 rfl ?_
            refine g_getr (pc2 := 67) (by rfl) (by rfl) flX7_63 dX7_late_64 rfl ?_
            refine g_al0 (pc2 := 68) dX7_late_67 rfl ?_
            refine g_getr (pc2 := 71) (by rfl) (by rfl) flX7_26 dX7_late_68 rfl ?_
            refine g_cVv (pc2 := 74) (R_c_keep l (d + 3) _ _ hk) meX1_keep mlX7_163 (by rfl) ⟨_, rfl, rfl⟩ rfl rfl (by simp) ⟨Nat.le_refl _, Nat.le_refl _⟩ dX7_late_71 rfl ?_
            refine g_al0 (pc2 := 75) dX7_late_74 rfl ?_
            refine g_getr (pc2 := 78) (by rfl) (by rfl) flX7_26 dX7_late_75 rfl ?_
            refine g_getr (pc2 := 81) (by rfl) (by rfl) flX7_132 dX7_late_78 rfl ?_
            refine g_il1 (pc2 := 82) dX7_late_81 rfl ?_
            refine g_dup2 (pc2 := 83) dX7_late_82 rfl ?_
            refine g_iald (pc2 := 84) (by rfl) (by omega) (by decide) dX7_late_83 rfl ?_
            rw [g19]
            refine g_il2 (pc2 := 85) dX7_late_84 rfl ?_
            refine g_iadd (pc2 := 86) dX7_late_85 rfl ?_
            refine g_iast (pc2 := 87) (by rfl) (by omega) (by decide) dX7_late_86 rfl ?_
            refine g_al0 (pc2 := 88) dX7_late_87 rfl ?_
            refine g_getr (pc2 := 91) (by rfl) (by rfl) flX7_26 dX7_late_88 rfl ?_
            refine g_getr (pc2 := 94) (by rfl) (by rfl) flX7_135 dX7_late_91 rfl ?_
            refine g_il1 (pc2 := 95) dX7_late_94 rfl ?_
            refine g_dup2 (pc2 := 96) dX7_late_95 rfl ?_
            refine g_iald (pc2 := 97) (by rfl) (by omega) (by decide) dX7_late_96 rfl ?_
            rw [g20]
            refine g_il2 (pc2 := 98) dX7_late_97 rfl ?_
            refine g_iadd (pc2 := 99) dX7_late_98 rfl ?_
            refine g_iast (pc2 := 100) (by rfl) (by omega) (by decide) dX7_late_99 rfl ?_
            rw [hS1]
            refine g_al0 (pc2 := 101) dX7_late_100 rfl ?_
            refine g_getr (pc2 := 104) (by rfl) (by rfl) flX7_47 dX7_late_101 rfl ?_
            refine g_cVv (pc2 := 107) (R_c_workOut l d _ _ hwl hy1 hp1) meX0_workOut mlX7_103 (by rfl) ⟨_, rfl, rfl⟩ rfl rfl (by simp) ⟨Nat.le_refl _, Nat.le_refl _⟩ dX7_late_104 rfl ?_
            refine g_al0 (pc2 := 108) dX7_late_107 rfl ?_
            refine g_getr (pc2 := 111) (by rfl) (by rfl) flX7_26 dX7_late_108 rfl ?_
            refine g_getr (pc2 := 114) (by rfl) (by rfl) flX7_144 dX7_late_111 rfl ?_
            refine g_il1 (pc2 := 115) dX7_late_114 rfl ?_
            refine g_iald (pc2 := 116) (by rfl) (by omega) (by decide) dX7_late_115 rfl ?_
            rw [g22]
            refine g_is3 (pc2 := 117) dX7_late_116 (by decide) rfl ?_
            refine g_il3 (pc2 := 118) dX7_late_117 rfl ?_
            refine g_bipush (pc2 := 120) dX7_late_118 k_bipush_m4 rfl ?_
            refine g_icmp_eq 135 123 dX7_late_120 rfl rfl (fun h120 => ?_) (fun h120 => ?_)
            · exact absurd h120 (m4_ne (by omega))
            · refine g_al0 (pc2 := 124) dX7_late_123 rfl ?_
              refine g_getr (pc2 := 127) (by rfl) (by rfl) flX7_47 dX7_late_124 rfl ?_
              refine g_il1 (pc2 := 128) dX7_late_127 rfl ?_
              refine g_il3 (pc2 := 129) dX7_late_128 rfl ?_
              refine g_cVi (pc2 := 132) (R_c_isFree l (d + 2) _ _ hcc _ _ hi hb1) meX0_isFree mlX7_160 (by rfl) ⟨_, rfl, rfl⟩ rfl rfl (by simp) ⟨Nat.le_refl _, Nat.le_refl _⟩ dX7_late_129 rfl ?_
              refine g_if_eqB 137 135 dX7_late_132 rfl rfl (fun h132 => ?_) (fun h132 => ?_)
              · refine g_al0 (pc2 := 138) dX7_late_137 rfl ?_
                refine g_getr (pc2 := 141) (by rfl) (by rfl) flX7_26 dX7_late_138 rfl ?_
                refine g_getr (pc2 := 144) (by rfl) (by rfl) flX7_144 dX7_late_141 rfl ?_
                refine g_il1 (pc2 := 145) dX7_late_144 rfl ?_
                refine g_bipush (pc2 := 147) dX7_late_145 k_bipush_m4 rfl ?_
                refine g_iast (pc2 := 148) (by rfl) (by omega) (by decide) dX7_late_147 rfl ?_
                refine g_iconst (pc2 := 149) dX7_late_148 k_iconst_1 rfl ?_
                exact g_iretT dX7_late_149 rfl (Nat.le_refl _) (Nat.le_refl _) (by rw [h132]; rfl) (by rw [h132]; rfl)
              · refine g_iconst (pc2 := 136) dX7_late_135 k_iconst_0 rfl ?_
                exact g_iretT dX7_late_136 rfl (Nat.le_refl _) (Nat.le_refl _) (by rw [h132]; rfl) (by rw [h132]; rfl)
          · exact absurd h2 h57
    · have hcan2 : can_late w i x = false := by simpa using hcan
      simp only [hcan2, Bool.and_false]
      refine g_al0 (pc2 := 30) dX7_late_29 rfl ?_
      refine g_getr (pc2 := 33) (by rfl) (by rfl) flX7_26 dX7_late_30 rfl ?_
      refine g_getr (pc2 := 36) (by rfl) (by rfl) flX7_132 dX7_late_33 rfl ?_
      refine g_il1 (pc2 := 37) dX7_late_36 rfl ?_
      refine g_iald (pc2 := 38) (by rfl) (by omega) (by decide) dX7_late_37 rfl ?_
      rw [e19]
      refine g_il2 (pc2 := 39) dX7_late_38 rfl ?_
      refine g_iadd (pc2 := 40) dX7_late_39 rfl ?_
      refine g_iconst (pc2 := 41) dX7_late_40 k_iconst_1 rfl ?_
      refine g_icmp_lt 60 44 dX7_late_41 rfl rfl (fun h41 => ?_) (fun h41 => ?_)
      · refine g_bipush (pc2 := 62) dX7_late_60 k_bipush_m2 rfl ?_
        exact g_iretT dX7_late_62 rfl (Nat.le_refl _) (Nat.le_refl _) (by rfl) (by rfl)
      · refine g_al0 (pc2 := 45) dX7_late_44 rfl ?_
        refine g_getr (pc2 := 48) (by rfl) (by rfl) flX7_26 dX7_late_45 rfl ?_
        refine g_getr (pc2 := 51) (by rfl) (by rfl) flX7_135 dX7_late_48 rfl ?_
        refine g_il1 (pc2 := 52) dX7_late_51 rfl ?_
        refine g_iald (pc2 := 53) (by rfl) (by omega) (by decide) dX7_late_52 rfl ?_
        rw [e20]
        refine g_il2 (pc2 := 54) dX7_late_53 rfl ?_
        refine g_iadd (pc2 := 55) dX7_late_54 rfl ?_
        refine g_bipush (pc2 := 57) dX7_late_55 k_bipush_98 rfl ?_
        refine g_icmp_le 63 60 dX7_late_57 rfl rfl (fun h57 => ?_) (fun h57 => ?_)
        · exact absurd hcan2 (by simp [can_late, h41, h57])
        · refine g_bipush (pc2 := 62) dX7_late_60 k_bipush_m2 rfl ?_
          exact g_iretT dX7_late_62 rfl (Nat.le_refl _) (Nat.le_refl _) (by rfl) (by rfl)
  refine g_al0 (pc2 := 1) dX7_late_0 rfl ?_
  refine g_getr (pc2 := 4) (by rfl) (by rfl) flX7_19 dX7_late_1 rfl ?_
  refine g_il1 (pc2 := 5) dX7_late_4 rfl ?_
  refine g_cVi (pc2 := 8) (R_c_hasTrain13 l (d + 4) _ _ _) meX6_hasTrain mlX7_122 (by rfl) ⟨_, rfl, rfl⟩ rfl rfl (by simp) ⟨Nat.le_refl _, Nat.le_refl _⟩ dX7_late_5 rfl ?_
  rw [e2]
  refine g_if_eqB 27 11 dX7_late_8 rfl rfl (fun h8 => ?_) (fun h8 => ?_)
  · subst hr
    subst hs
    refine g_iconst (pc2 := 28) dX7_late_27 k_iconst_m1 rfl ?_
    exact g_iretT dX7_late_28 rfl (Nat.le_refl _) (Nat.le_refl _) (by first | (simp [F_late, ok_late, h8]; done) | (simp [F_late, ok_late, h12]; done) | (simp [F_late, ok_late, inB, h18]; done) | (simp [F_late, ok_late, inB, Int32.not_le.mp h24]; done)) (by first | (simp [ok_late, h8]; done) | (simp [ok_late, h12]; done) | (simp [ok_late, inB, h18]; done) | (simp [ok_late, inB, Int32.not_le.mp h24]; done))
  · refine g_il2 (pc2 := 12) dX7_late_11 rfl ?_
    refine g_if_eq 27 15 dX7_late_12 rfl rfl (fun h12 => ?_) (fun h12 => ?_)
    · subst hr
      subst hs
      refine g_iconst (pc2 := 28) dX7_late_27 k_iconst_m1 rfl ?_
      exact g_iretT dX7_late_28 rfl (Nat.le_refl _) (Nat.le_refl _) (by first | (simp [F_late, ok_late, h8]; done) | (simp [F_late, ok_late, h12]; done) | (simp [F_late, ok_late, inB, h18]; done) | (simp [F_late, ok_late, inB, Int32.not_le.mp h24]; done)) (by first | (simp [ok_late, h8]; done) | (simp [ok_late, h12]; done) | (simp [ok_late, inB, h18]; done) | (simp [ok_late, inB, Int32.not_le.mp h24]; done))
    · refine g_il2 (pc2 := 16) dX7_late_15 rfl ?_
      refine g_bipush (pc2 := 18) dX7_late_16 k_bipush_m20 rfl ?_
      refine g_icmp_lt 27 21 dX7_late_18 rfl rfl (fun h18 => ?_) (fun h18 => ?_)
      · subst hr
        subst hs
        refine g_iconst (pc2 := 28) dX7_late_27 k_iconst_m1 rfl ?_
        exact g_iretT dX7_late_28 rfl (Nat.le_refl _) (Nat.le_refl _) (by first | (simp [F_late, ok_late, h8]; done) | (simp [F_late, ok_late, h12]; done) | (simp [F_late, ok_late, inB, h18]; done) | (simp [F_late, ok_late, inB, Int32.not_le.mp h24]; done)) (by first | (simp [ok_late, h8]; done) | (simp [ok_late, h12]; done) | (simp [ok_late, inB, h18]; done) | (simp [ok_late, inB, Int32.not_le.mp h24]; done))
      · refine g_il2 (pc2 := 22) dX7_late_21 rfl ?_
        refine g_bipush (pc2 := 24) dX7_late_22 k_bipush_60 rfl ?_
        refine g_icmp_le 29 27 dX7_late_24 rfl rfl (fun h24 => ?_) (fun h24 => ?_)
        · exact fin h8 (by simp only [ok_late, h8, inB, decide_eq_false h12, decide_eq_false h18, decide_eq_false (Int32.not_lt.mpr h24)]; rfl)
        · subst hr
          subst hs
          refine g_iconst (pc2 := 28) dX7_late_27 k_iconst_m1 rfl ?_
          exact g_iretT dX7_late_28 rfl (Nat.le_refl _) (Nat.le_refl _) (by first | (simp [F_late, ok_late, h8]; done) | (simp [F_late, ok_late, h12]; done) | (simp [F_late, ok_late, inB, h18]; done) | (simp [F_late, ok_late, inB, Int32.not_le.mp h24]; done)) (by first | (simp [ok_late, h8]; done) | (simp [ok_late, h12]; done) | (simp [ok_late, inB, h18]; done) | (simp [ok_late, inB, Int32.not_le.mp h24]; done))
theorem R_c_undo (l : lt_L) (d : Nat) (t : lt_H) (σ : lt_S) {w w' : Nat → Int32} {ln T N nx c : Nat} (hc : CC σ w ln T N) (hk : KP σ nx c) (hw' : 0 < c → Wf w' ln T N ∧ SameY w w' N ∧ CP (46 + 5 * (if nx = 0 then 5 else nx - 1)) σ w' N) : lt_T l (d + 6) mX7_undo (lt_SC ++ t) σ [.ref 10] (some (if c = 0 then -2 else nI (c - 1))) (if c = 0 then σ else S_work (S_cback σ nx c) w' T N) := by
  refine lt_T.of [some (.ref 10)] rfl rfl (Nat.le_of_ble_eq_true rfl) ?_
  have e2 := hk.2.2.1
  have hc6 := hk.2.2.2
  have hx := hk.2.1
  by_cases h0 : c = 0
  · subst h0
    rw [if_pos rfl, if_pos rfl]
    refine g_al0 (pc2 := 1) dX7_undo_0 rfl ?_
    refine g_getr (pc2 := 4) (by rfl) (by rfl) flX7_63 dX7_undo_1 rfl ?_
    refine g_geti (pc2 := 7) (by rfl) (by rfl) flX7_106 dX7_undo_4 rfl ?_
    rw [e2]
    refine g_if_ne 13 10 dX7_undo_7 rfl rfl (fun h => absurd nI_0 h) (fun _ => ?_)
    refine g_bipush (pc2 := 12) dX7_undo_10 k_bipush_m2 rfl ?_
    exact g_iretT dX7_undo_12 rfl (Nat.le_refl _) (Nat.le_refl _) (rfl) (rfl)
  · rw [if_neg h0, if_neg h0]
    obtain ⟨hwf, hsy, hcp⟩ := hw' (by omega)
    have hN := hwf.2.2.1
    have far : ∀ a, a ≠ 44 → (a < 19 ∨ 22 < a) → S_cback σ nx c a = σ a := by
      intro a h1 h2
      unfold S_cback
      rw [S_copy_ne _ _ _ (by omega), lt_up_nr _ _ _ h1, lt_up_nr _ _ _ h1]
    have hy : CY 13 (S_cback σ nx c) w' N := by
      have hy := hc.2.1.same hsy
      unfold CY at hy ⊢
      simp only [far 13 (by decide) (by omega), far (13 + 1) (by decide) (by omega), far (13 + 2) (by decide) (by omega), far (13 + 3) (by decide) (by omega), far (13 + 4) (by decide) (by omega)]
      exact hy
    have hp : CP 18 (S_cback σ nx c) w' N := by
      unfold S_cback
      refine CP.copy (by split <;> omega) hN.2 ?_
      intro i hi
      rw [lt_up_nr _ _ _ (by split <;> omega), lt_up_nr _ _ _ (by split <;> omega), lt_up_nr _ _ _ (by split <;> omega), lt_up_nr _ _ _ (by split <;> omega), lt_up_nr _ _ _ (by split <;> omega), lt_up_nr _ _ _ (by split <;> omega), lt_up_nr _ _ _ (by split <;> omega), lt_up_nr _ _ _ (by split <;> omega)]
      exact hcp i hi
    have f2 : S_work (S_cback σ nx c) w' T N 44 2 = nI (c - 1) := by
      rw [S_work_ne _ _ _ _ (by decide)]
      unfold S_cback
      rw [S_copy_ne _ _ _ (by omega), lt_up_at]
    refine g_al0 (pc2 := 1) dX7_undo_0 rfl ?_
    refine g_getr (pc2 := 4) (by rfl) (by rfl) flX7_63 dX7_undo_1 rfl ?_
    refine g_geti (pc2 := 7) (by rfl) (by rfl) flX7_106 dX7_undo_4 rfl ?_
    rw [e2]
    refine g_if_ne 13 10 dX7_undo_7 rfl rfl (fun h7 => ?_) (fun h7 => ?_)
    · refine g_al0 (pc2 := 14) dX7_undo_13 rfl ?_
      refine g_getr (pc2 := 17) (by rfl) (by rfl) flX7_63 dX7_undo_14 rfl ?_
      refine g_al0 (pc2 := 18) dX7_undo_17 rfl ?_
      refine g_getr (pc2 := 21) (by rfl) (by rfl) flX7_26 dX7_undo_18 rfl ?_
      refine g_cVv (pc2 := 24) (R_c_back l (d + 3) _ _ hk (by omega)) meX1_bringBack mlX7_209 (by rfl) ⟨_, rfl, rfl⟩ rfl rfl (by simp) ⟨Nat.le_refl _, Nat.le_refl _⟩ dX7_undo_21 rfl ?_
      refine g_al0 (pc2 := 25) dX7_undo_24 rfl ?_
      refine g_getr (pc2 := 28) (by rfl) (by rfl) flX7_47 dX7_undo_25 rfl ?_
      refine g_cVv (pc2 := 31) (R_c_workOut l d _ _ hwf hy hp) meX0_workOut mlX7_103 (by rfl) ⟨_, rfl, rfl⟩ rfl rfl (by simp) ⟨Nat.le_refl _, Nat.le_refl _⟩ dX7_undo_28 rfl ?_
      refine g_al0 (pc2 := 32) dX7_undo_31 rfl ?_
      refine g_getr (pc2 := 35) (by rfl) (by rfl) flX7_63 dX7_undo_32 rfl ?_
      refine g_geti (pc2 := 38) (by rfl) (by rfl) flX7_106 dX7_undo_35 rfl ?_
      rw [f2]
      exact g_iretT dX7_undo_38 rfl (Nat.le_refl _) (Nat.le_refl _) (rfl) (rfl)
    · exact absurd h7 (nI_ne0 (by omega) (by omega))
/-- the class's text -/
def TC (σ : lt_S) (n : Nat) (tx : Nat → Nat) : Prop := σ 11 1 = nI n ∧ n ≤ 200 ∧ ∀ j, j < n → σ 12 j = nI (tx j) ∧ tx j < 128
theorem char_id {c : Int32} (h : inB c (nI 32) (nI 126) = true) : (c.toUInt32 % 65536).toInt32 = c ∧ vp_nar .char c = c ∧ ∃ k, k < 128 ∧ c = nI k := by
  unfold inB at h
  simp only [Bool.and_eq_true, Bool.not_eq_true', decide_eq_false_iff_not] at h
  have h0 : ¬ c < 0 := fun q => h.1 (Int32.lt_of_lt_of_le q (by decide))
  obtain ⟨k, hk, rfl⟩ := nI_of h0
  have hk2 : k ≤ 126 := by
    have := mt (nI_ltI (show 126 < 2 ^ 31 by decide) hk).mpr h.2
    omega
  have e : ((nI k).toUInt32 % 65536).toInt32 = nI k := by rw [pk_char, pk_tn (by omega), Nat.mod_eq_of_lt (by omega)]
  exact ⟨e, by rw [← e, pk_vc], k, by omega, rfl⟩
theorem R_c_append (l : lt_L) (d : Nat) (t : lt_H) (σ : lt_S) {n : Nat} (hn : σ 11 1 = nI n) (hn2 : n ≤ 200) (c : Int32) (hc : inB c (nI 32) (nI 126) = true) : lt_T l (d + 1) mX5_append (lt_SC ++ t) σ [.ref 11, .int c] (some (bI (decide (n < 200)))) (if n < 200 then lt_up (lt_up σ 12 n c) 11 1 (nI (n + 1)) else σ) := by
  refine lt_T.of [some (.ref 11), some (.int c)] rfl rfl (Nat.le_of_ble_eq_true rfl) ?_
  obtain ⟨c1, c2, -⟩ := char_id hc
  have f1 : lt_up σ 12 n c 11 1 = nI n := hn
  refine g_al0 (pc2 := 1) dX5_append_0 rfl ?_
  refine g_geti (pc2 := 4) (by rfl) (by rfl) flX5_15 dX5_append_1 rfl ?_
  rw [hn]
  refine g_sipush (pc2 := 7) dX5_append_4 k_sipush_200 rfl ?_
  refine g_icmpN_lt 12 10 dX5_append_7 rfl rfl (by omega) (by omega) (fun h7 => ?_) (fun h7 => ?_)
  · refine g_al0 (pc2 := 13) dX5_append_12 rfl ?_
    refine g_getr (pc2 := 16) (by rfl) (by rfl) flX5_9 dX5_append_13 rfl ?_
    refine g_al0 (pc2 := 17) dX5_append_16 rfl ?_
    refine g_geti (pc2 := 20) (by rfl) (by rfl) flX5_15 dX5_append_17 rfl ?_
    rw [hn]
    refine g_il1 (pc2 := 21) dX5_append_20 rfl ?_
    refine g_i2c (pc2 := 22) dX5_append_21 c1 rfl ?_
    refine g_cast (pc2 := 23) (by rfl) (by omega) (by decide) c2 dX5_append_22 rfl ?_
    refine g_al0 (pc2 := 24) dX5_append_23 rfl ?_
    refine g_dup (pc2 := 25) dX5_append_24 rfl ?_
    refine g_geti (pc2 := 28) (by rfl) (by rfl) flX5_15 dX5_append_25 rfl ?_
    rw [f1]
    refine g_iconst (pc2 := 29) dX5_append_28 k_iconst_1 rfl ?_
    refine g_iaddN (pc2 := 30) dX5_append_29 rfl ?_
    refine g_puti (pc2 := 33) (by rfl) (by rfl) flX5_15 (fpX5_1 _) (fun h => by first | cases h | rfl) dX5_append_30 rfl ?_
    refine g_iconst (pc2 := 34) dX5_append_33 k_iconst_1 rfl ?_
    exact g_zretT dX5_append_34 rfl (Nat.le_refl _) (Nat.le_refl _) (by rw [decide_eq_true h7]; rfl) (by rw [if_pos h7])
  · refine g_iconst (pc2 := 11) dX5_append_10 k_iconst_0 rfl ?_
    exact g_zretT dX5_append_11 rfl (Nat.le_refl _) (Nat.le_refl _) (by rw [decide_eq_false h7]; rfl) (by rw [if_neg h7])
theorem R_c_write (l : lt_L) (d : Nat) (t : lt_H) (σ : lt_S) {n : Nat} (hn : σ 11 1 = nI n) (hn2 : n ≤ 200) (c : Int32) : lt_T l (d + 2) mX7_write (lt_SC ++ t) σ [.ref 10, .int c] (some (if inB c (nI 32) (nI 126) then (if n = 200 then -3 else nI (n + 1)) else -1)) (if inB c (nI 32) (nI 126) && decide (n < 200) then lt_up (lt_up σ 12 n c) 11 1 (nI (n + 1)) else σ) := by
  refine lt_T.of [some (.ref 10), some (.int c)] rfl rfl (Nat.le_of_ble_eq_true rfl) ?_
  generalize hr : some (if inB c (nI 32) (nI 126) then (if n = 200 then -3 else nI (n + 1)) else -1) = r
  generalize hs : (if inB c (nI 32) (nI 126) && decide (n < 200) then lt_up (lt_up σ 12 n c) 11 1 (nI (n + 1)) else σ) = s2
  have fin : inB c (nI 32) (nI 126) = true → lt_g l (d + 2) mX7_write (lt_SC ++ t) σ 14 [some (.ref 10), some (.int c)] [] r s2 := by
    intro hin
    rw [hin] at hr hs
    subst hr
    subst hs
    have ap := R_c_append l d t σ hn hn2 c hin
    by_cases h2 : n < 200
    · rw [if_pos h2, decide_eq_true h2] at ap
      rw [decide_eq_true h2]
      refine g_al0 (pc2 := 15) dX7_write_14 rfl ?_
      refine g_getr (pc2 := 18) (by rfl) (by rfl) flX7_10 dX7_write_15 rfl ?_
      refine g_il1 (pc2 := 19) dX7_write_18 rfl ?_
      refine g_cVi (pc2 := 22) (ap) meX5_append mlX7_89 (by rfl) ⟨_, rfl, rfl⟩ rfl rfl (by simp) ⟨Nat.le_refl _, Nat.le_refl _⟩ dX7_write_19 rfl ?_
      refine g_if_eqB 35 25 dX7_write_22 rfl rfl (fun h22 => ?_) (fun h22 => ?_)
      · cases h22
      · refine g_al0 (pc2 := 26) dX7_write_25 rfl ?_
        refine g_getr (pc2 := 29) (by rfl) (by rfl) flX7_10 dX7_write_26 rfl ?_
        refine g_geti (pc2 := 32) (by rfl) (by rfl) flX7_93 dX7_write_29 rfl ?_
        refine g_goto 37 dX7_write_32 rfl ?_
        first | rw [lt_up_at] | skip
        exact g_iretT dX7_write_37 rfl (Nat.le_refl _) (Nat.le_refl _) (by rw [if_pos rfl, if_neg (by omega)]) (rfl)
    · rw [if_neg h2, decide_eq_false h2] at ap
      rw [decide_eq_false h2]
      refine g_al0 (pc2 := 15) dX7_write_14 rfl ?_
      refine g_getr (pc2 := 18) (by rfl) (by rfl) flX7_10 dX7_write_15 rfl ?_
      refine g_il1 (pc2 := 19) dX7_write_18 rfl ?_
      refine g_cVi (pc2 := 22) (ap) meX5_append mlX7_89 (by rfl) ⟨_, rfl, rfl⟩ rfl rfl (by simp) ⟨Nat.le_refl _, Nat.le_refl _⟩ dX7_write_19 rfl ?_
      refine g_if_eqB 35 25 dX7_write_22 rfl rfl (fun h22 => ?_) (fun h22 => ?_)
      · refine g_bipush (pc2 := 37) dX7_write_35 k_bipush_m3 rfl ?_
        exact g_iretT dX7_write_37 rfl (Nat.le_refl _) (Nat.le_refl _) (by rw [if_pos rfl, if_pos (by omega)]) (rfl)
      · cases h22
  refine g_il1 (pc2 := 1) dX7_write_0 rfl ?_
  refine g_bipush (pc2 := 3) dX7_write_1 k_bipush_32 rfl ?_
  refine g_icmp_lt 12 6 dX7_write_3 rfl rfl (fun h3 => ?_) (fun h3 => ?_)
  · subst hr
    subst hs
    refine g_iconst (pc2 := 13) dX7_write_12 k_iconst_m1 rfl ?_
    exact g_iretT dX7_write_13 rfl (Nat.le_refl _) (Nat.le_refl _) (by first | (simp [inB, h3]; done) | (simp [inB, Int32.not_le.mp h9]; done)) (by first | (simp [inB, h3]; done) | (simp [inB, Int32.not_le.mp h9]; done))
  · refine g_il1 (pc2 := 7) dX7_write_6 rfl ?_
    refine g_bipush (pc2 := 9) dX7_write_7 k_bipush_126 rfl ?_
    refine g_icmp_le 14 12 dX7_write_9 rfl rfl (fun h9 => ?_) (fun h9 => ?_)
    · exact fin (by simp only [inB, decide_eq_false h3, decide_eq_false (Int32.not_lt.mpr h9)]; rfl)
    · subst hr
      subst hs
      refine g_iconst (pc2 := 13) dX7_write_12 k_iconst_m1 rfl ?_
      exact g_iretT dX7_write_13 rfl (Nat.le_refl _) (Nat.le_refl _) (by first | (simp [inB, h3]; done) | (simp [inB, Int32.not_le.mp h9]; done)) (by first | (simp [inB, h3]; done) | (simp [inB, Int32.not_le.mp h9]; done))
theorem R_c_wipe (l : lt_L) (d : Nat) (t : lt_H) (σ : lt_S) : lt_T l (d + 1) mX7_wipe (lt_SC ++ t) σ [.ref 10] (some (σ 11 1)) (lt_up σ 11 1 (nI 0)) := by
  refine lt_T.of [some (.ref 10), none] rfl rfl (Nat.le_of_ble_eq_true rfl) ?_
  refine g_al0 (pc2 := 1) dX7_wipe_0 rfl ?_
  refine g_getr (pc2 := 4) (by rfl) (by rfl) flX7_10 dX7_wipe_1 rfl ?_
  refine g_geti (pc2 := 7) (by rfl) (by rfl) flX7_93 dX7_wipe_4 rfl ?_
  refine g_is1 (pc2 := 8) dX7_wipe_7 (by decide) rfl ?_
  refine g_al0 (pc2 := 9) dX7_wipe_8 rfl ?_
  refine g_getr (pc2 := 12) (by rfl) (by rfl) flX7_10 dX7_wipe_9 rfl ?_
  refine g_iconst (pc2 := 13) dX7_wipe_12 k_iconst_0 rfl ?_
  refine g_puti (pc2 := 16) (by rfl) (by rfl) flX7_93 (fpX5_1 _) (fun h => by first | cases h | rfl) dX7_wipe_13 rfl ?_
  refine g_il1 (pc2 := 17) dX7_wipe_16 rfl ?_
  exact g_iretT dX7_wipe_17 rfl (Nat.le_refl _) (Nat.le_refl _) (rfl) (rfl)
theorem hasB_100 {m : Int32} : hasB m (nI 100) = (!decide (m < 0) && !decide (nI 100 ≤ m)) := rfl
theorem R_c_on (l : lt_L) (d : Nat) (t : lt_H) (σ : lt_S) {w : Nat → Int32} {ln T N : Nat} (hc : CC σ w ln T N) (a m : Int32) : lt_T l (d + 2) mX7_on (lt_SC ++ t) σ [.ref 10, .int a, .int m] (some (F_on w a m)) σ := by
  refine lt_T.of [some (.ref 10), some (.int a), some (.int m)] rfl rfl (Nat.le_of_ble_eq_true rfl) ?_
  have e1 : σ 13 1 = w 1 := hc.2.1.1.2.1
  refine g_al0 (pc2 := 1) dX7_on_0 rfl ?_
  refine g_getr (pc2 := 4) (by rfl) (by rfl) flX7_19 dX7_on_1 rfl ?_
  refine g_il1 (pc2 := 5) dX7_on_4 rfl ?_
  refine g_cVi (pc2 := 8) (R_c_hasTrack13 l d _ _ _) meX6_hasTrack mlX7_115 (by rfl) ⟨_, rfl, rfl⟩ rfl rfl (by simp) ⟨Nat.le_refl _, Nat.le_refl _⟩ dX7_on_5 rfl ?_
  rw [e1]
  refine g_if_eqB 21 11 dX7_on_8 rfl rfl (fun h8 => ?_) (fun h8 => ?_)
  · refine g_iconst (pc2 := 22) dX7_on_21 k_iconst_m1 rfl ?_
    exact g_iretT dX7_on_22 rfl (Nat.le_refl _) (Nat.le_refl _) (by first | (simp [F_on, h8]; done) | (simp [F_on, hasB_100, h12]; done) | (simp [F_on, h8, hasB_100, h12, Int32.not_lt.mp h18]; done) | (simp [F_on, h8, hasB_100, h12, Int32.not_le.mpr h18]; done)) (rfl)
  · refine g_il2 (pc2 := 12) dX7_on_11 rfl ?_
    refine g_if_lt 21 15 dX7_on_12 rfl rfl (fun h12 => ?_) (fun h12 => ?_)
    · refine g_iconst (pc2 := 22) dX7_on_21 k_iconst_m1 rfl ?_
      exact g_iretT dX7_on_22 rfl (Nat.le_refl _) (Nat.le_refl _) (by first | (simp [F_on, h8]; done) | (simp [F_on, hasB_100, h12]; done) | (simp [F_on, h8, hasB_100, h12, Int32.not_lt.mp h18]; done) | (simp [F_on, h8, hasB_100, h12, Int32.not_le.mpr h18]; done)) (rfl)
    · refine g_il2 (pc2 := 16) dX7_on_15 rfl ?_
      refine g_bipush (pc2 := 18) dX7_on_16 k_bipush_100 rfl ?_
      refine g_icmp_lt 23 21 dX7_on_18 rfl rfl (fun h18 => ?_) (fun h18 => ?_)
      · refine g_al0 (pc2 := 24) dX7_on_23 rfl ?_
        refine g_il1 (pc2 := 25) dX7_on_24 rfl ?_
        refine g_il2 (pc2 := 26) dX7_on_25 rfl ?_
        refine g_cVi (pc2 := 29) (R_c_trainsOn l d _ _ hc _ _) meX7_trainsOn mlX7_212 (by rfl) ⟨_, rfl, rfl⟩ rfl rfl (by simp) ⟨Nat.le_refl _, Nat.le_refl _⟩ dX7_on_26 rfl ?_
        exact g_iretT dX7_on_29 rfl (Nat.le_refl _) (Nat.le_refl _) (by first | (simp [F_on, h8]; done) | (simp [F_on, hasB_100, h12]; done) | (simp [F_on, h8, hasB_100, h12, Int32.not_lt.mp h18]; done) | (simp [F_on, h8, hasB_100, h12, Int32.not_le.mpr h18]; done)) (rfl)
      · refine g_iconst (pc2 := 22) dX7_on_21 k_iconst_m1 rfl ?_
        exact g_iretT dX7_on_22 rfl (Nat.le_refl _) (Nat.le_refl _) (by first | (simp [F_on, h8]; done) | (simp [F_on, hasB_100, h12]; done) | (simp [F_on, h8, hasB_100, h12, Int32.not_lt.mp h18]; done) | (simp [F_on, h8, hasB_100, h12, Int32.not_le.mpr h18]; done)) (rfl)
theorem R_c_taken (l : lt_L) (d : Nat) (t : lt_H) (σ : lt_S) {w : Nat → Int32} {ln T N : Nat} (hc : CC σ w ln T N) (m : Int32) : lt_T l (d + 3) mX7_taken (lt_SC ++ t) σ [.ref 10, .int m] (some (F_taken w m)) σ := by
  refine lt_T.of [some (.ref 10), some (.int m)] rfl rfl (Nat.le_of_ble_eq_true rfl) ?_
  refine g_il1 (pc2 := 1) dX7_taken_0 rfl ?_
  refine g_if_lt 10 4 dX7_taken_1 rfl rfl (fun h1 => ?_) (fun h1 => ?_)
  · refine g_iconst (pc2 := 11) dX7_taken_10 k_iconst_m1 rfl ?_
    exact g_iretT dX7_taken_11 rfl (Nat.le_refl _) (Nat.le_refl _) (by first | (simp [F_taken, hasB_100, h1]; done) | (simp [F_taken, hasB_100, Int32.not_lt.mp h7]; done)) (rfl)
  · refine g_il1 (pc2 := 5) dX7_taken_4 rfl ?_
    refine g_bipush (pc2 := 7) dX7_taken_5 k_bipush_100 rfl ?_
    refine g_icmp_lt 12 10 dX7_taken_7 rfl rfl (fun h7 => ?_) (fun h7 => ?_)
    · have hh : hasB m (nI 100) = true := by simp [hasB_100, h1, Int32.not_le.mpr h7]
      obtain ⟨m, hm, rfl⟩ := hasB_ix (by decide) hh
      refine g_al0 (pc2 := 13) dX7_taken_12 rfl ?_
      refine g_il1 (pc2 := 14) dX7_taken_13 rfl ?_
      refine g_cVi (pc2 := 17) (R_c_switchesIn l d _ _ hc _ hm) meX7_switchesIn mlX7_215 (by rfl) ⟨_, rfl, rfl⟩ rfl rfl (by simp) ⟨Nat.le_refl _, Nat.le_refl _⟩ dX7_taken_14 rfl ?_
      exact g_iretT dX7_taken_17 rfl (Nat.le_refl _) (Nat.le_refl _) (by simp [F_taken, hh]) (rfl)
    · refine g_iconst (pc2 := 11) dX7_taken_10 k_iconst_m1 rfl ?_
      exact g_iretT dX7_taken_11 rfl (Nat.le_refl _) (Nat.le_refl _) (by first | (simp [F_taken, hasB_100, h1]; done) | (simp [F_taken, hasB_100, Int32.not_lt.mp h7]; done)) (rfl)
theorem R_c_use (l : lt_L) (d : Nat) (t : lt_H) (σ : lt_S) {w : Nat → Int32} {ln T N : Nat} (hc : CC σ w ln T N) (a x : Int32) : lt_T l (d + 4) mX7_use (lt_SC ++ t) σ [.ref 10, .int a, .int x] (some (F_use w a x)) σ := by
  refine lt_T.of [some (.ref 10), some (.int a), some (.int x)] rfl rfl (Nat.le_of_ble_eq_true rfl) ?_
  have e1 : σ 13 1 = w 1 := hc.2.1.1.2.1
  have z0 : hasB 0 (nI 2) = true := by decide
  have z1 : hasB (nI 1) (nI 2) = true := by decide
  have hb12 : hasB x (nI 12) = (!decide (x < 0) && !decide (nI 12 ≤ x)) := rfl
  by_cases h0 : a = 0
  · subst h0
    have hF : F_use w 0 x = if hasB x (w 1) then nI (pf_use w 0 x) else -1 := by unfold F_use; rw [z0, if_pos rfl]; simp
    rw [hF]
    refine g_il1 (pc2 := 1) dX7_use_0 rfl ?_
    refine g_if_ne 25 4 dX7_use_1 rfl rfl (fun h1 => ?_) (fun h1 => ?_)
    · exact absurd rfl h1
    · refine g_al0 (pc2 := 5) dX7_use_4 rfl ?_
      refine g_getr (pc2 := 8) (by rfl) (by rfl) flX7_19 dX7_use_5 rfl ?_
      refine g_il2 (pc2 := 9) dX7_use_8 rfl ?_
      refine g_cVi (pc2 := 12) (R_c_hasTrack13 l (d + 2) _ _ _) meX6_hasTrack mlX7_115 (by rfl) ⟨_, rfl, rfl⟩ rfl rfl (by simp) ⟨Nat.le_refl _, Nat.le_refl _⟩ dX7_use_9 rfl ?_
      rw [e1]
      refine g_if_eqB 23 15 dX7_use_12 rfl rfl (fun h12 => ?_) (fun h12 => ?_)
      · refine g_iconst (pc2 := 24) dX7_use_23 k_iconst_m1 rfl ?_
        exact g_iretT dX7_use_24 rfl (Nat.le_refl _) (Nat.le_refl _) (by rw [h12]; rfl) (rfl)
      · refine g_al0 (pc2 := 16) dX7_use_15 rfl ?_
        refine g_il2 (pc2 := 17) dX7_use_16 rfl ?_
        refine g_cVi (pc2 := 20) (R_c_minutesOfTrack l (d + 1) _ _ hc _) meX7_minutesOfTrack mlX7_218 (by rfl) ⟨_, rfl, rfl⟩ rfl rfl (by simp) ⟨Nat.le_refl _, Nat.le_refl _⟩ dX7_use_17 rfl ?_
        refine g_goto 24 dX7_use_20 rfl ?_
        exact g_iretT dX7_use_24 rfl (Nat.le_refl _) (Nat.le_refl _) (by rw [h12]; rfl) (rfl)
  · by_cases h1' : a = nI 1
    · subst h1'
      have hF : F_use w (nI 1) x = if hasB x (nI 12) then nI (pf_use w (nI 1) x) else -1 := by unfold F_use; rw [z1, if_neg h0]; simp
      rw [hF]
      refine g_il1 (pc2 := 1) dX7_use_0 rfl ?_
      refine g_if_ne 25 4 dX7_use_1 rfl rfl (fun h1 => ?_) (fun h1 => ?_)
      · refine g_il1 (pc2 := 26) dX7_use_25 rfl ?_
        refine g_iconst (pc2 := 27) dX7_use_26 k_iconst_1 rfl ?_
        refine g_icmp_ne 50 30 dX7_use_27 rfl rfl (fun h27 => ?_) (fun h27 => ?_)
        · exact absurd rfl h27
        · refine g_il2 (pc2 := 31) dX7_use_30 rfl ?_
          refine g_if_lt 48 34 dX7_use_31 rfl rfl (fun h31 => ?_) (fun h31 => ?_)
          · refine g_iconst (pc2 := 49) dX7_use_48 k_iconst_m1 rfl ?_
            exact g_iretT dX7_use_49 rfl (Nat.le_refl _) (Nat.le_refl _) (by first | (simp [hb12, h31]; done) | (simp [hb12, h37]; done) | (simp [hb12, h31, h37]; done)) (rfl)
          · refine g_il2 (pc2 := 35) dX7_use_34 rfl ?_
            refine g_bipush (pc2 := 37) dX7_use_35 k_bipush_12 rfl ?_
            refine g_icmp_ge 48 40 dX7_use_37 rfl rfl (fun h37 => ?_) (fun h37 => ?_)
            · refine g_iconst (pc2 := 49) dX7_use_48 k_iconst_m1 rfl ?_
              exact g_iretT dX7_use_49 rfl (Nat.le_refl _) (Nat.le_refl _) (by first | (simp [hb12, h31]; done) | (simp [hb12, h37]; done) | (simp [hb12, h31, h37]; done)) (rfl)
            · refine g_al0 (pc2 := 41) dX7_use_40 rfl ?_
              refine g_il2 (pc2 := 42) dX7_use_41 rfl ?_
              refine g_cVi (pc2 := 45) (R_c_minutesOfSwitch l d _ _ hc _) meX7_minutesOfSwitch mlX7_221 (by rfl) ⟨_, rfl, rfl⟩ rfl rfl (by simp) ⟨Nat.le_refl _, Nat.le_refl _⟩ dX7_use_42 rfl ?_
              refine g_goto 49 dX7_use_45 rfl ?_
              exact g_iretT dX7_use_49 rfl (Nat.le_refl _) (Nat.le_refl _) (by first | (simp [hb12, h31]; done) | (simp [hb12, h37]; done) | (simp [hb12, h31, h37]; done)) (rfl)
      · exact absurd h1 h0
    · have hn : hasB a (nI 2) = false := by
        cases hh : hasB a (nI 2) with
        | false => rfl
        | true =>
          obtain ⟨j, hj, rfl⟩ := hasB_ix (by decide) hh
          rcases (show j = 0 ∨ j = 1 by omega) with rfl | rfl
          · exact absurd nI_0 h0
          · exact absurd rfl h1'
      refine g_il1 (pc2 := 1) dX7_use_0 rfl ?_
      refine g_if_ne 25 4 dX7_use_1 rfl rfl (fun h1 => ?_) (fun h1 => ?_)
      · refine g_il1 (pc2 := 26) dX7_use_25 rfl ?_
        refine g_iconst (pc2 := 27) dX7_use_26 k_iconst_1 rfl ?_
        refine g_icmp_ne 50 30 dX7_use_27 rfl rfl (fun h27 => ?_) (fun h27 => ?_)
        · refine g_iconst (pc2 := 51) dX7_use_50 k_iconst_m1 rfl ?_
          exact g_iretT dX7_use_51 rfl (Nat.le_refl _) (Nat.le_refl _) (by simp [F_use, hn]) (rfl)
        · exact absurd h27 h1'
      · exact absurd h1 h0
