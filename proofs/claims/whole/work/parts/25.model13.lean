/-! the reference: path, come, pair -/
theorem R_m_takesPath (l : lt_L) (d : Nat) (σ : lt_S) {n p ln T N : Nat} {tx : Nat → Nat} (hT : TX σ n tx) (hp : σ 76 6 = nI p) (hp2 : p ≤ 200) (hW : Wp (σ 78) ln T N) (h0 : ¬ σ 78 0 = nI 0) : lt_R l (d + 5) 0 0 mX8_takesPath lt_SA σ [.ref 76] (itQ σ (itK tx n (σ 78) 1 p)) := by
  refine lt_R.of [some (.ref 76), none, none, none, none] rfl rfl (Nat.le_of_ble_eq_true rfl) ?_
  have hI9 : ∀ ns, itemR (σ 78) 1 ns = if okPath (σ 78) ns then some (rowPath (σ 78) ns) else none := by
    intro ns
    unfold itemR
    rw [if_neg (by decide), if_neg h0, if_pos rfl]
  have w0 := hW.1
  have w1 := hW.2.1
  have e0 : tN (σ 78 0) = ln := by rw [w0.1]; exact tN_nI (by omega)
  have e1 : tN (σ 78 1) = T := by rw [w1.1]; exact tN_nI (by omega)
  have fin : ∀ σ1, PN σ σ1 → (∀ q, numsAt tx n 6 (p + 5) = some q → 2 ≤ q.1.length → q.1.length ≤ 6 → Told σ1 q.1 q.2) → lt_G l (d + 5) 0 0 mX8_takesPath 0 0 lt_SA σ1 7 [some (.ref 76), none, none, none, none] [.int (bI (lenB (numsAt tx n 6 (p + 5)) 2 6))] (itQ σ (itK tx n (σ 78) 1 p)) := by
    intro σ1 hP hTold
    have e78 : σ1 78 = σ 78 := hP.1 78 (by decide) (by decide)
    cases hq : numsAt tx n 6 (p + 5) with
    | none =>
      have hb : itK tx n (σ 78) 1 p = none := itK_bad (fun q hq2 => by rw [hq] at hq2; cases hq2)
      refine g_if_eqB 40 10 dX8_takesPath_7 rfl rfl (fun h7 => ?_) (fun h7 => ?_)
      · refine g_iconst (pc2 := 41) dX8_takesPath_40 k_iconst_0 rfl ?_
        exact g_zret dX8_takesPath_41 rfl (nz true) (Nat.le_refl _) (Nat.le_refl _) (itQ_bad hb hP.pr)
      · cases h7
    | some q =>
      have hnl := numsAt_le hq
      have hle := hnl.1
      have g0 := getD_le hle 0
      have g1 := getD_le hle 1
      by_cases hlen : 2 ≤ q.1.length
      · obtain ⟨t1, t2, t3⟩ := hTold q hq (by omega) (by omega)
        have v0 := t3 0 (by omega)
        have v1 := t3 1 (by omega)
        by_cases hA : q.1.getD 0 0 < ln ∧ q.1.getD 1 0 < T
        · have lp : ∀ (a t : Nat), a = q.1.getD 0 0 → t = q.1.getD 1 0 → ∀ j, j ≤ q.1.length - 2 → ∀ (s x : Int32) (b : Bool), x = bI b → b = (decide (σ 78 (4 + 4 * a + t) = -4) && allB (fun k => decide (q.1.getD (k + 2) 0 < 12)) j) → (b = true → s = orF (fun k => nI 1 <<< (nI (q.1.getD (k + 2) 0) &&& 31)) j) → lt_G l (d + 5) 0 0 mX8_takesPath 0 0 lt_SA σ1 82 [some (.ref 76), some (.int (nI (4 + 4 * a + t))), some (.int x), some (.int s), some (.int (nI (2 + j)))] [] (itQ σ (itK tx n (σ 78) 1 p)) := by
            intro a t ha ht
            refine lt_dn (q.1.length - 2) ?_ ?_
            · intro s x b hx hb hs
              subst hx
              have hal : 2 + (q.1.length - 2) = q.1.length := by omega
              cases b with
              | false =>
                have hb9 : itK tx n (σ 78) 1 p = none := itK_bad (fun q2 hq2 => by
                  rw [hq] at hq2; cases hq2; rw [hI9, if_neg]
                  intro hok
                  simp only [okPath, Bool.and_eq_true] at hok
                  have h9 := hok.2.2.2
                  rw [← ha, ← ht] at h9
                  simp only [h9.1, h9.2, Bool.and_self] at hb
                  cases hb)
                refine g_il4 (pc2 := 84) dX8_takesPath_82 rfl ?_
                refine g_al0 (pc2 := 85) dX8_takesPath_84 rfl ?_
                refine g_geti (pc2 := 88) (by rfl) (by rfl) flX8_66 dX8_takesPath_85 rfl ?_
                rw [t2]
                refine g_icmpN_ge 139 91 dX8_takesPath_88 rfl rfl (by omega) (by omega) (fun h88 => ?_) (fun h88 => ?_)
                · refine g_al0 (pc2 := 140) dX8_takesPath_139 rfl ?_
                  refine g_getr (pc2 := 143) (by rfl) (by rfl) flX8_13 dX8_takesPath_140 rfl ?_
                  refine g_il1 (pc2 := 144) dX8_takesPath_143 rfl ?_
                  refine g_il3 (pc2 := 145) dX8_takesPath_144 rfl ?_
                  refine g_iast (pc2 := 146) (by rfl) (by omega) (by decide) dX8_takesPath_145 rfl ?_
                  refine g_il2 (pc2 := 147) dX8_takesPath_146 rfl ?_
                  exact g_zret dX8_takesPath_147 rfl (bI_nar false) (Nat.le_refl _) (Nat.le_refl _) (itQ_bad hb9 (hP.pr.read _ _))
                · omega
              | true =>
                have hb2 := hb.symm
                simp only [Bool.and_eq_true, decide_eq_true_eq] at hb2
                have hok : okPath (σ 78) q.1 = true := by
                  simp only [okPath, Bool.and_eq_true, decide_eq_true_eq]
                  rw [e0, e1]
                  exact ⟨hlen, hA.1, hA.2, by rw [← ha, ← ht]; exact hb2.1, hb2.2⟩
                have hI : itemR (σ 78) 1 q.1 = some (rowPath (σ 78) q.1) := by rw [hI9, if_pos hok]
                refine g_il4 (pc2 := 84) dX8_takesPath_82 rfl ?_
                refine g_al0 (pc2 := 85) dX8_takesPath_84 rfl ?_
                refine g_geti (pc2 := 88) (by rfl) (by rfl) flX8_66 dX8_takesPath_85 rfl ?_
                rw [t2]
                refine g_icmpN_ge 139 91 dX8_takesPath_88 rfl rfl (by omega) (by omega) (fun h88 => ?_) (fun h88 => ?_)
                · refine g_al0 (pc2 := 140) dX8_takesPath_139 rfl ?_
                  refine g_getr (pc2 := 143) (by rfl) (by rfl) flX8_13 dX8_takesPath_140 rfl ?_
                  refine g_il1 (pc2 := 144) dX8_takesPath_143 rfl ?_
                  refine g_il3 (pc2 := 145) dX8_takesPath_144 rfl ?_
                  refine g_iast (pc2 := 146) (by rfl) (by omega) (by decide) dX8_takesPath_145 rfl ?_
                  refine g_il2 (pc2 := 147) dX8_takesPath_146 rfl ?_
                  exact g_zret dX8_takesPath_147 rfl (bI_nar true) (Nat.le_refl _) (Nat.le_refl _) (itQ_ok (itK_ok hq hI) (hP.pr.read _ _) (by rw [lt_up_row, e78, hs rfl, ha, ht]; rfl) t1)
                · omega
            · intro j hj ih s x b hx hb hs
              subst hx
              have vj := t3 (2 + j) (by omega)
              have gj := getD_le hle (j + 2)
              rw [show q.1.getD (2 + j) 0 = q.1.getD (j + 2) 0 by rw [Nat.add_comm]] at vj
              have ih2 := fun s x b h1 h2 h3 => (show lt_G l (d + 5) 0 0 mX8_takesPath 0 0 lt_SA σ1 82 [some (.ref 76), some (.int (nI (4 + 4 * a + t))), some (.int x), some (.int s), some (.int (nI (2 + j + 1)))] [] (itQ σ (itK tx n (σ 78) 1 p)) from ih s x b h1 h2 h3)
              have mid : ∀ (x : Int32) (b' : Bool), x = bI b' → b' = (b && decide (q.1.getD (j + 2) 0 < 12)) → lt_G l (d + 5) 0 0 mX8_takesPath 0 0 lt_SA σ1 113 [some (.ref 76), some (.int (nI (4 + 4 * a + t))), some (.int x), some (.int s), some (.int (nI (2 + j)))] [] (itQ σ (itK tx n (σ 78) 1 p)) := by
                intro x b' hx hb'
                subst hx
                have hbb : b' = (decide (σ 78 (4 + 4 * a + t) = -4) && allB (fun k => decide (q.1.getD (k + 2) 0 < 12)) (j + 1)) := by rw [hb', hb]; simp only [allB, Bool.and_assoc]
                refine g_il3 (pc2 := 114) dX8_takesPath_113 rfl ?_
                refine g_il2 (pc2 := 115) dX8_takesPath_114 rfl ?_
                refine g_if_eqB 130 118 dX8_takesPath_115 rfl rfl (fun h115 => ?_) (fun h115 => ?_)
                · refine g_iconst (pc2 := 131) dX8_takesPath_130 k_iconst_0 rfl ?_
                  refine g_ior (pc2 := 132) dX8_takesPath_131 rfl ?_
                  refine g_is3 (pc2 := 133) dX8_takesPath_132 (by decide) rfl ?_
                  refine g_in4 (pc2 := 136) dX8_takesPath_133 (nI_inc _) (by decide) rfl ?_
                  refine g_goto 82 dX8_takesPath_136 rfl ?_
                  refine ih2 _ _ b' rfl hbb (fun h => ?_)
                  first | (rw [h115] at h; cases h; done) | (have hbt : b = true := (by rw [hb', Bool.and_eq_true] at h; exact h.1); simp only [orF]; rw [hs hbt])
                · refine g_iconst (pc2 := 119) dX8_takesPath_118 k_iconst_1 rfl ?_
                  refine g_al0 (pc2 := 120) dX8_takesPath_119 rfl ?_
                  refine g_getr (pc2 := 123) (by rfl) (by rfl) flX8_22 dX8_takesPath_120 rfl ?_
                  refine g_il4 (pc2 := 125) dX8_takesPath_123 rfl ?_
                  refine g_iald (pc2 := 126) (by rfl) (by omega) (by decide) dX8_takesPath_125 rfl ?_
                  rw [vj]
                  refine g_ishl (pc2 := 127) dX8_takesPath_126 rfl ?_
                  refine g_goto 131 dX8_takesPath_127 rfl ?_
                  refine g_ior (pc2 := 132) dX8_takesPath_131 rfl ?_
                  refine g_is3 (pc2 := 133) dX8_takesPath_132 (by decide) rfl ?_
                  refine g_in4 (pc2 := 136) dX8_takesPath_133 (nI_inc _) (by decide) rfl ?_
                  refine g_goto 82 dX8_takesPath_136 rfl ?_
                  refine ih2 _ _ b' rfl hbb (fun h => ?_)
                  first | (rw [h115] at h; cases h; done) | (have hbt : b = true := (by rw [hb', Bool.and_eq_true] at h; exact h.1); simp only [orF]; rw [hs hbt])
              refine g_il4 (pc2 := 84) dX8_takesPath_82 rfl ?_
              refine g_al0 (pc2 := 85) dX8_takesPath_84 rfl ?_
              refine g_geti (pc2 := 88) (by rfl) (by rfl) flX8_66 dX8_takesPath_85 rfl ?_
              rw [t2]
              refine g_icmpN_ge 139 91 dX8_takesPath_88 rfl rfl (by omega) (by omega) (fun h88 => ?_) (fun h88 => ?_)
              · omega
              · refine g_il2 (pc2 := 92) dX8_takesPath_91 rfl ?_
                refine g_if_eqB 111 95 dX8_takesPath_92 rfl rfl (fun h92 => ?_) (fun h92 => ?_)
                · refine g_iconst (pc2 := 112) dX8_takesPath_111 k_iconst_0 rfl ?_
                  refine g_is2 (pc2 := 113) dX8_takesPath_112 (by decide) rfl ?_
                  exact mid _ false bI_f.symm (by first | (rw [h92]; rfl) | (rw [h92, decide_eq_false (by omega)]; rfl) | (rw [h92, decide_eq_true (by omega)]; rfl))
                · refine g_al0 (pc2 := 96) dX8_takesPath_95 rfl ?_
                  refine g_getr (pc2 := 99) (by rfl) (by rfl) flX8_22 dX8_takesPath_96 rfl ?_
                  refine g_il4 (pc2 := 101) dX8_takesPath_99 rfl ?_
                  refine g_iald (pc2 := 102) (by rfl) (by omega) (by decide) dX8_takesPath_101 rfl ?_
                  rw [vj]
                  refine g_bipush (pc2 := 104) dX8_takesPath_102 k_bipush_12 rfl ?_
                  refine g_icmpN_ge 111 107 dX8_takesPath_104 rfl rfl (by omega) (by omega) (fun h104 => ?_) (fun h104 => ?_)
                  · refine g_iconst (pc2 := 112) dX8_takesPath_111 k_iconst_0 rfl ?_
                    refine g_is2 (pc2 := 113) dX8_takesPath_112 (by decide) rfl ?_
                    exact mid _ false bI_f.symm (by first | (rw [h92]; rfl) | (rw [h92, decide_eq_false (by omega)]; rfl) | (rw [h92, decide_eq_true (by omega)]; rfl))
                  · refine g_iconst (pc2 := 108) dX8_takesPath_107 k_iconst_1 rfl ?_
                    refine g_goto 112 dX8_takesPath_108 rfl ?_
                    refine g_is2 (pc2 := 113) dX8_takesPath_112 (by decide) rfl ?_
                    exact mid _ true bI_t.symm (by first | (rw [h92]; rfl) | (rw [h92, decide_eq_false (by omega)]; rfl) | (rw [h92, decide_eq_true (by omega)]; rfl))
          have lp0 := lp (q.1.getD 0 0) (q.1.getD 1 0) rfl rfl 0 (Nat.zero_le _)
          refine g_if_eqB 40 10 dX8_takesPath_7 rfl rfl (fun h7 => ?_) (fun h7 => ?_)
          · simp [lenB] at h7; omega
          · refine g_al0 (pc2 := 11) dX8_takesPath_10 rfl ?_
            refine g_getr (pc2 := 14) (by rfl) (by rfl) flX8_22 dX8_takesPath_11 rfl ?_
            refine g_iconst (pc2 := 15) dX8_takesPath_14 k_iconst_0 rfl ?_
            refine g_iald (pc2 := 16) (by rfl) (by omega) (by decide) dX8_takesPath_15 rfl ?_
            rw [v0]
            refine g_al0 (pc2 := 17) dX8_takesPath_16 rfl ?_
            refine g_getr (pc2 := 20) (by rfl) (by rfl) flX8_13 dX8_takesPath_17 rfl ?_
            refine g_iconst (pc2 := 21) dX8_takesPath_20 k_iconst_0 rfl ?_
            refine g_iald (pc2 := 22) (by rfl) (by omega) (by decide) dX8_takesPath_21 rfl ?_
            rw [e78, w0.1]
            refine g_icmpN_ge 40 25 dX8_takesPath_22 rfl rfl (by omega) (by omega) (fun h22 => ?_) (fun h22 => ?_)
            · omega
            · refine g_al0 (pc2 := 26) dX8_takesPath_25 rfl ?_
              refine g_getr (pc2 := 29) (by rfl) (by rfl) flX8_22 dX8_takesPath_26 rfl ?_
              refine g_iconst (pc2 := 30) dX8_takesPath_29 k_iconst_1 rfl ?_
              refine g_iald (pc2 := 31) (by rfl) (by omega) (by decide) dX8_takesPath_30 rfl ?_
              rw [v1]
              refine g_al0 (pc2 := 32) dX8_takesPath_31 rfl ?_
              refine g_getr (pc2 := 35) (by rfl) (by rfl) flX8_13 dX8_takesPath_32 rfl ?_
              refine g_iconst (pc2 := 36) dX8_takesPath_35 k_iconst_1 rfl ?_
              refine g_iald (pc2 := 37) (by rfl) (by omega) (by decide) dX8_takesPath_36 rfl ?_
              rw [e78, w1.1]
              refine g_icmpN_lt 42 40 dX8_takesPath_37 rfl rfl (by omega) (by omega) (fun h37 => ?_) (fun h37 => ?_)
              · refine g_iconst (pc2 := 43) dX8_takesPath_42 k_iconst_4 rfl ?_
                refine g_iconst (pc2 := 44) dX8_takesPath_43 k_iconst_4 rfl ?_
                refine g_al0 (pc2 := 45) dX8_takesPath_44 rfl ?_
                refine g_getr (pc2 := 48) (by rfl) (by rfl) flX8_22 dX8_takesPath_45 rfl ?_
                refine g_iconst (pc2 := 49) dX8_takesPath_48 k_iconst_0 rfl ?_
                refine g_iald (pc2 := 50) (by rfl) (by omega) (by decide) dX8_takesPath_49 rfl ?_
                rw [v0]
                refine g_imulN (pc2 := 51) dX8_takesPath_50 rfl ?_
                refine g_iaddN (pc2 := 52) dX8_takesPath_51 rfl ?_
                refine g_al0 (pc2 := 53) dX8_takesPath_52 rfl ?_
                refine g_getr (pc2 := 56) (by rfl) (by rfl) flX8_22 dX8_takesPath_53 rfl ?_
                refine g_iconst (pc2 := 57) dX8_takesPath_56 k_iconst_1 rfl ?_
                refine g_iald (pc2 := 58) (by rfl) (by omega) (by decide) dX8_takesPath_57 rfl ?_
                rw [v1]
                refine g_iaddN (pc2 := 59) dX8_takesPath_58 rfl ?_
                refine g_is1 (pc2 := 60) dX8_takesPath_59 (by decide) rfl ?_
                refine g_al0 (pc2 := 61) dX8_takesPath_60 rfl ?_
                refine g_getr (pc2 := 64) (by rfl) (by rfl) flX8_13 dX8_takesPath_61 rfl ?_
                refine g_il1 (pc2 := 65) dX8_takesPath_64 rfl ?_
                refine g_iald (pc2 := 66) (by rfl) (by omega) (by decide) dX8_takesPath_65 rfl ?_
                rw [e78]
                refine g_bipush (pc2 := 68) dX8_takesPath_66 k_bipush_m4 rfl ?_
                refine g_icmp_ne 75 71 dX8_takesPath_68 rfl rfl (fun h68 => ?_) (fun h68 => ?_)
                · refine g_iconst (pc2 := 76) dX8_takesPath_75 k_iconst_0 rfl ?_
                  refine g_is2 (pc2 := 77) dX8_takesPath_76 (by decide) rfl ?_
                  refine g_iconst (pc2 := 78) dX8_takesPath_77 k_iconst_0 rfl ?_
                  refine g_is3 (pc2 := 79) dX8_takesPath_78 (by decide) rfl ?_
                  refine g_iconst (pc2 := 80) dX8_takesPath_79 k_iconst_2 rfl ?_
                  refine g_is4 (pc2 := 82) dX8_takesPath_80 (by decide) rfl ?_
                  exact lp0 (nI 0) _ false bI_f.symm (by first | (rw [decide_eq_false h68]; rfl) | (rw [decide_eq_true h68]; rfl)) (fun _ => rfl)
                · refine g_iconst (pc2 := 72) dX8_takesPath_71 k_iconst_1 rfl ?_
                  refine g_goto 76 dX8_takesPath_72 rfl ?_
                  refine g_is2 (pc2 := 77) dX8_takesPath_76 (by decide) rfl ?_
                  refine g_iconst (pc2 := 78) dX8_takesPath_77 k_iconst_0 rfl ?_
                  refine g_is3 (pc2 := 79) dX8_takesPath_78 (by decide) rfl ?_
                  refine g_iconst (pc2 := 80) dX8_takesPath_79 k_iconst_2 rfl ?_
                  refine g_is4 (pc2 := 82) dX8_takesPath_80 (by decide) rfl ?_
                  exact lp0 (nI 0) _ true bI_t.symm (by first | (rw [decide_eq_false h68]; rfl) | (rw [decide_eq_true h68]; rfl)) (fun _ => rfl)
              · omega
        · have hb : itK tx n (σ 78) 1 p = none := itK_bad (fun q2 hq2 => by
            rw [hq] at hq2; cases hq2; rw [hI9, if_neg]
            intro hok
            simp only [okPath, Bool.and_eq_true, decide_eq_true_eq] at hok
            rw [e0, e1] at hok
            exact hA ⟨hok.2.1, hok.2.2.1⟩)
          refine g_if_eqB 40 10 dX8_takesPath_7 rfl rfl (fun h7 => ?_) (fun h7 => ?_)
          · simp [lenB] at h7; omega
          · refine g_al0 (pc2 := 11) dX8_takesPath_10 rfl ?_
            refine g_getr (pc2 := 14) (by rfl) (by rfl) flX8_22 dX8_takesPath_11 rfl ?_
            refine g_iconst (pc2 := 15) dX8_takesPath_14 k_iconst_0 rfl ?_
            refine g_iald (pc2 := 16) (by rfl) (by omega) (by decide) dX8_takesPath_15 rfl ?_
            rw [v0]
            refine g_al0 (pc2 := 17) dX8_takesPath_16 rfl ?_
            refine g_getr (pc2 := 20) (by rfl) (by rfl) flX8_13 dX8_takesPath_17 rfl ?_
            refine g_iconst (pc2 := 21) dX8_takesPath_20 k_iconst_0 rfl ?_
            refine g_iald (pc2 := 22) (by rfl) (by omega) (by decide) dX8_takesPath_21 rfl ?_
            rw [e78, w0.1]
            refine g_icmpN_ge 40 25 dX8_takesPath_22 rfl rfl (by omega) (by omega) (fun h22 => ?_) (fun h22 => ?_)
            · refine g_iconst (pc2 := 41) dX8_takesPath_40 k_iconst_0 rfl ?_
              exact g_zret dX8_takesPath_41 rfl (nz true) (Nat.le_refl _) (Nat.le_refl _) (itQ_bad hb hP.pr)
            · refine g_al0 (pc2 := 26) dX8_takesPath_25 rfl ?_
              refine g_getr (pc2 := 29) (by rfl) (by rfl) flX8_22 dX8_takesPath_26 rfl ?_
              refine g_iconst (pc2 := 30) dX8_takesPath_29 k_iconst_1 rfl ?_
              refine g_iald (pc2 := 31) (by rfl) (by omega) (by decide) dX8_takesPath_30 rfl ?_
              rw [v1]
              refine g_al0 (pc2 := 32) dX8_takesPath_31 rfl ?_
              refine g_getr (pc2 := 35) (by rfl) (by rfl) flX8_13 dX8_takesPath_32 rfl ?_
              refine g_iconst (pc2 := 36) dX8_takesPath_35 k_iconst_1 rfl ?_
              refine g_iald (pc2 := 37) (by rfl) (by omega) (by decide) dX8_takesPath_36 rfl ?_
              rw [e78, w1.1]
              refine g_icmpN_lt 42 40 dX8_takesPath_37 rfl rfl (by omega) (by omega) (fun h37 => ?_) (fun h37 => ?_)
              · omega
              · refine g_iconst (pc2 := 41) dX8_takesPath_40 k_iconst_0 rfl ?_
                exact g_zret dX8_takesPath_41 rfl (nz true) (Nat.le_refl _) (Nat.le_refl _) (itQ_bad hb hP.pr)
      · have hb : itK tx n (σ 78) 1 p = none := itK_bad (fun q2 hq2 => by rw [hq] at hq2; cases hq2; rw [hI9]; simp [okPath, hlen])
        refine g_if_eqB 40 10 dX8_takesPath_7 rfl rfl (fun h7 => ?_) (fun h7 => ?_)
        · refine g_iconst (pc2 := 41) dX8_takesPath_40 k_iconst_0 rfl ?_
          exact g_zret dX8_takesPath_41 rfl (nz true) (Nat.le_refl _) (Nat.le_refl _) (itQ_bad hb hP.pr)
        · simp [lenB] at h7; omega
  refine g_al0 (pc2 := 1) dX8_takesPath_0 rfl ?_
  refine g_iconst (pc2 := 2) dX8_takesPath_1 k_iconst_2 rfl ?_
  refine g_bipush (pc2 := 4) dX8_takesPath_2 k_bipush_6 rfl ?_
  refine g_callV (pc2 := 7) (R_m_tn l d σ hT hp hp2 2 6 (by decide) (by decide)) meX8_takesNumbers mlX8_73 (by rfl) ⟨_, rfl, rfl⟩ rfl rfl (by simp) ⟨Nat.le_refl _, Nat.le_refl _⟩ dX8_takesPath_4 rfl ?_
  rintro r sh2 σ1 ⟨rfl, rfl, hP, hTold⟩
  exact fin σ1 hP hTold
theorem R_m_comes (l : lt_L) (d : Nat) (σ : lt_S) {N : Nat} (hN : σ 78 2 = nI N) (hN7 : N < 7) (a b p q x : Int32) : lt_T l (d + 1) mX8_comes lt_SA σ [.ref 76, .int a, .int b, .int p, .int q, .int x] none (lt_ur σ 78 (comeRow (σ 78) a b p q x)) := by
  refine lt_T.of [some (.ref 76), some (.int a), some (.int b), some (.int p), some (.int q), some (.int x), none] rfl rfl (Nat.le_of_ble_eq_true rfl) ?_
  have e2 : tN (σ 78 2) = N := by rw [hN]; exact tN_nI (by omega)
  generalize hs : lt_ur σ 78 (comeRow (σ 78) a b p q x) = s2
  generalize hσ7 : lt_up (lt_up (lt_up (lt_up (lt_up (lt_up (lt_up σ 78 (16 + 7 * N + 0) a) 78 (16 + 7 * N + 1) b) 78 (16 + 7 * N + 2) p) 78 (16 + 7 * N + 3) q) 78 (16 + 7 * N + 4) x) 78 (16 + 7 * N + 5) (-4)) 78 (16 + 7 * N + 6) (-4) = σ7
  have h72 : σ7 78 2 = nI N := by
    rw [← hσ7, lt_up_ne _ _ _ (by omega), lt_up_ne _ _ _ (by omega), lt_up_ne _ _ _ (by omega), lt_up_ne _ _ _ (by omega), lt_up_ne _ _ _ (by omega), lt_up_ne _ _ _ (by omega), lt_up_ne _ _ _ (by omega)]
    exact hN
  have hend : lt_up σ7 78 2 (nI (N + 1)) = s2 := by
    rw [← hσ7, ← hs]
    simp only [lt_up_ur, lt_ur_eq, lt_ur_ur, comeRow, e2]
  refine g_bipush (pc2 := 2) dX8_comes_0 k_bipush_16 rfl ?_
  refine g_bipush (pc2 := 4) dX8_comes_2 k_bipush_7 rfl ?_
  refine g_al0 (pc2 := 5) dX8_comes_4 rfl ?_
  refine g_getr (pc2 := 8) (by rfl) (by rfl) flX8_13 dX8_comes_5 rfl ?_
  refine g_iconst (pc2 := 9) dX8_comes_8 k_iconst_2 rfl ?_
  refine g_iald (pc2 := 10) (by rfl) (by omega) (by decide) dX8_comes_9 rfl ?_
  rw [hN]
  refine g_imulN (pc2 := 11) dX8_comes_10 rfl ?_
  refine g_iaddN (pc2 := 12) dX8_comes_11 rfl ?_
  refine g_is6 (pc2 := 14) dX8_comes_12 (by decide) rfl ?_
  refine g_al0 (pc2 := 15) dX8_comes_14 rfl ?_
  refine g_getr (pc2 := 18) (by rfl) (by rfl) flX8_13 dX8_comes_15 rfl ?_
  refine g_il6 (pc2 := 20) dX8_comes_18 rfl ?_
  refine g_iconst (pc2 := 21) dX8_comes_20 k_iconst_0 rfl ?_
  refine g_iaddN (pc2 := 22) dX8_comes_21 rfl ?_
  refine g_il1 (pc2 := 23) dX8_comes_22 rfl ?_
  refine g_iast (pc2 := 24) (by rfl) (by omega) (by decide) dX8_comes_23 rfl ?_
  refine g_al0 (pc2 := 25) dX8_comes_24 rfl ?_
  refine g_getr (pc2 := 28) (by rfl) (by rfl) flX8_13 dX8_comes_25 rfl ?_
  refine g_il6 (pc2 := 30) dX8_comes_28 rfl ?_
  refine g_iconst (pc2 := 31) dX8_comes_30 k_iconst_1 rfl ?_
  refine g_iaddN (pc2 := 32) dX8_comes_31 rfl ?_
  refine g_il2 (pc2 := 33) dX8_comes_32 rfl ?_
  refine g_iast (pc2 := 34) (by rfl) (by omega) (by decide) dX8_comes_33 rfl ?_
  refine g_al0 (pc2 := 35) dX8_comes_34 rfl ?_
  refine g_getr (pc2 := 38) (by rfl) (by rfl) flX8_13 dX8_comes_35 rfl ?_
  refine g_il6 (pc2 := 40) dX8_comes_38 rfl ?_
  refine g_iconst (pc2 := 41) dX8_comes_40 k_iconst_2 rfl ?_
  refine g_iaddN (pc2 := 42) dX8_comes_41 rfl ?_
  refine g_il3 (pc2 := 43) dX8_comes_42 rfl ?_
  refine g_iast (pc2 := 44) (by rfl) (by omega) (by decide) dX8_comes_43 rfl ?_
  refine g_al0 (pc2 := 45) dX8_comes_44 rfl ?_
  refine g_getr (pc2 := 48) (by rfl) (by rfl) flX8_13 dX8_comes_45 rfl ?_
  refine g_il6 (pc2 := 50) dX8_comes_48 rfl ?_
  refine g_iconst (pc2 := 51) dX8_comes_50 k_iconst_3 rfl ?_
  refine g_iaddN (pc2 := 52) dX8_comes_51 rfl ?_
  refine g_il4 (pc2 := 54) dX8_comes_52 rfl ?_
  refine g_iast (pc2 := 55) (by rfl) (by omega) (by decide) dX8_comes_54 rfl ?_
  refine g_al0 (pc2 := 56) dX8_comes_55 rfl ?_
  refine g_getr (pc2 := 59) (by rfl) (by rfl) flX8_13 dX8_comes_56 rfl ?_
  refine g_il6 (pc2 := 61) dX8_comes_59 rfl ?_
  refine g_iconst (pc2 := 62) dX8_comes_61 k_iconst_4 rfl ?_
  refine g_iaddN (pc2 := 63) dX8_comes_62 rfl ?_
  refine g_il5 (pc2 := 65) dX8_comes_63 rfl ?_
  refine g_iast (pc2 := 66) (by rfl) (by omega) (by decide) dX8_comes_65 rfl ?_
  refine g_al0 (pc2 := 67) dX8_comes_66 rfl ?_
  refine g_getr (pc2 := 70) (by rfl) (by rfl) flX8_13 dX8_comes_67 rfl ?_
  refine g_il6 (pc2 := 72) dX8_comes_70 rfl ?_
  refine g_iconst (pc2 := 73) dX8_comes_72 k_iconst_5 rfl ?_
  refine g_iaddN (pc2 := 74) dX8_comes_73 rfl ?_
  refine g_bipush (pc2 := 76) dX8_comes_74 k_bipush_m4 rfl ?_
  refine g_iast (pc2 := 77) (by rfl) (by omega) (by decide) dX8_comes_76 rfl ?_
  refine g_al0 (pc2 := 78) dX8_comes_77 rfl ?_
  refine g_getr (pc2 := 81) (by rfl) (by rfl) flX8_13 dX8_comes_78 rfl ?_
  refine g_il6 (pc2 := 83) dX8_comes_81 rfl ?_
  refine g_bipush (pc2 := 85) dX8_comes_83 k_bipush_6 rfl ?_
  refine g_iaddN (pc2 := 86) dX8_comes_85 rfl ?_
  refine g_bipush (pc2 := 88) dX8_comes_86 k_bipush_m4 rfl ?_
  refine g_iast (pc2 := 89) (by rfl) (by omega) (by decide) dX8_comes_88 rfl ?_
  rw [hσ7]
  refine g_al0 (pc2 := 90) dX8_comes_89 rfl ?_
  refine g_getr (pc2 := 93) (by rfl) (by rfl) flX8_13 dX8_comes_90 rfl ?_
  refine g_iconst (pc2 := 94) dX8_comes_93 k_iconst_2 rfl ?_
  refine g_dup2 (pc2 := 95) dX8_comes_94 rfl ?_
  refine g_iald (pc2 := 96) (by rfl) (by omega) (by decide) dX8_comes_95 rfl ?_
  rw [h72]
  refine g_iconst (pc2 := 97) dX8_comes_96 k_iconst_1 rfl ?_
  refine g_iaddN (pc2 := 98) dX8_comes_97 rfl ?_
  refine g_iast (pc2 := 99) (by rfl) (by omega) (by decide) dX8_comes_98 rfl ?_
  exact g_retT dX8_comes_99 rfl (Nat.le_refl _) (Nat.le_refl _) (hend)
