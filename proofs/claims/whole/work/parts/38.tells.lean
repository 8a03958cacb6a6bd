/-! the class: items are told -/
theorem u_at (f : Nat → Int32) (i : Nat) (x : Int32) : upd f i x i = x := if_pos rfl
theorem u_ne (f : Nat → Int32) {i j : Nat} (x : Int32) (h : j ≠ i) : upd f i x j = f j := if_neg h
theorem okY_iff {r : Nat → Int32} {ns : List Nat} : okYard r ns = true ↔ r 0 = nI 0 ∧ ns.length = 2 ∧ 1 ≤ ns.getD 0 0 ∧ ns.getD 0 0 ≤ 3 ∧ 1 ≤ ns.getD 1 0 ∧ ns.getD 1 0 ≤ 4 := by
  simp only [okYard, Bool.and_eq_true, decide_eq_true_eq]
theorem okG_iff {ns : List Nat} : okGap ns = true ↔ ns.length = 1 ∧ ns.getD 0 0 < 10 := by
  simp only [okGap, Bool.and_eq_true, decide_eq_true_eq]
theorem okPr_iff {r : Nat → Int32} {ns : List Nat} : okPair r ns = true ↔ ns.length = 2 ∧ ¬ ns.getD 0 0 = ns.getD 1 0 ∧ ns.getD 0 0 < tN (r 2) ∧ ns.getD 1 0 < tN (r 2) ∧ r (16 + 7 * ns.getD 0 0 + 5) = -4 ∧ r (16 + 7 * ns.getD 1 0 + 5) = -4 := by
  simp only [okPair, Bool.and_eq_true, decide_eq_true_eq, Bool.not_eq_true', decide_eq_false_iff_not]
theorem okPt_iff {r : Nat → Int32} {ns : List Nat} : okPath r ns = true ↔ 2 ≤ ns.length ∧ ns.getD 0 0 < tN (r 0) ∧ ns.getD 1 0 < tN (r 1) ∧ r (4 + 4 * ns.getD 0 0 + ns.getD 1 0) = -4 ∧ allB (fun k => decide (ns.getD (k + 2) 0 < 12)) (ns.length - 2) = true := by
  simp only [okPath, Bool.and_eq_true, decide_eq_true_eq]
theorem okC_iff {r : Nat → Int32} {ns : List Nat} : okCome r ns = true ↔ ns.length = 5 ∧ tN (r 2) < 7 ∧ ns.getD 0 0 < tN (r 0) ∧ ns.getD 1 0 < tN (r 0) ∧ 1 ≤ ns.getD 2 0 ∧ ns.getD 2 0 ≤ ns.getD 3 0 ∧ ns.getD 3 0 ≤ 98 ∧ (ns.getD 4 0 < tN (r 1) ∨ ns.getD 4 0 = 9) := by
  simp only [okCome, Bool.and_eq_true, Bool.or_eq_true, decide_eq_true_eq]
theorem Wp.e {r : Nat → Int32} {ln T N : Nat} (h : Wp r ln T N) : tN (r 0) = ln ∧ tN (r 1) = T ∧ tN (r 2) = N := ⟨by rw [h.1.1]; exact tN_nI (by have := h.1.2; omega), by rw [h.2.1.1]; exact tN_nI (by have := h.2.1.2; omega), by rw [h.2.2.1.1]; exact tN_nI (by have := h.2.2.1.2; omega)⟩
theorem wish9 {x : Nat} (hx : x ≤ 99) : nI x = if (if x = 9 then -4 else nI x) = -4 then nI 9 else (if x = 9 then -4 else nI x) := by
  by_cases h : x = 9
  · subst h
    rw [if_pos rfl, if_pos rfl]
  · rw [if_neg h, if_neg (m4_ne (by omega))]
theorem comeRow_old {r : Nat → Int32} {N : Nat} (hN : tN (r 2) = N) (a b p q x : Int32) {j : Nat} (h2 : j ≠ 2) (h : j < 16 + 7 * N ∨ 16 + 7 * N + 6 < j) : comeRow r a b p q x j = r j := by
  unfold comeRow
  rw [hN, u_ne _ _ h2, u_ne _ _ (by omega), u_ne _ _ (by omega), u_ne _ _ (by omega), u_ne _ _ (by omega), u_ne _ _ (by omega), u_ne _ _ (by omega), u_ne _ _ (by omega)]
theorem comeRow_new {r : Nat → Int32} {N : Nat} (hN : tN (r 2) = N) (a b p q x : Int32) : comeRow r a b p q x (16 + 7 * N + 0) = a ∧ comeRow r a b p q x (16 + 7 * N + 1) = b ∧ comeRow r a b p q x (16 + 7 * N + 2) = p ∧ comeRow r a b p q x (16 + 7 * N + 3) = q ∧ comeRow r a b p q x (16 + 7 * N + 4) = x ∧ comeRow r a b p q x (16 + 7 * N + 5) = -4 ∧ comeRow r a b p q x (16 + 7 * N + 6) = -4 ∧ comeRow r a b p q x 2 = nI (N + 1) := by
  unfold comeRow
  rw [hN]
  refine ⟨?_, ?_, ?_, ?_, ?_, ?_, ?_, u_at _ _ _⟩
  · rw [u_ne _ _ (by omega), u_ne _ _ (by omega), u_ne _ _ (by omega), u_ne _ _ (by omega), u_ne _ _ (by omega), u_ne _ _ (by omega), u_ne _ _ (by omega), u_at]
  · rw [u_ne _ _ (by omega), u_ne _ _ (by omega), u_ne _ _ (by omega), u_ne _ _ (by omega), u_ne _ _ (by omega), u_ne _ _ (by omega), u_at]
  · rw [u_ne _ _ (by omega), u_ne _ _ (by omega), u_ne _ _ (by omega), u_ne _ _ (by omega), u_ne _ _ (by omega), u_at]
  · rw [u_ne _ _ (by omega), u_ne _ _ (by omega), u_ne _ _ (by omega), u_ne _ _ (by omega), u_at]
  · rw [u_ne _ _ (by omega), u_ne _ _ (by omega), u_ne _ _ (by omega), u_at]
  · rw [u_ne _ _ (by omega), u_ne _ _ (by omega), u_at]
  · rw [u_ne _ _ (by omega), u_at]

/-! reader 23: items -/
def CR23 (σ : lt_S) (r : Nat → Int32) : Prop := CY 13 σ r (tN (r 2)) ∧ CP 18 σ r (tN (r 2))
def FR23 (σ σ' : lt_S) : Prop := ∀ a, (a < 13 ∨ 17 < a) → (a < 19 ∨ 22 < a) → σ' a = σ a
theorem FR23.rf (σ : lt_S) : FR23 σ σ := fun _ _ _ => rfl
theorem FR23.up {σ σ' : lt_S} (h : FR23 σ σ') {a : Nat} (k : Nat) (x : Int32) (ha : (13 ≤ a ∧ a ≤ 17) ∨ (19 ≤ a ∧ a ≤ 22)) : FR23 σ (lt_up σ' a k x) := fun b h1 h2 => by rw [lt_up_nr _ _ _ (by omega)]; exact h b h1 h2
def tQ23 (t : lt_H) (σ : lt_S) (res : Option (Nat → Int32)) : lt_Q := fun r' sh' σ' => r' = some (bI res.isSome) ∧ sh' = lt_SC ++ t ∧ FR23 σ σ' ∧ ∀ r2, res = some r2 → CR23 σ' r2
theorem tQ23_bad {t : lt_H} {σ : lt_S} : tQ23 t σ none (some (nI 0)) (lt_SC ++ t) σ := ⟨rfl, rfl, FR23.rf σ, fun r2 h => by cases h⟩
theorem tQ23_ok {t : lt_H} {σ σ' : lt_S} {r2 : Nat → Int32} (hF : FR23 σ σ') (hC : CR23 σ' r2) : tQ23 t σ (some r2) (some (nI 1)) (lt_SC ++ t) σ' := ⟨rfl, rfl, hF, fun r3 h => by cases h; exact hC⟩
def In23 (σ : lt_S) (r : Nat → Int32) (ln T N : Nat) (ns : List Nat) : Prop := Wp r ln T N ∧ CR23 σ r ∧ NS23 σ ns ∧ (∀ v ∈ ns, v ≤ 99) ∧ 1 ≤ ns.length ∧ ns.length ≤ 6
theorem R_c_tellYard23 (l : lt_L) (d : Nat) (t : lt_H) (σ : lt_S) {r : Nat → Int32} {ln T N : Nat} {ns : List Nat} (h : In23 σ r ln T N ns) : lt_R l (d + 1) 0 0 mX3_tellYard (lt_SC ++ t) σ [.ref 23] (tQ23 t σ (itemR r 0 ns)) := by
  obtain ⟨hW, hC, hns, hle, hl1, hl6⟩ := h
  refine lt_R.of [some (.ref 23), none, none] rfl rfl (Nat.le_of_ble_eq_true rfl) ?_
  have hsz := hns.1
  have y0 : σ 13 0 = r 0 := hC.1.1.1
  have g0 := getD_le hle 0
  have g1 := getD_le hle 1
  have e0 : nI 0 = 0 := nI_0
  rw [item0]
  by_cases hlen : ns.length = 2
  · have n0 := hns.2 0 (by omega)
    have n1 := hns.2 1 (by omega)
    by_cases hok : okYard r ns = true
    · rw [if_pos hok]
      have hc := okY_iff.mp hok
      refine g_al0 (pc2 := 1) dX3_tellYard_0 rfl ?_
      refine g_geti (pc2 := 4) (by rfl) (by rfl) flX3_15 dX3_tellYard_1 rfl ?_
      rw [hsz]
      refine g_iconst (pc2 := 5) dX3_tellYard_4 k_iconst_2 rfl ?_
      refine g_icmpN_ne 18 8 dX3_tellYard_5 rfl rfl (by omega) (by omega) (fun h5 => ?_) (fun h5 => ?_)
      · exact absurd hlen h5
      · refine g_al0 (pc2 := 9) dX3_tellYard_8 rfl ?_
        refine g_getr (pc2 := 12) (by rfl) (by rfl) flX3_23 dX3_tellYard_9 rfl ?_
        refine g_geti (pc2 := 15) (by rfl) (by rfl) flX3_70 dX3_tellYard_12 rfl ?_
        rw [y0]
        refine g_if_eq 20 18 dX3_tellYard_15 rfl rfl (fun h15 => ?_) (fun h15 => ?_)
        · refine g_al0 (pc2 := 21) dX3_tellYard_20 rfl ?_
          refine g_getr (pc2 := 24) (by rfl) (by rfl) flX3_11 dX3_tellYard_21 rfl ?_
          refine g_iconst (pc2 := 25) dX3_tellYard_24 k_iconst_0 rfl ?_
          refine g_iald (pc2 := 26) (by rfl) (by omega) (by decide) dX3_tellYard_25 rfl ?_
          rw [n0]
          refine g_is1 (pc2 := 27) dX3_tellYard_26 (by decide) rfl ?_
          refine g_al0 (pc2 := 28) dX3_tellYard_27 rfl ?_
          refine g_getr (pc2 := 31) (by rfl) (by rfl) flX3_11 dX3_tellYard_28 rfl ?_
          refine g_iconst (pc2 := 32) dX3_tellYard_31 k_iconst_1 rfl ?_
          refine g_iald (pc2 := 33) (by rfl) (by omega) (by decide) dX3_tellYard_32 rfl ?_
          rw [n1]
          refine g_is2 (pc2 := 34) dX3_tellYard_33 (by decide) rfl ?_
          refine g_il1 (pc2 := 35) dX3_tellYard_34 rfl ?_
          refine g_iconst (pc2 := 36) dX3_tellYard_35 k_iconst_1 rfl ?_
          refine g_icmpN_lt 54 39 dX3_tellYard_36 rfl rfl (by omega) (by omega) (fun h36 => ?_) (fun h36 => ?_)
          · omega
          · refine g_il1 (pc2 := 40) dX3_tellYard_39 rfl ?_
            refine g_iconst (pc2 := 41) dX3_tellYard_40 k_iconst_3 rfl ?_
            refine g_icmpN_gt 54 44 dX3_tellYard_41 rfl rfl (by omega) (by omega) (fun h41 => ?_) (fun h41 => ?_)
            · omega
            · refine g_il2 (pc2 := 45) dX3_tellYard_44 rfl ?_
              refine g_iconst (pc2 := 46) dX3_tellYard_45 k_iconst_1 rfl ?_
              refine g_icmpN_lt 54 49 dX3_tellYard_46 rfl rfl (by omega) (by omega) (fun h46 => ?_) (fun h46 => ?_)
              · omega
              · refine g_il2 (pc2 := 50) dX3_tellYard_49 rfl ?_
                refine g_iconst (pc2 := 51) dX3_tellYard_50 k_iconst_4 rfl ?_
                refine g_icmpN_le 56 54 dX3_tellYard_51 rfl rfl (by omega) (by omega) (fun h51 => ?_) (fun h51 => ?_)
                · refine g_al0 (pc2 := 57) dX3_tellYard_56 rfl ?_
                  refine g_getr (pc2 := 60) (by rfl) (by rfl) flX3_23 dX3_tellYard_57 rfl ?_
                  refine g_il1 (pc2 := 61) dX3_tellYard_60 rfl ?_
                  refine g_puti (pc2 := 64) (by rfl) (by rfl) flX3_70 (fpX6_0 _) (fun h => by first | cases h | rfl) dX3_tellYard_61 rfl ?_
                  refine g_al0 (pc2 := 65) dX3_tellYard_64 rfl ?_
                  refine g_getr (pc2 := 68) (by rfl) (by rfl) flX3_23 dX3_tellYard_65 rfl ?_
                  refine g_il2 (pc2 := 69) dX3_tellYard_68 rfl ?_
                  refine g_puti (pc2 := 72) (by rfl) (by rfl) flX3_85 (fpX6_1 _) (fun h => by first | cases h | rfl) dX3_tellYard_69 rfl ?_
                  refine g_iconst (pc2 := 73) dX3_tellYard_72 k_iconst_1 rfl ?_
                  refine g_zret dX3_tellYard_73 rfl (bI_nar true) (Nat.le_refl _) (Nat.le_refl _) (tQ23_ok ((((FR23.rf σ).up _ _ (by decide)).up _ _ (by decide))) ?_)
                  refine ⟨⟨⟨?_, ?_, hC.1.1.2.2.1, hC.1.1.2.2.2⟩, fun k hk => ?_, fun i hi => ?_⟩, fun i hi => ?_⟩
                  · rfl
                  · rfl
                  · unfold rowYard; rw [u_ne _ _ (by omega), u_ne _ _ (by omega)]; exact hC.1.2.1 k hk
                  · unfold rowYard; rw [u_ne _ _ (by omega), u_ne _ _ (by omega), u_ne _ _ (by omega), u_ne _ _ (by omega), u_ne _ _ (by omega), u_ne _ _ (by omega)]; exact hC.1.2.2 i hi
                  · unfold rowYard; rw [u_ne _ _ (by omega), u_ne _ _ (by omega), u_ne _ _ (by omega), u_ne _ _ (by omega), u_ne _ _ (by omega), u_ne _ _ (by omega), u_ne _ _ (by omega), u_ne _ _ (by omega)]; exact hC.2 i hi
                · omega
        · exact absurd (hc.1.trans e0) h15
    · rw [if_neg hok]
      refine g_al0 (pc2 := 1) dX3_tellYard_0 rfl ?_
      refine g_geti (pc2 := 4) (by rfl) (by rfl) flX3_15 dX3_tellYard_1 rfl ?_
      rw [hsz]
      refine g_iconst (pc2 := 5) dX3_tellYard_4 k_iconst_2 rfl ?_
      refine g_icmpN_ne 18 8 dX3_tellYard_5 rfl rfl (by omega) (by omega) (fun h5 => ?_) (fun h5 => ?_)
      · exact absurd hlen h5
      · refine g_al0 (pc2 := 9) dX3_tellYard_8 rfl ?_
        refine g_getr (pc2 := 12) (by rfl) (by rfl) flX3_23 dX3_tellYard_9 rfl ?_
        refine g_geti (pc2 := 15) (by rfl) (by rfl) flX3_70 dX3_tellYard_12 rfl ?_
        rw [y0]
        refine g_if_eq 20 18 dX3_tellYard_15 rfl rfl (fun h15 => ?_) (fun h15 => ?_)
        · refine g_al0 (pc2 := 21) dX3_tellYard_20 rfl ?_
          refine g_getr (pc2 := 24) (by rfl) (by rfl) flX3_11 dX3_tellYard_21 rfl ?_
          refine g_iconst (pc2 := 25) dX3_tellYard_24 k_iconst_0 rfl ?_
          refine g_iald (pc2 := 26) (by rfl) (by omega) (by decide) dX3_tellYard_25 rfl ?_
          rw [n0]
          refine g_is1 (pc2 := 27) dX3_tellYard_26 (by decide) rfl ?_
          refine g_al0 (pc2 := 28) dX3_tellYard_27 rfl ?_
          refine g_getr (pc2 := 31) (by rfl) (by rfl) flX3_11 dX3_tellYard_28 rfl ?_
          refine g_iconst (pc2 := 32) dX3_tellYard_31 k_iconst_1 rfl ?_
          refine g_iald (pc2 := 33) (by rfl) (by omega) (by decide) dX3_tellYard_32 rfl ?_
          rw [n1]
          refine g_is2 (pc2 := 34) dX3_tellYard_33 (by decide) rfl ?_
          refine g_il1 (pc2 := 35) dX3_tellYard_34 rfl ?_
          refine g_iconst (pc2 := 36) dX3_tellYard_35 k_iconst_1 rfl ?_
          refine g_icmpN_lt 54 39 dX3_tellYard_36 rfl rfl (by omega) (by omega) (fun h36 => ?_) (fun h36 => ?_)
          · refine g_iconst (pc2 := 55) dX3_tellYard_54 k_iconst_0 rfl ?_
            exact g_zret dX3_tellYard_55 rfl (bI_nar false) (Nat.le_refl _) (Nat.le_refl _) tQ23_bad
          · refine g_il1 (pc2 := 40) dX3_tellYard_39 rfl ?_
            refine g_iconst (pc2 := 41) dX3_tellYard_40 k_iconst_3 rfl ?_
            refine g_icmpN_gt 54 44 dX3_tellYard_41 rfl rfl (by omega) (by omega) (fun h41 => ?_) (fun h41 => ?_)
            · refine g_iconst (pc2 := 55) dX3_tellYard_54 k_iconst_0 rfl ?_
              exact g_zret dX3_tellYard_55 rfl (bI_nar false) (Nat.le_refl _) (Nat.le_refl _) tQ23_bad
            · refine g_il2 (pc2 := 45) dX3_tellYard_44 rfl ?_
              refine g_iconst (pc2 := 46) dX3_tellYard_45 k_iconst_1 rfl ?_
              refine g_icmpN_lt 54 49 dX3_tellYard_46 rfl rfl (by omega) (by omega) (fun h46 => ?_) (fun h46 => ?_)
              · refine g_iconst (pc2 := 55) dX3_tellYard_54 k_iconst_0 rfl ?_
                exact g_zret dX3_tellYard_55 rfl (bI_nar false) (Nat.le_refl _) (Nat.le_refl _) tQ23_bad
              · refine g_il2 (pc2 := 50) dX3_tellYard_49 rfl ?_
                refine g_iconst (pc2 := 51) dX3_tellYard_50 k_iconst_4 rfl ?_
                refine g_icmpN_le 56 54 dX3_tellYard_51 rfl rfl (by omega) (by omega) (fun h51 => ?_) (fun h51 => ?_)
                · exact absurd (okY_iff.mpr ⟨h15.trans e0.symm, hlen, by omega, by omega, by omega, by omega⟩) hok
                · refine g_iconst (pc2 := 55) dX3_tellYard_54 k_iconst_0 rfl ?_
                  exact g_zret dX3_tellYard_55 rfl (bI_nar false) (Nat.le_refl _) (Nat.le_refl _) tQ23_bad
        · refine g_iconst (pc2 := 19) dX3_tellYard_18 k_iconst_0 rfl ?_
          exact g_zret dX3_tellYard_19 rfl (bI_nar false) (Nat.le_refl _) (Nat.le_refl _) tQ23_bad
  · rw [if_neg (fun q => hlen (okY_iff.mp q).2.1)]
    refine g_al0 (pc2 := 1) dX3_tellYard_0 rfl ?_
    refine g_geti (pc2 := 4) (by rfl) (by rfl) flX3_15 dX3_tellYard_1 rfl ?_
    rw [hsz]
    refine g_iconst (pc2 := 5) dX3_tellYard_4 k_iconst_2 rfl ?_
    refine g_icmpN_ne 18 8 dX3_tellYard_5 rfl rfl (by omega) (by omega) (fun h5 => ?_) (fun h5 => ?_)
    · refine g_iconst (pc2 := 19) dX3_tellYard_18 k_iconst_0 rfl ?_
      exact g_zret dX3_tellYard_19 rfl (bI_nar false) (Nat.le_refl _) (Nat.le_refl _) tQ23_bad
    · exact absurd h5 hlen
theorem R_c_tellGap23 (l : lt_L) (d : Nat) (t : lt_H) (σ : lt_S) {r : Nat → Int32} {ln T N : Nat} {ns : List Nat} (h : In23 σ r ln T N ns) (hr0 : ¬ r 0 = nI 0) : lt_R l (d + 1) 0 0 mX3_tellGap (lt_SC ++ t) σ [.ref 23] (tQ23 t σ (itemR r 4 ns)) := by
  obtain ⟨hW, hC, hns, hle, hl1, hl6⟩ := h
  refine lt_R.of [some (.ref 23)] rfl rfl (Nat.le_of_ble_eq_true rfl) ?_
  have hsz := hns.1
  have g0 := getD_le hle 0
  have n0 := hns.2 0 (by omega)
  rw [item4 hr0]
  by_cases hok : okGap ns = true
  · rw [if_pos hok]
    have hc := okG_iff.mp hok
    refine g_al0 (pc2 := 1) dX3_tellGap_0 rfl ?_
    refine g_geti (pc2 := 4) (by rfl) (by rfl) flX3_15 dX3_tellGap_1 rfl ?_
    rw [hsz]
    refine g_iconst (pc2 := 5) dX3_tellGap_4 k_iconst_1 rfl ?_
    refine g_icmpN_ne 19 8 dX3_tellGap_5 rfl rfl (by omega) (by omega) (fun h5 => ?_) (fun h5 => ?_)
    · exact absurd hc.1 h5
    · refine g_al0 (pc2 := 9) dX3_tellGap_8 rfl ?_
      refine g_getr (pc2 := 12) (by rfl) (by rfl) flX3_11 dX3_tellGap_9 rfl ?_
      refine g_iconst (pc2 := 13) dX3_tellGap_12 k_iconst_0 rfl ?_
      refine g_iald (pc2 := 14) (by rfl) (by omega) (by decide) dX3_tellGap_13 rfl ?_
      rw [n0]
      refine g_bipush (pc2 := 16) dX3_tellGap_14 k_bipush_9 rfl ?_
      refine g_icmpN_le 21 19 dX3_tellGap_16 rfl rfl (by omega) (by omega) (fun h16 => ?_) (fun h16 => ?_)
      · refine g_al0 (pc2 := 22) dX3_tellGap_21 rfl ?_
        refine g_getr (pc2 := 25) (by rfl) (by rfl) flX3_23 dX3_tellGap_22 rfl ?_
        refine g_al0 (pc2 := 26) dX3_tellGap_25 rfl ?_
        refine g_getr (pc2 := 29) (by rfl) (by rfl) flX3_11 dX3_tellGap_26 rfl ?_
        refine g_iconst (pc2 := 30) dX3_tellGap_29 k_iconst_0 rfl ?_
        refine g_iald (pc2 := 31) (by rfl) (by omega) (by decide) dX3_tellGap_30 rfl ?_
        rw [n0]
        refine g_puti (pc2 := 34) (by rfl) (by rfl) flX3_129 (fpX6_3 _) (fun h => by first | cases h | rfl) dX3_tellGap_31 rfl ?_
        refine g_iconst (pc2 := 35) dX3_tellGap_34 k_iconst_1 rfl ?_
        refine g_zret dX3_tellGap_35 rfl (bI_nar true) (Nat.le_refl _) (Nat.le_refl _) (tQ23_ok ((FR23.rf σ).up _ _ (by decide)) ?_)
        refine ⟨⟨⟨hC.1.1.1, hC.1.1.2.1, hC.1.1.2.2.1, rfl⟩, fun k hk => ?_, fun i hi => ?_⟩, fun i hi => ?_⟩
        · unfold rowGap; rw [u_ne _ _ (by omega)]; exact hC.1.2.1 k hk
        · unfold rowGap; rw [u_ne _ _ (by omega), u_ne _ _ (by omega), u_ne _ _ (by omega)]; exact hC.1.2.2 i hi
        · unfold rowGap; rw [u_ne _ _ (by omega), u_ne _ _ (by omega), u_ne _ _ (by omega), u_ne _ _ (by omega)]; exact hC.2 i hi
      · omega
  · rw [if_neg hok]
    refine g_al0 (pc2 := 1) dX3_tellGap_0 rfl ?_
    refine g_geti (pc2 := 4) (by rfl) (by rfl) flX3_15 dX3_tellGap_1 rfl ?_
    rw [hsz]
    refine g_iconst (pc2 := 5) dX3_tellGap_4 k_iconst_1 rfl ?_
    refine g_icmpN_ne 19 8 dX3_tellGap_5 rfl rfl (by omega) (by omega) (fun h5 => ?_) (fun h5 => ?_)
    · refine g_iconst (pc2 := 20) dX3_tellGap_19 k_iconst_0 rfl ?_
      exact g_zret dX3_tellGap_20 rfl (bI_nar false) (Nat.le_refl _) (Nat.le_refl _) tQ23_bad
    · refine g_al0 (pc2 := 9) dX3_tellGap_8 rfl ?_
      refine g_getr (pc2 := 12) (by rfl) (by rfl) flX3_11 dX3_tellGap_9 rfl ?_
      refine g_iconst (pc2 := 13) dX3_tellGap_12 k_iconst_0 rfl ?_
      refine g_iald (pc2 := 14) (by rfl) (by omega) (by decide) dX3_tellGap_13 rfl ?_
      rw [n0]
      refine g_bipush (pc2 := 16) dX3_tellGap_14 k_bipush_9 rfl ?_
      refine g_icmpN_le 21 19 dX3_tellGap_16 rfl rfl (by omega) (by omega) (fun h16 => ?_) (fun h16 => ?_)
      · exact absurd (okG_iff.mpr ⟨h5, by omega⟩) hok
      · refine g_iconst (pc2 := 20) dX3_tellGap_19 k_iconst_0 rfl ?_
        exact g_zret dX3_tellGap_20 rfl (bI_nar false) (Nat.le_refl _) (Nat.le_refl _) tQ23_bad
theorem R_c_tellPair23 (l : lt_L) (d : Nat) (t : lt_H) (σ : lt_S) {r : Nat → Int32} {ln T N : Nat} {ns : List Nat} (h : In23 σ r ln T N ns) (hr0 : ¬ r 0 = nI 0) : lt_R l (d + 2) 0 0 mX3_tellPair (lt_SC ++ t) σ [.ref 23] (tQ23 t σ (itemR r 3 ns)) := by
  obtain ⟨hW, hC, hns, hle, hl1, hl6⟩ := h
  refine lt_R.of [some (.ref 23), none, none] rfl rfl (Nat.le_of_ble_eq_true rfl) ?_
  have hsz := hns.1
  have g0 := getD_le hle 0
  have g1 := getD_le hle 1
  have eN := hW.e.2.2
  have hN7 := hW.2.2.1.2
  have y2 : σ 13 2 = nI N := hC.1.1.2.2.1.trans hW.2.2.1.1
  rw [item3 hr0]
  by_cases hlen : ns.length = 2
  · have n0 := hns.2 0 (by omega)
    have n1 := hns.2 1 (by omega)
    generalize hi : ns.getD 0 0 = i at *
    generalize hj : ns.getD 1 0 = j at *
    have m0 : i < N → σ 17 i = r (16 + 7 * i + 5) := fun h => (hC.1.2.2 i (by omega)).2.2
    have m1 : j < N → σ 17 j = r (16 + 7 * j + 5) := fun h => (hC.1.2.2 j (by omega)).2.2
    have hd : ∀ k, k ≤ 99 → hasB (nI k) (σ 13 2) = decide (k < N) := fun k hk => by rw [y2]; exact hasB_nI (by omega) (by omega)
    by_cases hok : okPair r ns = true
    · rw [if_pos hok]
      have hc := okPr_iff.mp hok
      rw [hi, hj, eN] at hc
      have hr : rowPair r ns = upd (upd r (16 + 7 * i + 5) (nI j)) (16 + 7 * j + 5) (nI i) := by unfold rowPair; rw [hi, hj]
      rw [hr]
      refine g_al0 (pc2 := 1) dX3_tellPair_0 rfl ?_
      refine g_getr (pc2 := 4) (by rfl) (by rfl) flX3_11 dX3_tellPair_1 rfl ?_
      refine g_iconst (pc2 := 5) dX3_tellPair_4 k_iconst_0 rfl ?_
      refine g_iald (pc2 := 6) (by rfl) (by omega) (by decide) dX3_tellPair_5 rfl ?_
      rw [n0]
      refine g_is1 (pc2 := 7) dX3_tellPair_6 (by decide) rfl ?_
      refine g_al0 (pc2 := 8) dX3_tellPair_7 rfl ?_
      refine g_getr (pc2 := 11) (by rfl) (by rfl) flX3_11 dX3_tellPair_8 rfl ?_
      refine g_iconst (pc2 := 12) dX3_tellPair_11 k_iconst_1 rfl ?_
      refine g_iald (pc2 := 13) (by rfl) (by omega) (by decide) dX3_tellPair_12 rfl ?_
      rw [n1]
      refine g_is2 (pc2 := 14) dX3_tellPair_13 (by decide) rfl ?_
      refine g_al0 (pc2 := 15) dX3_tellPair_14 rfl ?_
      refine g_geti (pc2 := 18) (by rfl) (by rfl) flX3_15 dX3_tellPair_15 rfl ?_
      rw [hsz]
      refine g_iconst (pc2 := 19) dX3_tellPair_18 k_iconst_2 rfl ?_
      refine g_icmpN_ne 49 22 dX3_tellPair_19 rfl rfl (by omega) (by omega) (fun h19 => ?_) (fun h19 => ?_)
      · exact absurd hlen h19
      · refine g_il1 (pc2 := 23) dX3_tellPair_22 rfl ?_
        refine g_il2 (pc2 := 24) dX3_tellPair_23 rfl ?_
        refine g_icmpN_eq 49 27 dX3_tellPair_24 rfl rfl (by omega) (by omega) (fun h24 => ?_) (fun h24 => ?_)
        · exact absurd h24 hc.2.1
        · refine g_al0 (pc2 := 28) dX3_tellPair_27 rfl ?_
          refine g_getr (pc2 := 31) (by rfl) (by rfl) flX3_23 dX3_tellPair_28 rfl ?_
          refine g_il1 (pc2 := 32) dX3_tellPair_31 rfl ?_
          refine g_cVi (pc2 := 35) (R_c_hasTrain13 l d _ _ _) meX6_hasTrain mlX3_126 (by rfl) ⟨_, rfl, rfl⟩ rfl rfl (by simp) ⟨Nat.le_refl _, Nat.le_refl _⟩ dX3_tellPair_32 rfl ?_
          rw [hd i g0]
          refine g_if_eqB 49 38 dX3_tellPair_35 rfl rfl (fun h35 => ?_) (fun h35 => ?_)
          · exact absurd hc.2.2.1 (of_decide_eq_false h35)
          · refine g_al0 (pc2 := 39) dX3_tellPair_38 rfl ?_
            refine g_getr (pc2 := 42) (by rfl) (by rfl) flX3_23 dX3_tellPair_39 rfl ?_
            refine g_il2 (pc2 := 43) dX3_tellPair_42 rfl ?_
            refine g_cVi (pc2 := 46) (R_c_hasTrain13 l d _ _ _) meX6_hasTrain mlX3_126 (by rfl) ⟨_, rfl, rfl⟩ rfl rfl (by simp) ⟨Nat.le_refl _, Nat.le_refl _⟩ dX3_tellPair_43 rfl ?_
            rw [hd j g1]
            refine g_if_neB 51 49 dX3_tellPair_46 rfl rfl (fun h46 => ?_) (fun h46 => ?_)
            · refine g_al0 (pc2 := 52) dX3_tellPair_51 rfl ?_
              refine g_getr (pc2 := 55) (by rfl) (by rfl) flX3_23 dX3_tellPair_52 rfl ?_
              refine g_getr (pc2 := 58) (by rfl) (by rfl) flX3_109 dX3_tellPair_55 rfl ?_
              refine g_il1 (pc2 := 59) dX3_tellPair_58 rfl ?_
              refine g_iald (pc2 := 60) (by rfl) (by omega) (by decide) dX3_tellPair_59 rfl ?_
              rw [m0 hc.2.2.1]
              refine g_bipush (pc2 := 62) dX3_tellPair_60 k_bipush_m4 rfl ?_
              refine g_icmp_ne 79 65 dX3_tellPair_62 rfl rfl (fun h62 => ?_) (fun h62 => ?_)
              · exact absurd hc.2.2.2.2.1 h62
              · refine g_al0 (pc2 := 66) dX3_tellPair_65 rfl ?_
                refine g_getr (pc2 := 69) (by rfl) (by rfl) flX3_23 dX3_tellPair_66 rfl ?_
                refine g_getr (pc2 := 72) (by rfl) (by rfl) flX3_109 dX3_tellPair_69 rfl ?_
                refine g_il2 (pc2 := 73) dX3_tellPair_72 rfl ?_
                refine g_iald (pc2 := 74) (by rfl) (by omega) (by decide) dX3_tellPair_73 rfl ?_
                rw [m1 hc.2.2.2.1]
                refine g_bipush (pc2 := 76) dX3_tellPair_74 k_bipush_m4 rfl ?_
                refine g_icmp_eq 81 79 dX3_tellPair_76 rfl rfl (fun h76 => ?_) (fun h76 => ?_)
                · refine g_al0 (pc2 := 82) dX3_tellPair_81 rfl ?_
                  refine g_getr (pc2 := 85) (by rfl) (by rfl) flX3_23 dX3_tellPair_82 rfl ?_
                  refine g_getr (pc2 := 88) (by rfl) (by rfl) flX3_109 dX3_tellPair_85 rfl ?_
                  refine g_il1 (pc2 := 89) dX3_tellPair_88 rfl ?_
                  refine g_il2 (pc2 := 90) dX3_tellPair_89 rfl ?_
                  refine g_iast (pc2 := 91) (by rfl) (by omega) (by decide) dX3_tellPair_90 rfl ?_
                  refine g_al0 (pc2 := 92) dX3_tellPair_91 rfl ?_
                  refine g_getr (pc2 := 95) (by rfl) (by rfl) flX3_23 dX3_tellPair_92 rfl ?_
                  refine g_getr (pc2 := 98) (by rfl) (by rfl) flX3_109 dX3_tellPair_95 rfl ?_
                  refine g_il2 (pc2 := 99) dX3_tellPair_98 rfl ?_
                  refine g_il1 (pc2 := 100) dX3_tellPair_99 rfl ?_
                  refine g_iast (pc2 := 101) (by rfl) (by omega) (by decide) dX3_tellPair_100 rfl ?_
                  refine g_iconst (pc2 := 102) dX3_tellPair_101 k_iconst_1 rfl ?_
                  refine g_zret dX3_tellPair_102 rfl (bI_nar true) (Nat.le_refl _) (Nat.le_refl _) (tQ23_ok (((FR23.rf σ).up _ _ (by decide)).up _ _ (by decide)) ?_)
                  have e2 : upd (upd r (16 + 7 * i + 5) (nI j)) (16 + 7 * j + 5) (nI i) 2 = r 2 := by rw [u_ne _ _ (by omega), u_ne _ _ (by omega)]
                  unfold CR23
                  rw [e2]
                  refine ⟨⟨⟨?_, ?_, ?_, ?_⟩, fun k hk => ?_, fun q hq => ⟨?_, ?_, ?_⟩⟩, fun q hq => ?_⟩
                  · rw [u_ne _ _ (by omega), u_ne _ _ (by omega)]; exact hC.1.1.1
                  · rw [u_ne _ _ (by omega), u_ne _ _ (by omega)]; exact hC.1.1.2.1
                  · rw [u_ne _ _ (by omega), u_ne _ _ (by omega)]; exact hC.1.1.2.2.1
                  · rw [u_ne _ _ (by omega), u_ne _ _ (by omega)]; exact hC.1.1.2.2.2
                  · rw [u_ne _ _ (by omega), u_ne _ _ (by omega)]; exact hC.1.2.1 k hk
                  · rw [u_ne _ _ (by omega), u_ne _ _ (by omega)]; exact (hC.1.2.2 q hq).1
                  · rw [u_ne _ _ (by omega), u_ne _ _ (by omega)]; exact (hC.1.2.2 q hq).2.1
                  · show lt_up (lt_up σ 17 i (nI j)) 17 j (nI i) 17 q = _
                    by_cases c2 : q = j
                    · subst c2; rw [lt_up_at, u_at]
                    · rw [lt_up_ne _ _ _ c2, u_ne _ _ (by omega)]
                      by_cases c1 : q = i
                      · subst c1; rw [lt_up_at, u_at]
                      · rw [lt_up_ne _ _ _ c1, u_ne _ _ (by omega)]; exact (hC.1.2.2 q hq).2.2
                  · rw [u_ne _ _ (by omega), u_ne _ _ (by omega), u_ne _ _ (by omega), u_ne _ _ (by omega), u_ne _ _ (by omega), u_ne _ _ (by omega), u_ne _ _ (by omega), u_ne _ _ (by omega)]; exact hC.2 q hq
                · exact absurd hc.2.2.2.2.2 h76
            · exact absurd hc.2.2.2.1 (of_decide_eq_false h46)
    · rw [if_neg hok]
      have hno : ¬ (¬ i = j ∧ i < N ∧ j < N ∧ r (16 + 7 * i + 5) = -4 ∧ r (16 + 7 * j + 5) = -4) := by
        intro q
        apply hok
        rw [okPr_iff, hi, hj, eN]
        exact ⟨hlen, q⟩
      refine g_al0 (pc2 := 1) dX3_tellPair_0 rfl ?_
      refine g_getr (pc2 := 4) (by rfl) (by rfl) flX3_11 dX3_tellPair_1 rfl ?_
      refine g_iconst (pc2 := 5) dX3_tellPair_4 k_iconst_0 rfl ?_
      refine g_iald (pc2 := 6) (by rfl) (by omega) (by decide) dX3_tellPair_5 rfl ?_
      rw [n0]
      refine g_is1 (pc2 := 7) dX3_tellPair_6 (by decide) rfl ?_
      refine g_al0 (pc2 := 8) dX3_tellPair_7 rfl ?_
      refine g_getr (pc2 := 11) (by rfl) (by rfl) flX3_11 dX3_tellPair_8 rfl ?_
      refine g_iconst (pc2 := 12) dX3_tellPair_11 k_iconst_1 rfl ?_
      refine g_iald (pc2 := 13) (by rfl) (by omega) (by decide) dX3_tellPair_12 rfl ?_
      rw [n1]
      refine g_is2 (pc2 := 14) dX3_tellPair_13 (by decide) rfl ?_
      refine g_al0 (pc2 := 15) dX3_tellPair_14 rfl ?_
      refine g_geti (pc2 := 18) (by rfl) (by rfl) flX3_15 dX3_tellPair_15 rfl ?_
      rw [hsz]
      refine g_iconst (pc2 := 19) dX3_tellPair_18 k_iconst_2 rfl ?_
      refine g_icmpN_ne 49 22 dX3_tellPair_19 rfl rfl (by omega) (by omega) (fun h19 => ?_) (fun h19 => ?_)
      · exact absurd hlen h19
      · refine g_il1 (pc2 := 23) dX3_tellPair_22 rfl ?_
        refine g_il2 (pc2 := 24) dX3_tellPair_23 rfl ?_
        refine g_icmpN_eq 49 27 dX3_tellPair_24 rfl rfl (by omega) (by omega) (fun h24 => ?_) (fun h24 => ?_)
        · refine g_iconst (pc2 := 50) dX3_tellPair_49 k_iconst_0 rfl ?_
          exact g_zret dX3_tellPair_50 rfl (bI_nar false) (Nat.le_refl _) (Nat.le_refl _) tQ23_bad
        · refine g_al0 (pc2 := 28) dX3_tellPair_27 rfl ?_
          refine g_getr (pc2 := 31) (by rfl) (by rfl) flX3_23 dX3_tellPair_28 rfl ?_
          refine g_il1 (pc2 := 32) dX3_tellPair_31 rfl ?_
          refine g_cVi (pc2 := 35) (R_c_hasTrain13 l d _ _ _) meX6_hasTrain mlX3_126 (by rfl) ⟨_, rfl, rfl⟩ rfl rfl (by simp) ⟨Nat.le_refl _, Nat.le_refl _⟩ dX3_tellPair_32 rfl ?_
          rw [hd i g0]
          refine g_if_eqB 49 38 dX3_tellPair_35 rfl rfl (fun h35 => ?_) (fun h35 => ?_)
          · refine g_iconst (pc2 := 50) dX3_tellPair_49 k_iconst_0 rfl ?_
            exact g_zret dX3_tellPair_50 rfl (bI_nar false) (Nat.le_refl _) (Nat.le_refl _) tQ23_bad
          · refine g_al0 (pc2 := 39) dX3_tellPair_38 rfl ?_
            refine g_getr (pc2 := 42) (by rfl) (by rfl) flX3_23 dX3_tellPair_39 rfl ?_
            refine g_il2 (pc2 := 43) dX3_tellPair_42 rfl ?_
            refine g_cVi (pc2 := 46) (R_c_hasTrain13 l d _ _ _) meX6_hasTrain mlX3_126 (by rfl) ⟨_, rfl, rfl⟩ rfl rfl (by simp) ⟨Nat.le_refl _, Nat.le_refl _⟩ dX3_tellPair_43 rfl ?_
            rw [hd j g1]
            refine g_if_neB 51 49 dX3_tellPair_46 rfl rfl (fun h46 => ?_) (fun h46 => ?_)
            · have hi7 := of_decide_eq_true h35
              have hj7 := of_decide_eq_true h46
              refine g_al0 (pc2 := 52) dX3_tellPair_51 rfl ?_
              refine g_getr (pc2 := 55) (by rfl) (by rfl) flX3_23 dX3_tellPair_52 rfl ?_
              refine g_getr (pc2 := 58) (by rfl) (by rfl) flX3_109 dX3_tellPair_55 rfl ?_
              refine g_il1 (pc2 := 59) dX3_tellPair_58 rfl ?_
              refine g_iald (pc2 := 60) (by rfl) (by omega) (by decide) dX3_tellPair_59 rfl ?_
              rw [m0 hi7]
              refine g_bipush (pc2 := 62) dX3_tellPair_60 k_bipush_m4 rfl ?_
              refine g_icmp_ne 79 65 dX3_tellPair_62 rfl rfl (fun h62 => ?_) (fun h62 => ?_)
              · refine g_iconst (pc2 := 80) dX3_tellPair_79 k_iconst_0 rfl ?_
                exact g_zret dX3_tellPair_80 rfl (bI_nar false) (Nat.le_refl _) (Nat.le_refl _) tQ23_bad
              · refine g_al0 (pc2 := 66) dX3_tellPair_65 rfl ?_
                refine g_getr (pc2 := 69) (by rfl) (by rfl) flX3_23 dX3_tellPair_66 rfl ?_
                refine g_getr (pc2 := 72) (by rfl) (by rfl) flX3_109 dX3_tellPair_69 rfl ?_
                refine g_il2 (pc2 := 73) dX3_tellPair_72 rfl ?_
                refine g_iald (pc2 := 74) (by rfl) (by omega) (by decide) dX3_tellPair_73 rfl ?_
                rw [m1 hj7]
                refine g_bipush (pc2 := 76) dX3_tellPair_74 k_bipush_m4 rfl ?_
                refine g_icmp_eq 81 79 dX3_tellPair_76 rfl rfl (fun h76 => ?_) (fun h76 => ?_)
                · exact absurd ⟨h24, hi7, hj7, h62, h76⟩ hno
                · refine g_iconst (pc2 := 80) dX3_tellPair_79 k_iconst_0 rfl ?_
                  exact g_zret dX3_tellPair_80 rfl (bI_nar false) (Nat.le_refl _) (Nat.le_refl _) tQ23_bad
            · refine g_iconst (pc2 := 50) dX3_tellPair_49 k_iconst_0 rfl ?_
              exact g_zret dX3_tellPair_50 rfl (bI_nar false) (Nat.le_refl _) (Nat.le_refl _) tQ23_bad
  · rw [if_neg (fun q => hlen (okPr_iff.mp q).1)]
    refine g_al0 (pc2 := 1) dX3_tellPair_0 rfl ?_
    refine g_getr (pc2 := 4) (by rfl) (by rfl) flX3_11 dX3_tellPair_1 rfl ?_
    refine g_iconst (pc2 := 5) dX3_tellPair_4 k_iconst_0 rfl ?_
    refine g_iald (pc2 := 6) (by rfl) (by omega) (by decide) dX3_tellPair_5 rfl ?_
    refine g_is1 (pc2 := 7) dX3_tellPair_6 (by decide) rfl ?_
    refine g_al0 (pc2 := 8) dX3_tellPair_7 rfl ?_
    refine g_getr (pc2 := 11) (by rfl) (by rfl) flX3_11 dX3_tellPair_8 rfl ?_
    refine g_iconst (pc2 := 12) dX3_tellPair_11 k_iconst_1 rfl ?_
    refine g_iald (pc2 := 13) (by rfl) (by omega) (by decide) dX3_tellPair_12 rfl ?_
    refine g_is2 (pc2 := 14) dX3_tellPair_13 (by decide) rfl ?_
    refine g_al0 (pc2 := 15) dX3_tellPair_14 rfl ?_
    refine g_geti (pc2 := 18) (by rfl) (by rfl) flX3_15 dX3_tellPair_15 rfl ?_
    rw [hsz]
    refine g_iconst (pc2 := 19) dX3_tellPair_18 k_iconst_2 rfl ?_
    refine g_icmpN_ne 49 22 dX3_tellPair_19 rfl rfl (by omega) (by omega) (fun h19 => ?_) (fun h19 => ?_)
    · refine g_iconst (pc2 := 50) dX3_tellPair_49 k_iconst_0 rfl ?_
      exact g_zret dX3_tellPair_50 rfl (bI_nar false) (Nat.le_refl _) (Nat.le_refl _) tQ23_bad
    · exact absurd h19 hlen
theorem R_c_tellPath23 (l : lt_L) (d : Nat) (t : lt_H) (σ : lt_S) {r : Nat → Int32} {ln T N : Nat} {ns : List Nat} (h : In23 σ r ln T N ns) (hr0 : ¬ r 0 = nI 0) : lt_R l (d + 2) 0 0 mX3_tellPath (lt_SC ++ t) σ [.ref 23] (tQ23 t σ (itemR r 1 ns)) := by
  obtain ⟨hW, hC, hns, hle, hl1, hl6⟩ := h
  refine lt_R.of [some (.ref 23), none, none] rfl rfl (Nat.le_of_ble_eq_true rfl) ?_
  have hsz := hns.1
  have g0 := getD_le hle 0
  have g1 := getD_le hle 1
  have hln := hW.1.2
  have hT4 := hW.2.1.2
  have e0 := hW.e.1
  have e1 := hW.e.2.1
  have n0 := hns.2 0 (by omega)
  have y0 : σ 13 0 = nI ln := hC.1.1.1.trans hW.1.1
  have y1 : σ 13 1 = nI T := hC.1.1.2.1.trans hW.2.1.1
  have hd0 : hasB (nI (ns.getD 0 0)) (σ 13 0) = decide (ns.getD 0 0 < ln) := by rw [y0]; exact hasB_nI (by omega) (by omega)
  have hd1 : hasB (nI (ns.getD 1 0)) (σ 13 1) = decide (ns.getD 1 0 < T) := by rw [y1]; exact hasB_nI (by omega) (by omega)
  rw [item1 hr0]
  by_cases hlen : 2 ≤ ns.length
  · have n1 := hns.2 1 (by omega)
    by_cases hA : ns.getD 0 0 < ln ∧ ns.getD 1 0 < T
    · have hrt : σ 14 (ns.getD 0 0 * 4 + ns.getD 1 0) = r (4 + 4 * ns.getD 0 0 + ns.getD 1 0) := by
        have := hC.1.2.1 (ns.getD 0 0 * 4 + ns.getD 1 0) (by omega)
        rw [show 4 + (ns.getD 0 0 * 4 + ns.getD 1 0) = 4 + 4 * ns.getD 0 0 + ns.getD 1 0 by omega] at this
        exact this
      have key : ∀ j, j ≤ ns.length - 2 → allB (fun k => decide (ns.getD (k + 2) 0 < 12)) j = true → lt_G l (d + 2) 0 0 mX3_tellPath 0 0 (lt_SC ++ t) σ 46 [some (.ref 23), some (.int (orF (fun k => nI 1 <<< (nI (ns.getD (k + 2) 0) &&& 31)) j)), some (.int (nI (2 + j)))] [] (tQ23 t σ (if okPath r ns then some (rowPath r ns) else none)) := by
        refine lt_dn (ns.length - 2) ?_ ?_
        · intro hal
          by_cases hfree : r (4 + 4 * ns.getD 0 0 + ns.getD 1 0) = -4
          · rw [if_pos (okPt_iff.mpr ⟨hlen, by rw [e0]; exact hA.1, by rw [e1]; exact hA.2, hfree, hal⟩)]
            refine g_il2 (pc2 := 47) dX3_tellPath_46 rfl ?_
            refine g_al0 (pc2 := 48) dX3_tellPath_47 rfl ?_
            refine g_geti (pc2 := 51) (by rfl) (by rfl) flX3_15 dX3_tellPath_48 rfl ?_
            rw [hsz]
            refine g_icmpN_ge 84 54 dX3_tellPath_51 rfl rfl (by omega) (by omega) (fun h51 => ?_) (fun h51 => ?_)
            · refine g_al0 (pc2 := 85) dX3_tellPath_84 rfl ?_
              refine g_getr (pc2 := 88) (by rfl) (by rfl) flX3_11 dX3_tellPath_85 rfl ?_
              refine g_iconst (pc2 := 89) dX3_tellPath_88 k_iconst_0 rfl ?_
              refine g_iald (pc2 := 90) (by rfl) (by omega) (by decide) dX3_tellPath_89 rfl ?_
              rw [n0]
              refine g_iconst (pc2 := 91) dX3_tellPath_90 k_iconst_4 rfl ?_
              refine g_imulN (pc2 := 92) dX3_tellPath_91 rfl ?_
              refine g_al0 (pc2 := 93) dX3_tellPath_92 rfl ?_
              refine g_getr (pc2 := 96) (by rfl) (by rfl) flX3_11 dX3_tellPath_93 rfl ?_
              refine g_iconst (pc2 := 97) dX3_tellPath_96 k_iconst_1 rfl ?_
              refine g_iald (pc2 := 98) (by rfl) (by omega) (by decide) dX3_tellPath_97 rfl ?_
              rw [n1]
              refine g_iaddN (pc2 := 99) dX3_tellPath_98 rfl ?_
              refine g_is2 (pc2 := 100) dX3_tellPath_99 (by decide) rfl ?_
              refine g_al0 (pc2 := 101) dX3_tellPath_100 rfl ?_
              refine g_getr (pc2 := 104) (by rfl) (by rfl) flX3_23 dX3_tellPath_101 rfl ?_
              refine g_getr (pc2 := 107) (by rfl) (by rfl) flX3_94 dX3_tellPath_104 rfl ?_
              refine g_il2 (pc2 := 108) dX3_tellPath_107 rfl ?_
              refine g_iald (pc2 := 109) (by rfl) (by omega) (by decide) dX3_tellPath_108 rfl ?_
              rw [hrt]
              refine g_bipush (pc2 := 111) dX3_tellPath_109 k_bipush_m4 rfl ?_
              refine g_icmp_eq 116 114 dX3_tellPath_111 rfl rfl (fun h111 => ?_) (fun h111 => ?_)
              · refine g_al0 (pc2 := 117) dX3_tellPath_116 rfl ?_
                refine g_getr (pc2 := 120) (by rfl) (by rfl) flX3_23 dX3_tellPath_117 rfl ?_
                refine g_getr (pc2 := 123) (by rfl) (by rfl) flX3_94 dX3_tellPath_120 rfl ?_
                refine g_il2 (pc2 := 124) dX3_tellPath_123 rfl ?_
                refine g_il1 (pc2 := 125) dX3_tellPath_124 rfl ?_
                refine g_iast (pc2 := 126) (by rfl) (by omega) (by decide) dX3_tellPath_125 rfl ?_
                refine g_iconst (pc2 := 127) dX3_tellPath_126 k_iconst_1 rfl ?_
                refine g_zret dX3_tellPath_127 rfl (bI_nar true) (Nat.le_refl _) (Nat.le_refl _) (tQ23_ok ((FR23.rf σ).up _ _ (by decide)) ?_)
                have e2 : rowPath r ns 2 = r 2 := by unfold rowPath; rw [u_ne _ _ (by omega)]
                unfold CR23
                rw [e2]
                unfold rowPath
                refine ⟨⟨⟨?_, ?_, ?_, ?_⟩, fun k hk => ?_, fun q hq => ?_⟩, fun q hq => ?_⟩
                · rw [u_ne _ _ (by omega)]; exact hC.1.1.1
                · rw [u_ne _ _ (by omega)]; exact hC.1.1.2.1
                · rw [u_ne _ _ (by omega)]; exact hC.1.1.2.2.1
                · rw [u_ne _ _ (by omega)]; exact hC.1.1.2.2.2
                · show lt_up σ 14 (ns.getD 0 0 * 4 + ns.getD 1 0) _ 14 k = _
                  by_cases ck : k = ns.getD 0 0 * 4 + ns.getD 1 0
                  · rw [ck, lt_up_at, show 4 + (ns.getD 0 0 * 4 + ns.getD 1 0) = 4 + 4 * ns.getD 0 0 + ns.getD 1 0 by omega, u_at]; rfl
                  · rw [lt_up_ne _ _ _ ck, u_ne _ _ (by omega)]; exact hC.1.2.1 k hk
                · rw [u_ne _ _ (by omega), u_ne _ _ (by omega), u_ne _ _ (by omega)]; exact hC.1.2.2 q hq
                · rw [u_ne _ _ (by omega), u_ne _ _ (by omega), u_ne _ _ (by omega), u_ne _ _ (by omega)]; exact hC.2 q hq
              · exact absurd hfree h111
            · omega
          · rw [if_neg (fun q => hfree (okPt_iff.mp q).2.2.2.1)]
            refine g_il2 (pc2 := 47) dX3_tellPath_46 rfl ?_
            refine g_al0 (pc2 := 48) dX3_tellPath_47 rfl ?_
            refine g_geti (pc2 := 51) (by rfl) (by rfl) flX3_15 dX3_tellPath_48 rfl ?_
            rw [hsz]
            refine g_icmpN_ge 84 54 dX3_tellPath_51 rfl rfl (by omega) (by omega) (fun h51 => ?_) (fun h51 => ?_)
            · refine g_al0 (pc2 := 85) dX3_tellPath_84 rfl ?_
              refine g_getr (pc2 := 88) (by rfl) (by rfl) flX3_11 dX3_tellPath_85 rfl ?_
              refine g_iconst (pc2 := 89) dX3_tellPath_88 k_iconst_0 rfl ?_
              refine g_iald (pc2 := 90) (by rfl) (by omega) (by decide) dX3_tellPath_89 rfl ?_
              rw [n0]
              refine g_iconst (pc2 := 91) dX3_tellPath_90 k_iconst_4 rfl ?_
              refine g_imulN (pc2 := 92) dX3_tellPath_91 rfl ?_
              refine g_al0 (pc2 := 93) dX3_tellPath_92 rfl ?_
              refine g_getr (pc2 := 96) (by rfl) (by rfl) flX3_11 dX3_tellPath_93 rfl ?_
              refine g_iconst (pc2 := 97) dX3_tellPath_96 k_iconst_1 rfl ?_
              refine g_iald (pc2 := 98) (by rfl) (by omega) (by decide) dX3_tellPath_97 rfl ?_
              rw [n1]
              refine g_iaddN (pc2 := 99) dX3_tellPath_98 rfl ?_
              refine g_is2 (pc2 := 100) dX3_tellPath_99 (by decide) rfl ?_
              refine g_al0 (pc2 := 101) dX3_tellPath_100 rfl ?_
              refine g_getr (pc2 := 104) (by rfl) (by rfl) flX3_23 dX3_tellPath_101 rfl ?_
              refine g_getr (pc2 := 107) (by rfl) (by rfl) flX3_94 dX3_tellPath_104 rfl ?_
              refine g_il2 (pc2 := 108) dX3_tellPath_107 rfl ?_
              refine g_iald (pc2 := 109) (by rfl) (by omega) (by decide) dX3_tellPath_108 rfl ?_
              rw [hrt]
              refine g_bipush (pc2 := 111) dX3_tellPath_109 k_bipush_m4 rfl ?_
              refine g_icmp_eq 116 114 dX3_tellPath_111 rfl rfl (fun h111 => ?_) (fun h111 => ?_)
              · exact absurd h111 hfree
              · refine g_iconst (pc2 := 115) dX3_tellPath_114 k_iconst_0 rfl ?_
                exact g_zret dX3_tellPath_115 rfl (bI_nar false) (Nat.le_refl _) (Nat.le_refl _) tQ23_bad
            · omega
        · intro j hj ih hal
          have nj := hns.2 (2 + j) (by omega)
          have gj := getD_le hle (j + 2)
          rw [show ns.getD (2 + j) 0 = ns.getD (j + 2) 0 by rw [Nat.add_comm]] at nj
          by_cases h12 : ns.getD (j + 2) 0 < 12
          · have ih2 := ih (allB_s hal (decide_eq_true h12))
            simp only [orF] at ih2
            refine g_il2 (pc2 := 47) dX3_tellPath_46 rfl ?_
            refine g_al0 (pc2 := 48) dX3_tellPath_47 rfl ?_
            refine g_geti (pc2 := 51) (by rfl) (by rfl) flX3_15 dX3_tellPath_48 rfl ?_
            rw [hsz]
            refine g_icmpN_ge 84 54 dX3_tellPath_51 rfl rfl (by omega) (by omega) (fun h51 => ?_) (fun h51 => ?_)
            · omega
            · refine g_al0 (pc2 := 55) dX3_tellPath_54 rfl ?_
              refine g_getr (pc2 := 58) (by rfl) (by rfl) flX3_11 dX3_tellPath_55 rfl ?_
              refine g_il2 (pc2 := 59) dX3_tellPath_58 rfl ?_
              refine g_iald (pc2 := 60) (by rfl) (by omega) (by decide) dX3_tellPath_59 rfl ?_
              rw [nj]
              refine g_bipush (pc2 := 62) dX3_tellPath_60 k_bipush_12 rfl ?_
              refine g_icmpN_lt 67 65 dX3_tellPath_62 rfl rfl (by omega) (by omega) (fun h62 => ?_) (fun h62 => ?_)
              · refine g_il1 (pc2 := 68) dX3_tellPath_67 rfl ?_
                refine g_iconst (pc2 := 69) dX3_tellPath_68 k_iconst_1 rfl ?_
                refine g_al0 (pc2 := 70) dX3_tellPath_69 rfl ?_
                refine g_getr (pc2 := 73) (by rfl) (by rfl) flX3_11 dX3_tellPath_70 rfl ?_
                refine g_il2 (pc2 := 74) dX3_tellPath_73 rfl ?_
                refine g_iald (pc2 := 75) (by rfl) (by omega) (by decide) dX3_tellPath_74 rfl ?_
                rw [nj]
                refine g_ishl (pc2 := 76) dX3_tellPath_75 rfl ?_
                refine g_ior (pc2 := 77) dX3_tellPath_76 rfl ?_
                refine g_is1 (pc2 := 78) dX3_tellPath_77 (by decide) rfl ?_
                refine g_in2 (pc2 := 81) dX3_tellPath_78 (nI_inc _) (by decide) rfl ?_
                refine g_goto 46 dX3_tellPath_81 rfl ?_
                exact ih2
              · omega
          · rw [if_neg (fun q => absurd (okPt_iff.mp q).2.2.2.2 (by rw [allB_f (k := j) (by omega) (decide_eq_false h12)]; decide))]
            refine g_il2 (pc2 := 47) dX3_tellPath_46 rfl ?_
            refine g_al0 (pc2 := 48) dX3_tellPath_47 rfl ?_
            refine g_geti (pc2 := 51) (by rfl) (by rfl) flX3_15 dX3_tellPath_48 rfl ?_
            rw [hsz]
            refine g_icmpN_ge 84 54 dX3_tellPath_51 rfl rfl (by omega) (by omega) (fun h51 => ?_) (fun h51 => ?_)
            · omega
            · refine g_al0 (pc2 := 55) dX3_tellPath_54 rfl ?_
              refine g_getr (pc2 := 58) (by rfl) (by rfl) flX3_11 dX3_tellPath_55 rfl ?_
              refine g_il2 (pc2 := 59) dX3_tellPath_58 rfl ?_
              refine g_iald (pc2 := 60) (by rfl) (by omega) (by decide) dX3_tellPath_59 rfl ?_
              rw [nj]
              refine g_bipush (pc2 := 62) dX3_tellPath_60 k_bipush_12 rfl ?_
              refine g_icmpN_lt 67 65 dX3_tellPath_62 rfl rfl (by omega) (by omega) (fun h62 => ?_) (fun h62 => ?_)
              · omega
              · refine g_iconst (pc2 := 66) dX3_tellPath_65 k_iconst_0 rfl ?_
                exact g_zret dX3_tellPath_66 rfl (bI_nar false) (Nat.le_refl _) (Nat.le_refl _) tQ23_bad
      refine g_al0 (pc2 := 1) dX3_tellPath_0 rfl ?_
      refine g_geti (pc2 := 4) (by rfl) (by rfl) flX3_15 dX3_tellPath_1 rfl ?_
      rw [hsz]
      refine g_iconst (pc2 := 5) dX3_tellPath_4 k_iconst_2 rfl ?_
      refine g_icmpN_lt 40 8 dX3_tellPath_5 rfl rfl (by omega) (by omega) (fun h5 => ?_) (fun h5 => ?_)
      · omega
      · refine g_al0 (pc2 := 9) dX3_tellPath_8 rfl ?_
        refine g_getr (pc2 := 12) (by rfl) (by rfl) flX3_23 dX3_tellPath_9 rfl ?_
        refine g_al0 (pc2 := 13) dX3_tellPath_12 rfl ?_
        refine g_getr (pc2 := 16) (by rfl) (by rfl) flX3_11 dX3_tellPath_13 rfl ?_
        refine g_iconst (pc2 := 17) dX3_tellPath_16 k_iconst_0 rfl ?_
        skip
        refine g_iald (pc2 := 18) (by rfl) (by omega) (by decide) dX3_tellPath_17 rfl ?_
        rw [n0]
        refine g_cVi (pc2 := 21) (R_c_hasLine13 l d _ _ _) meX6_hasLine mlX3_88 (by rfl) ⟨_, rfl, rfl⟩ rfl rfl (by simp) ⟨Nat.le_refl _, Nat.le_refl _⟩ dX3_tellPath_18 rfl ?_
        rw [hd0]
        refine g_if_eqB 40 24 dX3_tellPath_21 rfl rfl (fun h21 => ?_) (fun h21 => ?_)
        · exact absurd hA.1 (of_decide_eq_false h21)
        · refine g_al0 (pc2 := 25) dX3_tellPath_24 rfl ?_
          refine g_getr (pc2 := 28) (by rfl) (by rfl) flX3_23 dX3_tellPath_25 rfl ?_
          refine g_al0 (pc2 := 29) dX3_tellPath_28 rfl ?_
          refine g_getr (pc2 := 32) (by rfl) (by rfl) flX3_11 dX3_tellPath_29 rfl ?_
          refine g_iconst (pc2 := 33) dX3_tellPath_32 k_iconst_1 rfl ?_
          refine g_iald (pc2 := 34) (by rfl) (by omega) (by decide) dX3_tellPath_33 rfl ?_
          rw [n1]
          refine g_cVi (pc2 := 37) (R_c_hasTrack13 l d _ _ _) meX6_hasTrack mlX3_91 (by rfl) ⟨_, rfl, rfl⟩ rfl rfl (by simp) ⟨Nat.le_refl _, Nat.le_refl _⟩ dX3_tellPath_34 rfl ?_
          rw [hd1]
          refine g_if_neB 42 40 dX3_tellPath_37 rfl rfl (fun h37 => ?_) (fun h37 => ?_)
          · refine g_iconst (pc2 := 43) dX3_tellPath_42 k_iconst_0 rfl ?_
            refine g_is1 (pc2 := 44) dX3_tellPath_43 (by decide) rfl ?_
            refine g_iconst (pc2 := 45) dX3_tellPath_44 k_iconst_2 rfl ?_
            refine g_is2 (pc2 := 46) dX3_tellPath_45 (by decide) rfl ?_
            exact key 0 (Nat.zero_le _) rfl
          · exact absurd hA.2 (of_decide_eq_false h37)
    · rw [if_neg (fun q => by have := okPt_iff.mp q; rw [e0, e1] at this; exact hA ⟨this.2.1, this.2.2.1⟩)]
      refine g_al0 (pc2 := 1) dX3_tellPath_0 rfl ?_
      refine g_geti (pc2 := 4) (by rfl) (by rfl) flX3_15 dX3_tellPath_1 rfl ?_
      rw [hsz]
      refine g_iconst (pc2 := 5) dX3_tellPath_4 k_iconst_2 rfl ?_
      refine g_icmpN_lt 40 8 dX3_tellPath_5 rfl rfl (by omega) (by omega) (fun h5 => ?_) (fun h5 => ?_)
      · refine g_iconst (pc2 := 41) dX3_tellPath_40 k_iconst_0 rfl ?_
        exact g_zret dX3_tellPath_41 rfl (bI_nar false) (Nat.le_refl _) (Nat.le_refl _) tQ23_bad
      · refine g_al0 (pc2 := 9) dX3_tellPath_8 rfl ?_
        refine g_getr (pc2 := 12) (by rfl) (by rfl) flX3_23 dX3_tellPath_9 rfl ?_
        refine g_al0 (pc2 := 13) dX3_tellPath_12 rfl ?_
        refine g_getr (pc2 := 16) (by rfl) (by rfl) flX3_11 dX3_tellPath_13 rfl ?_
        refine g_iconst (pc2 := 17) dX3_tellPath_16 k_iconst_0 rfl ?_
        refine g_iald (pc2 := 18) (by rfl) (by omega) (by decide) dX3_tellPath_17 rfl ?_
        rw [n0]
        refine g_cVi (pc2 := 21) (R_c_hasLine13 l d _ _ _) meX6_hasLine mlX3_88 (by rfl) ⟨_, rfl, rfl⟩ rfl rfl (by simp) ⟨Nat.le_refl _, Nat.le_refl _⟩ dX3_tellPath_18 rfl ?_
        rw [hd0]
        refine g_if_eqB 40 24 dX3_tellPath_21 rfl rfl (fun h21 => ?_) (fun h21 => ?_)
        · refine g_iconst (pc2 := 41) dX3_tellPath_40 k_iconst_0 rfl ?_
          exact g_zret dX3_tellPath_41 rfl (bI_nar false) (Nat.le_refl _) (Nat.le_refl _) tQ23_bad
        · refine g_al0 (pc2 := 25) dX3_tellPath_24 rfl ?_
          refine g_getr (pc2 := 28) (by rfl) (by rfl) flX3_23 dX3_tellPath_25 rfl ?_
          refine g_al0 (pc2 := 29) dX3_tellPath_28 rfl ?_
          refine g_getr (pc2 := 32) (by rfl) (by rfl) flX3_11 dX3_tellPath_29 rfl ?_
          refine g_iconst (pc2 := 33) dX3_tellPath_32 k_iconst_1 rfl ?_
          refine g_iald (pc2 := 34) (by rfl) (by omega) (by decide) dX3_tellPath_33 rfl ?_
          rw [n1]
          refine g_cVi (pc2 := 37) (R_c_hasTrack13 l d _ _ _) meX6_hasTrack mlX3_91 (by rfl) ⟨_, rfl, rfl⟩ rfl rfl (by simp) ⟨Nat.le_refl _, Nat.le_refl _⟩ dX3_tellPath_34 rfl ?_
          rw [hd1]
          refine g_if_neB 42 40 dX3_tellPath_37 rfl rfl (fun h37 => ?_) (fun h37 => ?_)
          · exact absurd ⟨of_decide_eq_true h21, of_decide_eq_true h37⟩ hA
          · refine g_iconst (pc2 := 41) dX3_tellPath_40 k_iconst_0 rfl ?_
            exact g_zret dX3_tellPath_41 rfl (bI_nar false) (Nat.le_refl _) (Nat.le_refl _) tQ23_bad
  · rw [if_neg (fun q => hlen (okPt_iff.mp q).1)]
    refine g_al0 (pc2 := 1) dX3_tellPath_0 rfl ?_
    refine g_geti (pc2 := 4) (by rfl) (by rfl) flX3_15 dX3_tellPath_1 rfl ?_
    rw [hsz]
    refine g_iconst (pc2 := 5) dX3_tellPath_4 k_iconst_2 rfl ?_
    refine g_icmpN_lt 40 8 dX3_tellPath_5 rfl rfl (by omega) (by omega) (fun h5 => ?_) (fun h5 => ?_)
    · refine g_iconst (pc2 := 41) dX3_tellPath_40 k_iconst_0 rfl ?_
      exact g_zret dX3_tellPath_41 rfl (bI_nar false) (Nat.le_refl _) (Nat.le_refl _) tQ23_bad
    · omega
theorem R_c_isTrain23 (l : lt_L) (d : Nat) (t : lt_H) (σ : lt_S) {r : Nat → Int32} {ln T N : Nat} {ns : List Nat} (h : In23 σ r ln T N ns) (hlen : ns.length = 5) : lt_T l (d + 2) mX3_isTrain (lt_SC ++ t) σ [.ref 23] (some (bI (decide (ns.getD 0 0 < ln ∧ ns.getD 1 0 < ln ∧ 1 ≤ ns.getD 2 0 ∧ ns.getD 2 0 ≤ ns.getD 3 0 ∧ ns.getD 3 0 ≤ 98 ∧ (ns.getD 4 0 < T ∨ ns.getD 4 0 = 9))))) σ := by
  obtain ⟨hW, hC, hns, hle, hl1, hl6⟩ := h
  refine lt_T.of [some (.ref 23), none, none, none] rfl rfl (Nat.le_of_ble_eq_true rfl) ?_
  have g0 := getD_le hle 0
  have g1 := getD_le hle 1
  have g2 := getD_le hle 2
  have g3 := getD_le hle 3
  have g4 := getD_le hle 4
  have n0 := hns.2 0 (by omega)
  have n1 := hns.2 1 (by omega)
  have n2 := hns.2 2 (by omega)
  have n3 := hns.2 3 (by omega)
  have n4 := hns.2 4 (by omega)
  have hln := hW.1.2
  have hT4 := hW.2.1.2
  have y0 : σ 13 0 = nI ln := hC.1.1.1.trans hW.1.1
  have y1 : σ 13 1 = nI T := hC.1.1.2.1.trans hW.2.1.1
  generalize ns.getD 0 0 = a at *
  generalize ns.getD 1 0 = b at *
  generalize ns.getD 2 0 = p at *
  generalize ns.getD 3 0 = q at *
  generalize ns.getD 4 0 = x at *
  have hd0 : ∀ k, k ≤ 99 → hasB (nI k) (σ 13 0) = decide (k < ln) := fun k hk => by rw [y0]; exact hasB_nI (by omega) (by omega)
  have hd1 : ∀ k, k ≤ 99 → hasB (nI k) (σ 13 1) = decide (k < T) := fun k hk => by rw [y1]; exact hasB_nI (by omega) (by omega)
  refine g_al0 (pc2 := 1) dX3_isTrain_0 rfl ?_
  refine g_getr (pc2 := 4) (by rfl) (by rfl) flX3_23 dX3_isTrain_1 rfl ?_
  refine g_al0 (pc2 := 5) dX3_isTrain_4 rfl ?_
  refine g_getr (pc2 := 8) (by rfl) (by rfl) flX3_11 dX3_isTrain_5 rfl ?_
  refine g_iconst (pc2 := 9) dX3_isTrain_8 k_iconst_0 rfl ?_
  refine g_iald (pc2 := 10) (by rfl) (by omega) (by decide) dX3_isTrain_9 rfl ?_
  rw [n0]
  refine g_cVi (pc2 := 13) (R_c_hasLine13 l d _ _ _) meX6_hasLine mlX3_88 (by rfl) ⟨_, rfl, rfl⟩ rfl rfl (by simp) ⟨Nat.le_refl _, Nat.le_refl _⟩ dX3_isTrain_10 rfl ?_
  rw [hd0 a g0]
  refine g_if_eqB 36 16 dX3_isTrain_13 rfl rfl (fun h13 => ?_) (fun h13 => ?_)
  · first | (have h1x := of_decide_eq_false h29) | (have h1x := of_decide_eq_false h13)
    refine g_iconst (pc2 := 37) dX3_isTrain_36 k_iconst_0 rfl ?_
    refine g_is1 (pc2 := 38) dX3_isTrain_37 (by decide) rfl ?_
    refine g_al0 (pc2 := 39) dX3_isTrain_38 rfl ?_
    refine g_getr (pc2 := 42) (by rfl) (by rfl) flX3_11 dX3_isTrain_39 rfl ?_
    refine g_iconst (pc2 := 43) dX3_isTrain_42 k_iconst_2 rfl ?_
    refine g_iald (pc2 := 44) (by rfl) (by omega) (by decide) dX3_isTrain_43 rfl ?_
    rw [n2]
    refine g_iconst (pc2 := 45) dX3_isTrain_44 k_iconst_1 rfl ?_
    refine g_icmpN_lt 78 48 dX3_isTrain_45 rfl rfl (by omega) (by omega) (fun h45 => ?_) (fun h45 => ?_)
    · refine g_iconst (pc2 := 79) dX3_isTrain_78 k_iconst_0 rfl ?_
      refine g_is2 (pc2 := 80) dX3_isTrain_79 (by decide) rfl ?_
      refine g_al0 (pc2 := 81) dX3_isTrain_80 rfl ?_
      refine g_getr (pc2 := 84) (by rfl) (by rfl) flX3_11 dX3_isTrain_81 rfl ?_
      refine g_iconst (pc2 := 85) dX3_isTrain_84 k_iconst_4 rfl ?_
      refine g_iald (pc2 := 86) (by rfl) (by omega) (by decide) dX3_isTrain_85 rfl ?_
      rw [n4]
      refine g_bipush (pc2 := 88) dX3_isTrain_86 k_bipush_9 rfl ?_
      refine g_icmpN_eq 107 91 dX3_isTrain_88 rfl rfl (by omega) (by omega) (fun h88 => ?_) (fun h88 => ?_)
      · try (have h104a := of_decide_eq_true h104)
        refine g_iconst (pc2 := 108) dX3_isTrain_107 k_iconst_1 rfl ?_
        refine g_goto 112 dX3_isTrain_108 rfl ?_
        refine g_is3 (pc2 := 113) dX3_isTrain_112 (by decide) rfl ?_
        refine g_il1 (pc2 := 114) dX3_isTrain_113 rfl ?_
        refine g_if_eq 129 117 dX3_isTrain_114 rfl rfl (fun _ => ?_) (fun h => absurd nI_0 h)
        refine g_iconst (pc2 := 130) dX3_isTrain_129 k_iconst_0 rfl ?_
        exact g_zretT dX3_isTrain_130 rfl (Nat.le_refl _) (Nat.le_refl _) (by first | (rw [decide_eq_true (by omega)]; rfl) | (rw [decide_eq_false (by omega)]; rfl)) (rfl)
      · refine g_al0 (pc2 := 92) dX3_isTrain_91 rfl ?_
        refine g_getr (pc2 := 95) (by rfl) (by rfl) flX3_23 dX3_isTrain_92 rfl ?_
        refine g_al0 (pc2 := 96) dX3_isTrain_95 rfl ?_
        refine g_getr (pc2 := 99) (by rfl) (by rfl) flX3_11 dX3_isTrain_96 rfl ?_
        refine g_iconst (pc2 := 100) dX3_isTrain_99 k_iconst_4 rfl ?_
        refine g_iald (pc2 := 101) (by rfl) (by omega) (by decide) dX3_isTrain_100 rfl ?_
        rw [n4]
        refine g_cVi (pc2 := 104) (R_c_hasTrack13 l d _ _ _) meX6_hasTrack mlX3_91 (by rfl) ⟨_, rfl, rfl⟩ rfl rfl (by simp) ⟨Nat.le_refl _, Nat.le_refl _⟩ dX3_isTrain_101 rfl ?_
        rw [hd1 x g4]
        refine g_if_eqB 111 107 dX3_isTrain_104 rfl rfl (fun h104 => ?_) (fun h104 => ?_)
        · have h104b := of_decide_eq_false h104
          refine g_iconst (pc2 := 112) dX3_isTrain_111 k_iconst_0 rfl ?_
          refine g_is3 (pc2 := 113) dX3_isTrain_112 (by decide) rfl ?_
          refine g_il1 (pc2 := 114) dX3_isTrain_113 rfl ?_
          refine g_if_eq 129 117 dX3_isTrain_114 rfl rfl (fun _ => ?_) (fun h => absurd nI_0 h)
          refine g_iconst (pc2 := 130) dX3_isTrain_129 k_iconst_0 rfl ?_
          exact g_zretT dX3_isTrain_130 rfl (Nat.le_refl _) (Nat.le_refl _) (by first | (rw [decide_eq_true (by omega)]; rfl) | (rw [decide_eq_false (by omega)]; rfl)) (rfl)
        · try (have h104a := of_decide_eq_true h104)
          refine g_iconst (pc2 := 108) dX3_isTrain_107 k_iconst_1 rfl ?_
          refine g_goto 112 dX3_isTrain_108 rfl ?_
          refine g_is3 (pc2 := 113) dX3_isTrain_112 (by decide) rfl ?_
          refine g_il1 (pc2 := 114) dX3_isTrain_113 rfl ?_
          refine g_if_eq 129 117 dX3_isTrain_114 rfl rfl (fun _ => ?_) (fun h => absurd nI_0 h)
          refine g_iconst (pc2 := 130) dX3_isTrain_129 k_iconst_0 rfl ?_
          exact g_zretT dX3_isTrain_130 rfl (Nat.le_refl _) (Nat.le_refl _) (by first | (rw [decide_eq_true (by omega)]; rfl) | (rw [decide_eq_false (by omega)]; rfl)) (rfl)
    · refine g_al0 (pc2 := 49) dX3_isTrain_48 rfl ?_
      refine g_getr (pc2 := 52) (by rfl) (by rfl) flX3_11 dX3_isTrain_49 rfl ?_
      refine g_iconst (pc2 := 53) dX3_isTrain_52 k_iconst_3 rfl ?_
      refine g_iald (pc2 := 54) (by rfl) (by omega) (by decide) dX3_isTrain_53 rfl ?_
      rw [n3]
      refine g_al0 (pc2 := 55) dX3_isTrain_54 rfl ?_
      refine g_getr (pc2 := 58) (by rfl) (by rfl) flX3_11 dX3_isTrain_55 rfl ?_
      refine g_iconst (pc2 := 59) dX3_isTrain_58 k_iconst_2 rfl ?_
      refine g_iald (pc2 := 60) (by rfl) (by omega) (by decide) dX3_isTrain_59 rfl ?_
      rw [n2]
      refine g_icmpN_lt 78 63 dX3_isTrain_60 rfl rfl (by omega) (by omega) (fun h60 => ?_) (fun h60 => ?_)
      · refine g_iconst (pc2 := 79) dX3_isTrain_78 k_iconst_0 rfl ?_
        refine g_is2 (pc2 := 80) dX3_isTrain_79 (by decide) rfl ?_
        refine g_al0 (pc2 := 81) dX3_isTrain_80 rfl ?_
        refine g_getr (pc2 := 84) (by rfl) (by rfl) flX3_11 dX3_isTrain_81 rfl ?_
        refine g_iconst (pc2 := 85) dX3_isTrain_84 k_iconst_4 rfl ?_
        refine g_iald (pc2 := 86) (by rfl) (by omega) (by decide) dX3_isTrain_85 rfl ?_
        rw [n4]
        refine g_bipush (pc2 := 88) dX3_isTrain_86 k_bipush_9 rfl ?_
        refine g_icmpN_eq 107 91 dX3_isTrain_88 rfl rfl (by omega) (by omega) (fun h88 => ?_) (fun h88 => ?_)
        · try (have h104a := of_decide_eq_true h104)
          refine g_iconst (pc2 := 108) dX3_isTrain_107 k_iconst_1 rfl ?_
          refine g_goto 112 dX3_isTrain_108 rfl ?_
          refine g_is3 (pc2 := 113) dX3_isTrain_112 (by decide) rfl ?_
          refine g_il1 (pc2 := 114) dX3_isTrain_113 rfl ?_
          refine g_if_eq 129 117 dX3_isTrain_114 rfl rfl (fun _ => ?_) (fun h => absurd nI_0 h)
          refine g_iconst (pc2 := 130) dX3_isTrain_129 k_iconst_0 rfl ?_
          exact g_zretT dX3_isTrain_130 rfl (Nat.le_refl _) (Nat.le_refl _) (by first | (rw [decide_eq_true (by omega)]; rfl) | (rw [decide_eq_false (by omega)]; rfl)) (rfl)
        · refine g_al0 (pc2 := 92) dX3_isTrain_91 rfl ?_
          refine g_getr (pc2 := 95) (by rfl) (by rfl) flX3_23 dX3_isTrain_92 rfl ?_
          refine g_al0 (pc2 := 96) dX3_isTrain_95 rfl ?_
          refine g_getr (pc2 := 99) (by rfl) (by rfl) flX3_11 dX3_isTrain_96 rfl ?_
          refine g_iconst (pc2 := 100) dX3_isTrain_99 k_iconst_4 rfl ?_
          refine g_iald (pc2 := 101) (by rfl) (by omega) (by decide) dX3_isTrain_100 rfl ?_
          rw [n4]
          refine g_cVi (pc2 := 104) (R_c_hasTrack13 l d _ _ _) meX6_hasTrack mlX3_91 (by rfl) ⟨_, rfl, rfl⟩ rfl rfl (by simp) ⟨Nat.le_refl _, Nat.le_refl _⟩ dX3_isTrain_101 rfl ?_
          rw [hd1 x g4]
          refine g_if_eqB 111 107 dX3_isTrain_104 rfl rfl (fun h104 => ?_) (fun h104 => ?_)
          · have h104b := of_decide_eq_false h104
            refine g_iconst (pc2 := 112) dX3_isTrain_111 k_iconst_0 rfl ?_
            refine g_is3 (pc2 := 113) dX3_isTrain_112 (by decide) rfl ?_
            refine g_il1 (pc2 := 114) dX3_isTrain_113 rfl ?_
            refine g_if_eq 129 117 dX3_isTrain_114 rfl rfl (fun _ => ?_) (fun h => absurd nI_0 h)
            refine g_iconst (pc2 := 130) dX3_isTrain_129 k_iconst_0 rfl ?_
            exact g_zretT dX3_isTrain_130 rfl (Nat.le_refl _) (Nat.le_refl _) (by first | (rw [decide_eq_true (by omega)]; rfl) | (rw [decide_eq_false (by omega)]; rfl)) (rfl)
          · try (have h104a := of_decide_eq_true h104)
            refine g_iconst (pc2 := 108) dX3_isTrain_107 k_iconst_1 rfl ?_
            refine g_goto 112 dX3_isTrain_108 rfl ?_
            refine g_is3 (pc2 := 113) dX3_isTrain_112 (by decide) rfl ?_
            refine g_il1 (pc2 := 114) dX3_isTrain_113 rfl ?_
            refine g_if_eq 129 117 dX3_isTrain_114 rfl rfl (fun _ => ?_) (fun h => absurd nI_0 h)
            refine g_iconst (pc2 := 130) dX3_isTrain_129 k_iconst_0 rfl ?_
            exact g_zretT dX3_isTrain_130 rfl (Nat.le_refl _) (Nat.le_refl _) (by first | (rw [decide_eq_true (by omega)]; rfl) | (rw [decide_eq_false (by omega)]; rfl)) (rfl)
      · refine g_al0 (pc2 := 64) dX3_isTrain_63 rfl ?_
        refine g_getr (pc2 := 67) (by rfl) (by rfl) flX3_11 dX3_isTrain_64 rfl ?_
        refine g_iconst (pc2 := 68) dX3_isTrain_67 k_iconst_3 rfl ?_
        refine g_iald (pc2 := 69) (by rfl) (by omega) (by decide) dX3_isTrain_68 rfl ?_
        rw [n3]
        refine g_bipush (pc2 := 71) dX3_isTrain_69 k_bipush_98 rfl ?_
        refine g_icmpN_gt 78 74 dX3_isTrain_71 rfl rfl (by omega) (by omega) (fun h71 => ?_) (fun h71 => ?_)
        · refine g_iconst (pc2 := 79) dX3_isTrain_78 k_iconst_0 rfl ?_
          refine g_is2 (pc2 := 80) dX3_isTrain_79 (by decide) rfl ?_
          refine g_al0 (pc2 := 81) dX3_isTrain_80 rfl ?_
          refine g_getr (pc2 := 84) (by rfl) (by rfl) flX3_11 dX3_isTrain_81 rfl ?_
          refine g_iconst (pc2 := 85) dX3_isTrain_84 k_iconst_4 rfl ?_
          refine g_iald (pc2 := 86) (by rfl) (by omega) (by decide) dX3_isTrain_85 rfl ?_
          rw [n4]
          refine g_bipush (pc2 := 88) dX3_isTrain_86 k_bipush_9 rfl ?_
          refine g_icmpN_eq 107 91 dX3_isTrain_88 rfl rfl (by omega) (by omega) (fun h88 => ?_) (fun h88 => ?_)
          · try (have h104a := of_decide_eq_true h104)
            refine g_iconst (pc2 := 108) dX3_isTrain_107 k_iconst_1 rfl ?_
            refine g_goto 112 dX3_isTrain_108 rfl ?_
            refine g_is3 (pc2 := 113) dX3_isTrain_112 (by decide) rfl ?_
            refine g_il1 (pc2 := 114) dX3_isTrain_113 rfl ?_
            refine g_if_eq 129 117 dX3_isTrain_114 rfl rfl (fun _ => ?_) (fun h => absurd nI_0 h)
            refine g_iconst (pc2 := 130) dX3_isTrain_129 k_iconst_0 rfl ?_
            exact g_zretT dX3_isTrain_130 rfl (Nat.le_refl _) (Nat.le_refl _) (by first | (rw [decide_eq_true (by omega)]; rfl) | (rw [decide_eq_false (by omega)]; rfl)) (rfl)
          · refine g_al0 (pc2 := 92) dX3_isTrain_91 rfl ?_
            refine g_getr (pc2 := 95) (by rfl) (by rfl) flX3_23 dX3_isTrain_92 rfl ?_
            refine g_al0 (pc2 := 96) dX3_isTrain_95 rfl ?_
            refine g_getr (pc2 := 99) (by rfl) (by rfl) flX3_11 dX3_isTrain_96 rfl ?_
            refine g_iconst (pc2 := 100) dX3_isTrain_99 k_iconst_4 rfl ?_
            refine g_iald (pc2 := 101) (by rfl) (by omega) (by decide) dX3_isTrain_100 rfl ?_
            rw [n4]
            refine g_cVi (pc2 := 104) (R_c_hasTrack13 l d _ _ _) meX6_hasTrack mlX3_91 (by rfl) ⟨_, rfl, rfl⟩ rfl rfl (by simp) ⟨Nat.le_refl _, Nat.le_refl _⟩ dX3_isTrain_101 rfl ?_
            rw [hd1 x g4]
            refine g_if_eqB 111 107 dX3_isTrain_104 rfl rfl (fun h104 => ?_) (fun h104 => ?_)
            · have h104b := of_decide_eq_false h104
              refine g_iconst (pc2 := 112) dX3_isTrain_111 k_iconst_0 rfl ?_
              refine g_is3 (pc2 := 113) dX3_isTrain_112 (by decide) rfl ?_
              refine g_il1 (pc2 := 114) dX3_isTrain_113 rfl ?_
              refine g_if_eq 129 117 dX3_isTrain_114 rfl rfl (fun _ => ?_) (fun h => absurd nI_0 h)
              refine g_iconst (pc2 := 130) dX3_isTrain_129 k_iconst_0 rfl ?_
              exact g_zretT dX3_isTrain_130 rfl (Nat.le_refl _) (Nat.le_refl _) (by first | (rw [decide_eq_true (by omega)]; rfl) | (rw [decide_eq_false (by omega)]; rfl)) (rfl)
            · try (have h104a := of_decide_eq_true h104)
              refine g_iconst (pc2 := 108) dX3_isTrain_107 k_iconst_1 rfl ?_
              refine g_goto 112 dX3_isTrain_108 rfl ?_
              refine g_is3 (pc2 := 113) dX3_isTrain_112 (by decide) rfl ?_
              refine g_il1 (pc2 := 114) dX3_isTrain_113 rfl ?_
              refine g_if_eq 129 117 dX3_isTrain_114 rfl rfl (fun _ => ?_) (fun h => absurd nI_0 h)
              refine g_iconst (pc2 := 130) dX3_isTrain_129 k_iconst_0 rfl ?_
              exact g_zretT dX3_isTrain_130 rfl (Nat.le_refl _) (Nat.le_refl _) (by first | (rw [decide_eq_true (by omega)]; rfl) | (rw [decide_eq_false (by omega)]; rfl)) (rfl)
        · refine g_iconst (pc2 := 75) dX3_isTrain_74 k_iconst_1 rfl ?_
          refine g_goto 79 dX3_isTrain_75 rfl ?_
          refine g_is2 (pc2 := 80) dX3_isTrain_79 (by decide) rfl ?_
          refine g_al0 (pc2 := 81) dX3_isTrain_80 rfl ?_
          refine g_getr (pc2 := 84) (by rfl) (by rfl) flX3_11 dX3_isTrain_81 rfl ?_
          refine g_iconst (pc2 := 85) dX3_isTrain_84 k_iconst_4 rfl ?_
          refine g_iald (pc2 := 86) (by rfl) (by omega) (by decide) dX3_isTrain_85 rfl ?_
          rw [n4]
          refine g_bipush (pc2 := 88) dX3_isTrain_86 k_bipush_9 rfl ?_
          refine g_icmpN_eq 107 91 dX3_isTrain_88 rfl rfl (by omega) (by omega) (fun h88 => ?_) (fun h88 => ?_)
          · try (have h104a := of_decide_eq_true h104)
            refine g_iconst (pc2 := 108) dX3_isTrain_107 k_iconst_1 rfl ?_
            refine g_goto 112 dX3_isTrain_108 rfl ?_
            refine g_is3 (pc2 := 113) dX3_isTrain_112 (by decide) rfl ?_
            refine g_il1 (pc2 := 114) dX3_isTrain_113 rfl ?_
            refine g_if_eq 129 117 dX3_isTrain_114 rfl rfl (fun _ => ?_) (fun h => absurd nI_0 h)
            refine g_iconst (pc2 := 130) dX3_isTrain_129 k_iconst_0 rfl ?_
            exact g_zretT dX3_isTrain_130 rfl (Nat.le_refl _) (Nat.le_refl _) (by first | (rw [decide_eq_true (by omega)]; rfl) | (rw [decide_eq_false (by omega)]; rfl)) (rfl)
          · refine g_al0 (pc2 := 92) dX3_isTrain_91 rfl ?_
            refine g_getr (pc2 := 95) (by rfl) (by rfl) flX3_23 dX3_isTrain_92 rfl ?_
            refine g_al0 (pc2 := 96) dX3_isTrain_95 rfl ?_
            refine g_getr (pc2 := 99) (by rfl) (by rfl) flX3_11 dX3_isTrain_96 rfl ?_
            refine g_iconst (pc2 := 100) dX3_isTrain_99 k_iconst_4 rfl ?_
            refine g_iald (pc2 := 101) (by rfl) (by omega) (by decide) dX3_isTrain_100 rfl ?_
            rw [n4]
            refine g_cVi (pc2 := 104) (R_c_hasTrack13 l d _ _ _) meX6_hasTrack mlX3_91 (by rfl) ⟨_, rfl, rfl⟩ rfl rfl (by simp) ⟨Nat.le_refl _, Nat.le_refl _⟩ dX3_isTrain_101 rfl ?_
            rw [hd1 x g4]
            refine g_if_eqB 111 107 dX3_isTrain_104 rfl rfl (fun h104 => ?_) (fun h104 => ?_)
            · have h104b := of_decide_eq_false h104
              refine g_iconst (pc2 := 112) dX3_isTrain_111 k_iconst_0 rfl ?_
              refine g_is3 (pc2 := 113) dX3_isTrain_112 (by decide) rfl ?_
              refine g_il1 (pc2 := 114) dX3_isTrain_113 rfl ?_
              refine g_if_eq 129 117 dX3_isTrain_114 rfl rfl (fun _ => ?_) (fun h => absurd nI_0 h)
              refine g_iconst (pc2 := 130) dX3_isTrain_129 k_iconst_0 rfl ?_
              exact g_zretT dX3_isTrain_130 rfl (Nat.le_refl _) (Nat.le_refl _) (by first | (rw [decide_eq_true (by omega)]; rfl) | (rw [decide_eq_false (by omega)]; rfl)) (rfl)
            · try (have h104a := of_decide_eq_true h104)
              refine g_iconst (pc2 := 108) dX3_isTrain_107 k_iconst_1 rfl ?_
              refine g_goto 112 dX3_isTrain_108 rfl ?_
              refine g_is3 (pc2 := 113) dX3_isTrain_112 (by decide) rfl ?_
              refine g_il1 (pc2 := 114) dX3_isTrain_113 rfl ?_
              refine g_if_eq 129 117 dX3_isTrain_114 rfl rfl (fun _ => ?_) (fun h => absurd nI_0 h)
              refine g_iconst (pc2 := 130) dX3_isTrain_129 k_iconst_0 rfl ?_
              exact g_zretT dX3_isTrain_130 rfl (Nat.le_refl _) (Nat.le_refl _) (by first | (rw [decide_eq_true (by omega)]; rfl) | (rw [decide_eq_false (by omega)]; rfl)) (rfl)
  · have h13a := of_decide_eq_true h13
    refine g_al0 (pc2 := 17) dX3_isTrain_16 rfl ?_
    refine g_getr (pc2 := 20) (by rfl) (by rfl) flX3_23 dX3_isTrain_17 rfl ?_
    refine g_al0 (pc2 := 21) dX3_isTrain_20 rfl ?_
    refine g_getr (pc2 := 24) (by rfl) (by rfl) flX3_11 dX3_isTrain_21 rfl ?_
    refine g_iconst (pc2 := 25) dX3_isTrain_24 k_iconst_1 rfl ?_
    refine g_iald (pc2 := 26) (by rfl) (by omega) (by decide) dX3_isTrain_25 rfl ?_
    rw [n1]
    refine g_cVi (pc2 := 29) (R_c_hasLine13 l d _ _ _) meX6_hasLine mlX3_88 (by rfl) ⟨_, rfl, rfl⟩ rfl rfl (by simp) ⟨Nat.le_refl _, Nat.le_refl _⟩ dX3_isTrain_26 rfl ?_
    rw [hd0 b g1]
    refine g_if_eqB 36 32 dX3_isTrain_29 rfl rfl (fun h29 => ?_) (fun h29 => ?_)
    · first | (have h1x := of_decide_eq_false h29) | (have h1x := of_decide_eq_false h13)
      refine g_iconst (pc2 := 37) dX3_isTrain_36 k_iconst_0 rfl ?_
      refine g_is1 (pc2 := 38) dX3_isTrain_37 (by decide) rfl ?_
      refine g_al0 (pc2 := 39) dX3_isTrain_38 rfl ?_
      refine g_getr (pc2 := 42) (by rfl) (by rfl) flX3_11 dX3_isTrain_39 rfl ?_
      refine g_iconst (pc2 := 43) dX3_isTrain_42 k_iconst_2 rfl ?_
      refine g_iald (pc2 := 44) (by rfl) (by omega) (by decide) dX3_isTrain_43 rfl ?_
      rw [n2]
      refine g_iconst (pc2 := 45) dX3_isTrain_44 k_iconst_1 rfl ?_
      refine g_icmpN_lt 78 48 dX3_isTrain_45 rfl rfl (by omega) (by omega) (fun h45 => ?_) (fun h45 => ?_)
      · refine g_iconst (pc2 := 79) dX3_isTrain_78 k_iconst_0 rfl ?_
        refine g_is2 (pc2 := 80) dX3_isTrain_79 (by decide) rfl ?_
        refine g_al0 (pc2 := 81) dX3_isTrain_80 rfl ?_
        refine g_getr (pc2 := 84) (by rfl) (by rfl) flX3_11 dX3_isTrain_81 rfl ?_
        refine g_iconst (pc2 := 85) dX3_isTrain_84 k_iconst_4 rfl ?_
        refine g_iald (pc2 := 86) (by rfl) (by omega) (by decide) dX3_isTrain_85 rfl ?_
        rw [n4]
        refine g_bipush (pc2 := 88) dX3_isTrain_86 k_bipush_9 rfl ?_
        refine g_icmpN_eq 107 91 dX3_isTrain_88 rfl rfl (by omega) (by omega) (fun h88 => ?_) (fun h88 => ?_)
        · try (have h104a := of_decide_eq_true h104)
          refine g_iconst (pc2 := 108) dX3_isTrain_107 k_iconst_1 rfl ?_
          refine g_goto 112 dX3_isTrain_108 rfl ?_
          refine g_is3 (pc2 := 113) dX3_isTrain_112 (by decide) rfl ?_
          refine g_il1 (pc2 := 114) dX3_isTrain_113 rfl ?_
          refine g_if_eq 129 117 dX3_isTrain_114 rfl rfl (fun _ => ?_) (fun h => absurd nI_0 h)
          refine g_iconst (pc2 := 130) dX3_isTrain_129 k_iconst_0 rfl ?_
          exact g_zretT dX3_isTrain_130 rfl (Nat.le_refl _) (Nat.le_refl _) (by first | (rw [decide_eq_true (by omega)]; rfl) | (rw [decide_eq_false (by omega)]; rfl)) (rfl)
        · refine g_al0 (pc2 := 92) dX3_isTrain_91 rfl ?_
          refine g_getr (pc2 := 95) (by rfl) (by rfl) flX3_23 dX3_isTrain_92 rfl ?_
          refine g_al0 (pc2 := 96) dX3_isTrain_95 rfl ?_
          refine g_getr (pc2 := 99) (by rfl) (by rfl) flX3_11 dX3_isTrain_96 rfl ?_
          refine g_iconst (pc2 := 100) dX3_isTrain_99 k_iconst_4 rfl ?_
          refine g_iald (pc2 := 101) (by rfl) (by omega) (by decide) dX3_isTrain_100 rfl ?_
          rw [n4]
          refine g_cVi (pc2 := 104) (R_c_hasTrack13 l d _ _ _) meX6_hasTrack mlX3_91 (by rfl) ⟨_, rfl, rfl⟩ rfl rfl (by simp) ⟨Nat.le_refl _, Nat.le_refl _⟩ dX3_isTrain_101 rfl ?_
          rw [hd1 x g4]
          refine g_if_eqB 111 107 dX3_isTrain_104 rfl rfl (fun h104 => ?_) (fun h104 => ?_)
          · have h104b := of_decide_eq_false h104
            refine g_iconst (pc2 := 112) dX3_isTrain_111 k_iconst_0 rfl ?_
            refine g_is3 (pc2 := 113) dX3_isTrain_112 (by decide) rfl ?_
            refine g_il1 (pc2 := 114) dX3_isTrain_113 rfl ?_
            refine g_if_eq 129 117 dX3_isTrain_114 rfl rfl (fun _ => ?_) (fun h => absurd nI_0 h)
            refine g_iconst (pc2 := 130) dX3_isTrain_129 k_iconst_0 rfl ?_
            exact g_zretT dX3_isTrain_130 rfl (Nat.le_refl _) (Nat.le_refl _) (by first | (rw [decide_eq_true (by omega)]; rfl) | (rw [decide_eq_false (by omega)]; rfl)) (rfl)
          · try (have h104a := of_decide_eq_true h104)
            refine g_iconst (pc2 := 108) dX3_isTrain_107 k_iconst_1 rfl ?_
            refine g_goto 112 dX3_isTrain_108 rfl ?_
            refine g_is3 (pc2 := 113) dX3_isTrain_112 (by decide) rfl ?_
            refine g_il1 (pc2 := 114) dX3_isTrain_113 rfl ?_
            refine g_if_eq 129 117 dX3_isTrain_114 rfl rfl (fun _ => ?_) (fun h => absurd nI_0 h)
            refine g_iconst (pc2 := 130) dX3_isTrain_129 k_iconst_0 rfl ?_
            exact g_zretT dX3_isTrain_130 rfl (Nat.le_refl _) (Nat.le_refl _) (by first | (rw [decide_eq_true (by omega)]; rfl) | (rw [decide_eq_false (by omega)]; rfl)) (rfl)
      · refine g_al0 (pc2 := 49) dX3_isTrain_48 rfl ?_
        refine g_getr (pc2 := 52) (by rfl) (by rfl) flX3_11 dX3_isTrain_49 rfl ?_
        refine g_iconst (pc2 := 53) dX3_isTrain_52 k_iconst_3 rfl ?_
        refine g_iald (pc2 := 54) (by rfl) (by omega) (by decide) dX3_isTrain_53 rfl ?_
        rw [n3]
        refine g_al0 (pc2 := 55) dX3_isTrain_54 rfl ?_
        refine g_getr (pc2 := 58) (by rfl) (by rfl) flX3_11 dX3_isTrain_55 rfl ?_
        refine g_iconst (pc2 := 59) dX3_isTrain_58 k_iconst_2 rfl ?_
        refine g_iald (pc2 := 60) (by rfl) (by omega) (by decide) dX3_isTrain_59 rfl ?_
        rw [n2]
        refine g_icmpN_lt 78 63 dX3_isTrain_60 rfl rfl (by omega) (by omega) (fun h60 => ?_) (fun h60 => ?_)
        · refine g_iconst (pc2 := 79) dX3_isTrain_78 k_iconst_0 rfl ?_
          refine g_is2 (pc2 := 80) dX3_isTrain_79 (by decide) rfl ?_
          refine g_al0 (pc2 := 81) dX3_isTrain_80 rfl ?_
          refine g_getr (pc2 := 84) (by rfl) (by rfl) flX3_11 dX3_isTrain_81 rfl ?_
          refine g_iconst (pc2 := 85) dX3_isTrain_84 k_iconst_4 rfl ?_
          refine g_iald (pc2 := 86) (by rfl) (by omega) (by decide) dX3_isTrain_85 rfl ?_
          rw [n4]
          refine g_bipush (pc2 := 88) dX3_isTrain_86 k_bipush_9 rfl ?_
          refine g_icmpN_eq 107 91 dX3_isTrain_88 rfl rfl (by omega) (by omega) (fun h88 => ?_) (fun h88 => ?_)
          · try (have h104a := of_decide_eq_true h104)
            refine g_iconst (pc2 := 108) dX3_isTrain_107 k_iconst_1 rfl ?_
            refine g_goto 112 dX3_isTrain_108 rfl ?_
            refine g_is3 (pc2 := 113) dX3_isTrain_112 (by decide) rfl ?_
            refine g_il1 (pc2 := 114) dX3_isTrain_113 rfl ?_
            refine g_if_eq 129 117 dX3_isTrain_114 rfl rfl (fun _ => ?_) (fun h => absurd nI_0 h)
            refine g_iconst (pc2 := 130) dX3_isTrain_129 k_iconst_0 rfl ?_
            exact g_zretT dX3_isTrain_130 rfl (Nat.le_refl _) (Nat.le_refl _) (by first | (rw [decide_eq_true (by omega)]; rfl) | (rw [decide_eq_false (by omega)]; rfl)) (rfl)
          · refine g_al0 (pc2 := 92) dX3_isTrain_91 rfl ?_
            refine g_getr (pc2 := 95) (by rfl) (by rfl) flX3_23 dX3_isTrain_92 rfl ?_
            refine g_al0 (pc2 := 96) dX3_isTrain_95 rfl ?_
            refine g_getr (pc2 := 99) (by rfl) (by rfl) flX3_11 dX3_isTrain_96 rfl ?_
            refine g_iconst (pc2 := 100) dX3_isTrain_99 k_iconst_4 rfl ?_
            refine g_iald (pc2 := 101) (by rfl) (by omega) (by decide) dX3_isTrain_100 rfl ?_
            rw [n4]
            refine g_cVi (pc2 := 104) (R_c_hasTrack13 l d _ _ _) meX6_hasTrack mlX3_91 (by rfl) ⟨_, rfl, rfl⟩ rfl rfl (by simp) ⟨Nat.le_refl _, Nat.le_refl _⟩ dX3_isTrain_101 rfl ?_
            rw [hd1 x g4]
            refine g_if_eqB 111 107 dX3_isTrain_104 rfl rfl (fun h104 => ?_) (fun h104 => ?_)
            · have h104b := of_decide_eq_false h104
              refine g_iconst (pc2 := 112) dX3_isTrain_111 k_iconst_0 rfl ?_
              refine g_is3 (pc2 := 113) dX3_isTrain_112 (by decide) rfl ?_
              refine g_il1 (pc2 := 114) dX3_isTrain_113 rfl ?_
              refine g_if_eq 129 117 dX3_isTrain_114 rfl rfl (fun _ => ?_) (fun h => absurd nI_0 h)
              refine g_iconst (pc2 := 130) dX3_isTrain_129 k_iconst_0 rfl ?_
              exact g_zretT dX3_isTrain_130 rfl (Nat.le_refl _) (Nat.le_refl _) (by first | (rw [decide_eq_true (by omega)]; rfl) | (rw [decide_eq_false (by omega)]; rfl)) (rfl)
            · try (have h104a := of_decide_eq_true h104)
              refine g_iconst (pc2 := 108) dX3_isTrain_107 k_iconst_1 rfl ?_
              refine g_goto 112 dX3_isTrain_108 rfl ?_
              refine g_is3 (pc2 := 113) dX3_isTrain_112 (by decide) rfl ?_
              refine g_il1 (pc2 := 114) dX3_isTrain_113 rfl ?_
              refine g_if_eq 129 117 dX3_isTrain_114 rfl rfl (fun _ => ?_) (fun h => absurd nI_0 h)
              refine g_iconst (pc2 := 130) dX3_isTrain_129 k_iconst_0 rfl ?_
              exact g_zretT dX3_isTrain_130 rfl (Nat.le_refl _) (Nat.le_refl _) (by first | (rw [decide_eq_true (by omega)]; rfl) | (rw [decide_eq_false (by omega)]; rfl)) (rfl)
        · refine g_al0 (pc2 := 64) dX3_isTrain_63 rfl ?_
          refine g_getr (pc2 := 67) (by rfl) (by rfl) flX3_11 dX3_isTrain_64 rfl ?_
          refine g_iconst (pc2 := 68) dX3_isTrain_67 k_iconst_3 rfl ?_
          refine g_iald (pc2 := 69) (by rfl) (by omega) (by decide) dX3_isTrain_68 rfl ?_
          rw [n3]
          refine g_bipush (pc2 := 71) dX3_isTrain_69 k_bipush_98 rfl ?_
          refine g_icmpN_gt 78 74 dX3_isTrain_71 rfl rfl (by omega) (by omega) (fun h71 => ?_) (fun h71 => ?_)
          · refine g_iconst (pc2 := 79) dX3_isTrain_78 k_iconst_0 rfl ?_
            refine g_is2 (pc2 := 80) dX3_isTrain_79 (by decide) rfl ?_
            refine g_al0 (pc2 := 81) dX3_isTrain_80 rfl ?_
            refine g_getr (pc2 := 84) (by rfl) (by rfl) flX3_11 dX3_isTrain_81 rfl ?_
            refine g_iconst (pc2 := 85) dX3_isTrain_84 k_iconst_4 rfl ?_
            refine g_iald (pc2 := 86) (by rfl) (by omega) (by decide) dX3_isTrain_85 rfl ?_
            rw [n4]
            refine g_bipush (pc2 := 88) dX3_isTrain_86 k_bipush_9 rfl ?_
            refine g_icmpN_eq 107 91 dX3_isTrain_88 rfl rfl (by omega) (by omega) (fun h88 => ?_) (fun h88 => ?_)
            · try (have h104a := of_decide_eq_true h104)
              refine g_iconst (pc2 := 108) dX3_isTrain_107 k_iconst_1 rfl ?_
              refine g_goto 112 dX3_isTrain_108 rfl ?_
              refine g_is3 (pc2 := 113) dX3_isTrain_112 (by decide) rfl ?_
              refine g_il1 (pc2 := 114) dX3_isTrain_113 rfl ?_
              refine g_if_eq 129 117 dX3_isTrain_114 rfl rfl (fun _ => ?_) (fun h => absurd nI_0 h)
              refine g_iconst (pc2 := 130) dX3_isTrain_129 k_iconst_0 rfl ?_
              exact g_zretT dX3_isTrain_130 rfl (Nat.le_refl _) (Nat.le_refl _) (by first | (rw [decide_eq_true (by omega)]; rfl) | (rw [decide_eq_false (by omega)]; rfl)) (rfl)
            · refine g_al0 (pc2 := 92) dX3_isTrain_91 rfl ?_
              refine g_getr (pc2 := 95) (by rfl) (by rfl) flX3_23 dX3_isTrain_92 rfl ?_
              refine g_al0 (pc2 := 96) dX3_isTrain_95 rfl ?_
              refine g_getr (pc2 := 99) (by rfl) (by rfl) flX3_11 dX3_isTrain_96 rfl ?_
              refine g_iconst (pc2 := 100) dX3_isTrain_99 k_iconst_4 rfl ?_
              refine g_iald (pc2 := 101) (by rfl) (by omega) (by decide) dX3_isTrain_100 rfl ?_
              rw [n4]
              refine g_cVi (pc2 := 104) (R_c_hasTrack13 l d _ _ _) meX6_hasTrack mlX3_91 (by rfl) ⟨_, rfl, rfl⟩ rfl rfl (by simp) ⟨Nat.le_refl _, Nat.le_refl _⟩ dX3_isTrain_101 rfl ?_
              rw [hd1 x g4]
              refine g_if_eqB 111 107 dX3_isTrain_104 rfl rfl (fun h104 => ?_) (fun h104 => ?_)
              · have h104b := of_decide_eq_false h104
                refine g_iconst (pc2 := 112) dX3_isTrain_111 k_iconst_0 rfl ?_
                refine g_is3 (pc2 := 113) dX3_isTrain_112 (by decide) rfl ?_
                refine g_il1 (pc2 := 114) dX3_isTrain_113 rfl ?_
                refine g_if_eq 129 117 dX3_isTrain_114 rfl rfl (fun _ => ?_) (fun h => absurd nI_0 h)
                refine g_iconst (pc2 := 130) dX3_isTrain_129 k_iconst_0 rfl ?_
                exact g_zretT dX3_isTrain_130 rfl (Nat.le_refl _) (Nat.le_refl _) (by first | (rw [decide_eq_true (by omega)]; rfl) | (rw [decide_eq_false (by omega)]; rfl)) (rfl)
              · try (have h104a := of_decide_eq_true h104)
                refine g_iconst (pc2 := 108) dX3_isTrain_107 k_iconst_1 rfl ?_
                refine g_goto 112 dX3_isTrain_108 rfl ?_
                refine g_is3 (pc2 := 113) dX3_isTrain_112 (by decide) rfl ?_
                refine g_il1 (pc2 := 114) dX3_isTrain_113 rfl ?_
                refine g_if_eq 129 117 dX3_isTrain_114 rfl rfl (fun _ => ?_) (fun h => absurd nI_0 h)
                refine g_iconst (pc2 := 130) dX3_isTrain_129 k_iconst_0 rfl ?_
                exact g_zretT dX3_isTrain_130 rfl (Nat.le_refl _) (Nat.le_refl _) (by first | (rw [decide_eq_true (by omega)]; rfl) | (rw [decide_eq_false (by omega)]; rfl)) (rfl)
          · refine g_iconst (pc2 := 75) dX3_isTrain_74 k_iconst_1 rfl ?_
            refine g_goto 79 dX3_isTrain_75 rfl ?_
            refine g_is2 (pc2 := 80) dX3_isTrain_79 (by decide) rfl ?_
            refine g_al0 (pc2 := 81) dX3_isTrain_80 rfl ?_
            refine g_getr (pc2 := 84) (by rfl) (by rfl) flX3_11 dX3_isTrain_81 rfl ?_
            refine g_iconst (pc2 := 85) dX3_isTrain_84 k_iconst_4 rfl ?_
            refine g_iald (pc2 := 86) (by rfl) (by omega) (by decide) dX3_isTrain_85 rfl ?_
            rw [n4]
            refine g_bipush (pc2 := 88) dX3_isTrain_86 k_bipush_9 rfl ?_
            refine g_icmpN_eq 107 91 dX3_isTrain_88 rfl rfl (by omega) (by omega) (fun h88 => ?_) (fun h88 => ?_)
            · try (have h104a := of_decide_eq_true h104)
              refine g_iconst (pc2 := 108) dX3_isTrain_107 k_iconst_1 rfl ?_
              refine g_goto 112 dX3_isTrain_108 rfl ?_
              refine g_is3 (pc2 := 113) dX3_isTrain_112 (by decide) rfl ?_
              refine g_il1 (pc2 := 114) dX3_isTrain_113 rfl ?_
              refine g_if_eq 129 117 dX3_isTrain_114 rfl rfl (fun _ => ?_) (fun h => absurd nI_0 h)
              refine g_iconst (pc2 := 130) dX3_isTrain_129 k_iconst_0 rfl ?_
              exact g_zretT dX3_isTrain_130 rfl (Nat.le_refl _) (Nat.le_refl _) (by first | (rw [decide_eq_true (by omega)]; rfl) | (rw [decide_eq_false (by omega)]; rfl)) (rfl)
            · refine g_al0 (pc2 := 92) dX3_isTrain_91 rfl ?_
              refine g_getr (pc2 := 95) (by rfl) (by rfl) flX3_23 dX3_isTrain_92 rfl ?_
              refine g_al0 (pc2 := 96) dX3_isTrain_95 rfl ?_
              refine g_getr (pc2 := 99) (by rfl) (by rfl) flX3_11 dX3_isTrain_96 rfl ?_
              refine g_iconst (pc2 := 100) dX3_isTrain_99 k_iconst_4 rfl ?_
              refine g_iald (pc2 := 101) (by rfl) (by omega) (by decide) dX3_isTrain_100 rfl ?_
              rw [n4]
              refine g_cVi (pc2 := 104) (R_c_hasTrack13 l d _ _ _) meX6_hasTrack mlX3_91 (by rfl) ⟨_, rfl, rfl⟩ rfl rfl (by simp) ⟨Nat.le_refl _, Nat.le_refl _⟩ dX3_isTrain_101 rfl ?_
              rw [hd1 x g4]
              refine g_if_eqB 111 107 dX3_isTrain_104 rfl rfl (fun h104 => ?_) (fun h104 => ?_)
              · have h104b := of_decide_eq_false h104
                refine g_iconst (pc2 := 112) dX3_isTrain_111 k_iconst_0 rfl ?_
                refine g_is3 (pc2 := 113) dX3_isTrain_112 (by decide) rfl ?_
                refine g_il1 (pc2 := 114) dX3_isTrain_113 rfl ?_
                refine g_if_eq 129 117 dX3_isTrain_114 rfl rfl (fun _ => ?_) (fun h => absurd nI_0 h)
                refine g_iconst (pc2 := 130) dX3_isTrain_129 k_iconst_0 rfl ?_
                exact g_zretT dX3_isTrain_130 rfl (Nat.le_refl _) (Nat.le_refl _) (by first | (rw [decide_eq_true (by omega)]; rfl) | (rw [decide_eq_false (by omega)]; rfl)) (rfl)
              · try (have h104a := of_decide_eq_true h104)
                refine g_iconst (pc2 := 108) dX3_isTrain_107 k_iconst_1 rfl ?_
                refine g_goto 112 dX3_isTrain_108 rfl ?_
                refine g_is3 (pc2 := 113) dX3_isTrain_112 (by decide) rfl ?_
                refine g_il1 (pc2 := 114) dX3_isTrain_113 rfl ?_
                refine g_if_eq 129 117 dX3_isTrain_114 rfl rfl (fun _ => ?_) (fun h => absurd nI_0 h)
                refine g_iconst (pc2 := 130) dX3_isTrain_129 k_iconst_0 rfl ?_
                exact g_zretT dX3_isTrain_130 rfl (Nat.le_refl _) (Nat.le_refl _) (by first | (rw [decide_eq_true (by omega)]; rfl) | (rw [decide_eq_false (by omega)]; rfl)) (rfl)
    · have h29a := of_decide_eq_true h29
      refine g_iconst (pc2 := 33) dX3_isTrain_32 k_iconst_1 rfl ?_
      refine g_goto 37 dX3_isTrain_33 rfl ?_
      refine g_is1 (pc2 := 38) dX3_isTrain_37 (by decide) rfl ?_
      refine g_al0 (pc2 := 39) dX3_isTrain_38 rfl ?_
      refine g_getr (pc2 := 42) (by rfl) (by rfl) flX3_11 dX3_isTrain_39 rfl ?_
      refine g_iconst (pc2 := 43) dX3_isTrain_42 k_iconst_2 rfl ?_
      refine g_iald (pc2 := 44) (by rfl) (by omega) (by decide) dX3_isTrain_43 rfl ?_
      rw [n2]
      refine g_iconst (pc2 := 45) dX3_isTrain_44 k_iconst_1 rfl ?_
      refine g_icmpN_lt 78 48 dX3_isTrain_45 rfl rfl (by omega) (by omega) (fun h45 => ?_) (fun h45 => ?_)
      · refine g_iconst (pc2 := 79) dX3_isTrain_78 k_iconst_0 rfl ?_
        refine g_is2 (pc2 := 80) dX3_isTrain_79 (by decide) rfl ?_
        refine g_al0 (pc2 := 81) dX3_isTrain_80 rfl ?_
        refine g_getr (pc2 := 84) (by rfl) (by rfl) flX3_11 dX3_isTrain_81 rfl ?_
        refine g_iconst (pc2 := 85) dX3_isTrain_84 k_iconst_4 rfl ?_
        refine g_iald (pc2 := 86) (by rfl) (by omega) (by decide) dX3_isTrain_85 rfl ?_
        rw [n4]
        refine g_bipush (pc2 := 88) dX3_isTrain_86 k_bipush_9 rfl ?_
        refine g_icmpN_eq 107 91 dX3_isTrain_88 rfl rfl (by omega) (by omega) (fun h88 => ?_) (fun h88 => ?_)
        · try (have h104a := of_decide_eq_true h104)
          refine g_iconst (pc2 := 108) dX3_isTrain_107 k_iconst_1 rfl ?_
          refine g_goto 112 dX3_isTrain_108 rfl ?_
          refine g_is3 (pc2 := 113) dX3_isTrain_112 (by decide) rfl ?_
          refine g_il1 (pc2 := 114) dX3_isTrain_113 rfl ?_
          refine g_if_eq 129 117 dX3_isTrain_114 rfl rfl (fun h => absurd h (nI_ne0 (by decide) (by decide))) (fun _ => ?_)
          refine g_il2 (pc2 := 118) dX3_isTrain_117 rfl ?_
          refine g_if_eq 129 121 dX3_isTrain_118 rfl rfl (fun _ => ?_) (fun h => absurd nI_0 h)
          refine g_iconst (pc2 := 130) dX3_isTrain_129 k_iconst_0 rfl ?_
          exact g_zretT dX3_isTrain_130 rfl (Nat.le_refl _) (Nat.le_refl _) (by first | (rw [decide_eq_true (by omega)]; rfl) | (rw [decide_eq_false (by omega)]; rfl)) (rfl)
        · refine g_al0 (pc2 := 92) dX3_isTrain_91 rfl ?_
          refine g_getr (pc2 := 95) (by rfl) (by rfl) flX3_23 dX3_isTrain_92 rfl ?_
          refine g_al0 (pc2 := 96) dX3_isTrain_95 rfl ?_
          refine g_getr (pc2 := 99) (by rfl) (by rfl) flX3_11 dX3_isTrain_96 rfl ?_
          refine g_iconst (pc2 := 100) dX3_isTrain_99 k_iconst_4 rfl ?_
          refine g_iald (pc2 := 101) (by rfl) (by omega) (by decide) dX3_isTrain_100 rfl ?_
          rw [n4]
          refine g_cVi (pc2 := 104) (R_c_hasTrack13 l d _ _ _) meX6_hasTrack mlX3_91 (by rfl) ⟨_, rfl, rfl⟩ rfl rfl (by simp) ⟨Nat.le_refl _, Nat.le_refl _⟩ dX3_isTrain_101 rfl ?_
          rw [hd1 x g4]
          refine g_if_eqB 111 107 dX3_isTrain_104 rfl rfl (fun h104 => ?_) (fun h104 => ?_)
          · have h104b := of_decide_eq_false h104
            refine g_iconst (pc2 := 112) dX3_isTrain_111 k_iconst_0 rfl ?_
            refine g_is3 (pc2 := 113) dX3_isTrain_112 (by decide) rfl ?_
            refine g_il1 (pc2 := 114) dX3_isTrain_113 rfl ?_
            refine g_if_eq 129 117 dX3_isTrain_114 rfl rfl (fun h => absurd h (nI_ne0 (by decide) (by decide))) (fun _ => ?_)
            refine g_il2 (pc2 := 118) dX3_isTrain_117 rfl ?_
            refine g_if_eq 129 121 dX3_isTrain_118 rfl rfl (fun _ => ?_) (fun h => absurd nI_0 h)
            refine g_iconst (pc2 := 130) dX3_isTrain_129 k_iconst_0 rfl ?_
            exact g_zretT dX3_isTrain_130 rfl (Nat.le_refl _) (Nat.le_refl _) (by first | (rw [decide_eq_true (by omega)]; rfl) | (rw [decide_eq_false (by omega)]; rfl)) (rfl)
          · try (have h104a := of_decide_eq_true h104)
            refine g_iconst (pc2 := 108) dX3_isTrain_107 k_iconst_1 rfl ?_
            refine g_goto 112 dX3_isTrain_108 rfl ?_
            refine g_is3 (pc2 := 113) dX3_isTrain_112 (by decide) rfl ?_
            refine g_il1 (pc2 := 114) dX3_isTrain_113 rfl ?_
            refine g_if_eq 129 117 dX3_isTrain_114 rfl rfl (fun h => absurd h (nI_ne0 (by decide) (by decide))) (fun _ => ?_)
            refine g_il2 (pc2 := 118) dX3_isTrain_117 rfl ?_
            refine g_if_eq 129 121 dX3_isTrain_118 rfl rfl (fun _ => ?_) (fun h => absurd nI_0 h)
            refine g_iconst (pc2 := 130) dX3_isTrain_129 k_iconst_0 rfl ?_
            exact g_zretT dX3_isTrain_130 rfl (Nat.le_refl _) (Nat.le_refl _) (by first | (rw [decide_eq_true (by omega)]; rfl) | (rw [decide_eq_false (by omega)]; rfl)) (rfl)
      · refine g_al0 (pc2 := 49) dX3_isTrain_48 rfl ?_
        refine g_getr (pc2 := 52) (by rfl) (by rfl) flX3_11 dX3_isTrain_49 rfl ?_
        refine g_iconst (pc2 := 53) dX3_isTrain_52 k_iconst_3 rfl ?_
        refine g_iald (pc2 := 54) (by rfl) (by omega) (by decide) dX3_isTrain_53 rfl ?_
        rw [n3]
        refine g_al0 (pc2 := 55) dX3_isTrain_54 rfl ?_
        refine g_getr (pc2 := 58) (by rfl) (by rfl) flX3_11 dX3_isTrain_55 rfl ?_
        refine g_iconst (pc2 := 59) dX3_isTrain_58 k_iconst_2 rfl ?_
        refine g_iald (pc2 := 60) (by rfl) (by omega) (by decide) dX3_isTrain_59 rfl ?_
        rw [n2]
        refine g_icmpN_lt 78 63 dX3_isTrain_60 rfl rfl (by omega) (by omega) (fun h60 => ?_) (fun h60 => ?_)
        · refine g_iconst (pc2 := 79) dX3_isTrain_78 k_iconst_0 rfl ?_
          refine g_is2 (pc2 := 80) dX3_isTrain_79 (by decide) rfl ?_
          refine g_al0 (pc2 := 81) dX3_isTrain_80 rfl ?_
          refine g_getr (pc2 := 84) (by rfl) (by rfl) flX3_11 dX3_isTrain_81 rfl ?_
          refine g_iconst (pc2 := 85) dX3_isTrain_84 k_iconst_4 rfl ?_
          refine g_iald (pc2 := 86) (by rfl) (by omega) (by decide) dX3_isTrain_85 rfl ?_
          rw [n4]
          refine g_bipush (pc2 := 88) dX3_isTrain_86 k_bipush_9 rfl ?_
          refine g_icmpN_eq 107 91 dX3_isTrain_88 rfl rfl (by omega) (by omega) (fun h88 => ?_) (fun h88 => ?_)
          · try (have h104a := of_decide_eq_true h104)
            refine g_iconst (pc2 := 108) dX3_isTrain_107 k_iconst_1 rfl ?_
            refine g_goto 112 dX3_isTrain_108 rfl ?_
            refine g_is3 (pc2 := 113) dX3_isTrain_112 (by decide) rfl ?_
            refine g_il1 (pc2 := 114) dX3_isTrain_113 rfl ?_
            refine g_if_eq 129 117 dX3_isTrain_114 rfl rfl (fun h => absurd h (nI_ne0 (by decide) (by decide))) (fun _ => ?_)
            refine g_il2 (pc2 := 118) dX3_isTrain_117 rfl ?_
            refine g_if_eq 129 121 dX3_isTrain_118 rfl rfl (fun _ => ?_) (fun h => absurd nI_0 h)
            refine g_iconst (pc2 := 130) dX3_isTrain_129 k_iconst_0 rfl ?_
            exact g_zretT dX3_isTrain_130 rfl (Nat.le_refl _) (Nat.le_refl _) (by first | (rw [decide_eq_true (by omega)]; rfl) | (rw [decide_eq_false (by omega)]; rfl)) (rfl)
          · refine g_al0 (pc2 := 92) dX3_isTrain_91 rfl ?_
            refine g_getr (pc2 := 95) (by rfl) (by rfl) flX3_23 dX3_isTrain_92 rfl ?_
            refine g_al0 (pc2 := 96) dX3_isTrain_95 rfl ?_
            refine g_getr (pc2 := 99) (by rfl) (by rfl) flX3_11 dX3_isTrain_96 rfl ?_
            refine g_iconst (pc2 := 100) dX3_isTrain_99 k_iconst_4 rfl ?_
            refine g_iald (pc2 := 101) (by rfl) (by omega) (by decide) dX3_isTrain_100 rfl ?_
            rw [n4]
            refine g_cVi (pc2 := 104) (R_c_hasTrack13 l d _ _ _) meX6_hasTrack mlX3_91 (by rfl) ⟨_, rfl, rfl⟩ rfl rfl (by simp) ⟨Nat.le_refl _, Nat.le_refl _⟩ dX3_isTrain_101 rfl ?_
            rw [hd1 x g4]
            refine g_if_eqB 111 107 dX3_isTrain_104 rfl rfl (fun h104 => ?_) (fun h104 => ?_)
            · have h104b := of_decide_eq_false h104
              refine g_iconst (pc2 := 112) dX3_isTrain_111 k_iconst_0 rfl ?_
              refine g_is3 (pc2 := 113) dX3_isTrain_112 (by decide) rfl ?_
              refine g_il1 (pc2 := 114) dX3_isTrain_113 rfl ?_
              refine g_if_eq 129 117 dX3_isTrain_114 rfl rfl (fun h => absurd h (nI_ne0 (by decide) (by decide))) (fun _ => ?_)
              refine g_il2 (pc2 := 118) dX3_isTrain_117 rfl ?_
              refine g_if_eq 129 121 dX3_isTrain_118 rfl rfl (fun _ => ?_) (fun h => absurd nI_0 h)
              refine g_iconst (pc2 := 130) dX3_isTrain_129 k_iconst_0 rfl ?_
              exact g_zretT dX3_isTrain_130 rfl (Nat.le_refl _) (Nat.le_refl _) (by first | (rw [decide_eq_true (by omega)]; rfl) | (rw [decide_eq_false (by omega)]; rfl)) (rfl)
            · try (have h104a := of_decide_eq_true h104)
              refine g_iconst (pc2 := 108) dX3_isTrain_107 k_iconst_1 rfl ?_
              refine g_goto 112 dX3_isTrain_108 rfl ?_
              refine g_is3 (pc2 := 113) dX3_isTrain_112 (by decide) rfl ?_
              refine g_il1 (pc2 := 114) dX3_isTrain_113 rfl ?_
              refine g_if_eq 129 117 dX3_isTrain_114 rfl rfl (fun h => absurd h (nI_ne0 (by decide) (by decide))) (fun _ => ?_)
              refine g_il2 (pc2 := 118) dX3_isTrain_117 rfl ?_
              refine g_if_eq 129 121 dX3_isTrain_118 rfl rfl (fun _ => ?_) (fun h => absurd nI_0 h)
              refine g_iconst (pc2 := 130) dX3_isTrain_129 k_iconst_0 rfl ?_
              exact g_zretT dX3_isTrain_130 rfl (Nat.le_refl _) (Nat.le_refl _) (by first | (rw [decide_eq_true (by omega)]; rfl) | (rw [decide_eq_false (by omega)]; rfl)) (rfl)
        · refine g_al0 (pc2 := 64) dX3_isTrain_63 rfl ?_
          refine g_getr (pc2 := 67) (by rfl) (by rfl) flX3_11 dX3_isTrain_64 rfl ?_
          refine g_iconst (pc2 := 68) dX3_isTrain_67 k_iconst_3 rfl ?_
          refine g_iald (pc2 := 69) (by rfl) (by omega) (by decide) dX3_isTrain_68 rfl ?_
          rw [n3]
          refine g_bipush (pc2 := 71) dX3_isTrain_69 k_bipush_98 rfl ?_
          refine g_icmpN_gt 78 74 dX3_isTrain_71 rfl rfl (by omega) (by omega) (fun h71 => ?_) (fun h71 => ?_)
          · refine g_iconst (pc2 := 79) dX3_isTrain_78 k_iconst_0 rfl ?_
            refine g_is2 (pc2 := 80) dX3_isTrain_79 (by decide) rfl ?_
            refine g_al0 (pc2 := 81) dX3_isTrain_80 rfl ?_
            refine g_getr (pc2 := 84) (by rfl) (by rfl) flX3_11 dX3_isTrain_81 rfl ?_
            refine g_iconst (pc2 := 85) dX3_isTrain_84 k_iconst_4 rfl ?_
            refine g_iald (pc2 := 86) (by rfl) (by omega) (by decide) dX3_isTrain_85 rfl ?_
            rw [n4]
            refine g_bipush (pc2 := 88) dX3_isTrain_86 k_bipush_9 rfl ?_
            refine g_icmpN_eq 107 91 dX3_isTrain_88 rfl rfl (by omega) (by omega) (fun h88 => ?_) (fun h88 => ?_)
            · try (have h104a := of_decide_eq_true h104)
              refine g_iconst (pc2 := 108) dX3_isTrain_107 k_iconst_1 rfl ?_
              refine g_goto 112 dX3_isTrain_108 rfl ?_
              refine g_is3 (pc2 := 113) dX3_isTrain_112 (by decide) rfl ?_
              refine g_il1 (pc2 := 114) dX3_isTrain_113 rfl ?_
              refine g_if_eq 129 117 dX3_isTrain_114 rfl rfl (fun h => absurd h (nI_ne0 (by decide) (by decide))) (fun _ => ?_)
              refine g_il2 (pc2 := 118) dX3_isTrain_117 rfl ?_
              refine g_if_eq 129 121 dX3_isTrain_118 rfl rfl (fun _ => ?_) (fun h => absurd nI_0 h)
              refine g_iconst (pc2 := 130) dX3_isTrain_129 k_iconst_0 rfl ?_
              exact g_zretT dX3_isTrain_130 rfl (Nat.le_refl _) (Nat.le_refl _) (by first | (rw [decide_eq_true (by omega)]; rfl) | (rw [decide_eq_false (by omega)]; rfl)) (rfl)
            · refine g_al0 (pc2 := 92) dX3_isTrain_91 rfl ?_
              refine g_getr (pc2 := 95) (by rfl) (by rfl) flX3_23 dX3_isTrain_92 rfl ?_
              refine g_al0 (pc2 := 96) dX3_isTrain_95 rfl ?_
              refine g_getr (pc2 := 99) (by rfl) (by rfl) flX3_11 dX3_isTrain_96 rfl ?_
              refine g_iconst (pc2 := 100) dX3_isTrain_99 k_iconst_4 rfl ?_
              refine g_iald (pc2 := 101) (by rfl) (by omega) (by decide) dX3_isTrain_100 rfl ?_
              rw [n4]
              refine g_cVi (pc2 := 104) (R_c_hasTrack13 l d _ _ _) meX6_hasTrack mlX3_91 (by rfl) ⟨_, rfl, rfl⟩ rfl rfl (by simp) ⟨Nat.le_refl _, Nat.le_refl _⟩ dX3_isTrain_101 rfl ?_
              rw [hd1 x g4]
              refine g_if_eqB 111 107 dX3_isTrain_104 rfl rfl (fun h104 => ?_) (fun h104 => ?_)
              · have h104b := of_decide_eq_false h104
                refine g_iconst (pc2 := 112) dX3_isTrain_111 k_iconst_0 rfl ?_
                refine g_is3 (pc2 := 113) dX3_isTrain_112 (by decide) rfl ?_
                refine g_il1 (pc2 := 114) dX3_isTrain_113 rfl ?_
                refine g_if_eq 129 117 dX3_isTrain_114 rfl rfl (fun h => absurd h (nI_ne0 (by decide) (by decide))) (fun _ => ?_)
                refine g_il2 (pc2 := 118) dX3_isTrain_117 rfl ?_
                refine g_if_eq 129 121 dX3_isTrain_118 rfl rfl (fun _ => ?_) (fun h => absurd nI_0 h)
                refine g_iconst (pc2 := 130) dX3_isTrain_129 k_iconst_0 rfl ?_
                exact g_zretT dX3_isTrain_130 rfl (Nat.le_refl _) (Nat.le_refl _) (by first | (rw [decide_eq_true (by omega)]; rfl) | (rw [decide_eq_false (by omega)]; rfl)) (rfl)
              · try (have h104a := of_decide_eq_true h104)
                refine g_iconst (pc2 := 108) dX3_isTrain_107 k_iconst_1 rfl ?_
                refine g_goto 112 dX3_isTrain_108 rfl ?_
                refine g_is3 (pc2 := 113) dX3_isTrain_112 (by decide) rfl ?_
                refine g_il1 (pc2 := 114) dX3_isTrain_113 rfl ?_
                refine g_if_eq 129 117 dX3_isTrain_114 rfl rfl (fun h => absurd h (nI_ne0 (by decide) (by decide))) (fun _ => ?_)
                refine g_il2 (pc2 := 118) dX3_isTrain_117 rfl ?_
                refine g_if_eq 129 121 dX3_isTrain_118 rfl rfl (fun _ => ?_) (fun h => absurd nI_0 h)
                refine g_iconst (pc2 := 130) dX3_isTrain_129 k_iconst_0 rfl ?_
                exact g_zretT dX3_isTrain_130 rfl (Nat.le_refl _) (Nat.le_refl _) (by first | (rw [decide_eq_true (by omega)]; rfl) | (rw [decide_eq_false (by omega)]; rfl)) (rfl)
          · refine g_iconst (pc2 := 75) dX3_isTrain_74 k_iconst_1 rfl ?_
            refine g_goto 79 dX3_isTrain_75 rfl ?_
            refine g_is2 (pc2 := 80) dX3_isTrain_79 (by decide) rfl ?_
            refine g_al0 (pc2 := 81) dX3_isTrain_80 rfl ?_
            refine g_getr (pc2 := 84) (by rfl) (by rfl) flX3_11 dX3_isTrain_81 rfl ?_
            refine g_iconst (pc2 := 85) dX3_isTrain_84 k_iconst_4 rfl ?_
            refine g_iald (pc2 := 86) (by rfl) (by omega) (by decide) dX3_isTrain_85 rfl ?_
            rw [n4]
            refine g_bipush (pc2 := 88) dX3_isTrain_86 k_bipush_9 rfl ?_
            refine g_icmpN_eq 107 91 dX3_isTrain_88 rfl rfl (by omega) (by omega) (fun h88 => ?_) (fun h88 => ?_)
            · try (have h104a := of_decide_eq_true h104)
              refine g_iconst (pc2 := 108) dX3_isTrain_107 k_iconst_1 rfl ?_
              refine g_goto 112 dX3_isTrain_108 rfl ?_
              refine g_is3 (pc2 := 113) dX3_isTrain_112 (by decide) rfl ?_
              refine g_il1 (pc2 := 114) dX3_isTrain_113 rfl ?_
              refine g_if_eq 129 117 dX3_isTrain_114 rfl rfl (fun h => absurd h (nI_ne0 (by decide) (by decide))) (fun _ => ?_)
              refine g_il2 (pc2 := 118) dX3_isTrain_117 rfl ?_
              refine g_if_eq 129 121 dX3_isTrain_118 rfl rfl (fun h => absurd h (nI_ne0 (by decide) (by decide))) (fun _ => ?_)
              refine g_il3 (pc2 := 122) dX3_isTrain_121 rfl ?_
              refine g_if_eq 129 125 dX3_isTrain_122 rfl rfl (fun h => absurd h (nI_ne0 (by decide) (by decide))) (fun _ => ?_)
              refine g_iconst (pc2 := 126) dX3_isTrain_125 k_iconst_1 rfl ?_
              refine g_goto 130 dX3_isTrain_126 rfl ?_
              exact g_zretT dX3_isTrain_130 rfl (Nat.le_refl _) (Nat.le_refl _) (by first | (rw [decide_eq_true (by omega)]; rfl) | (rw [decide_eq_false (by omega)]; rfl)) (rfl)
            · refine g_al0 (pc2 := 92) dX3_isTrain_91 rfl ?_
              refine g_getr (pc2 := 95) (by rfl) (by rfl) flX3_23 dX3_isTrain_92 rfl ?_
              refine g_al0 (pc2 := 96) dX3_isTrain_95 rfl ?_
              refine g_getr (pc2 := 99) (by rfl) (by rfl) flX3_11 dX3_isTrain_96 rfl ?_
              refine g_iconst (pc2 := 100) dX3_isTrain_99 k_iconst_4 rfl ?_
              refine g_iald (pc2 := 101) (by rfl) (by omega) (by decide) dX3_isTrain_100 rfl ?_
              rw [n4]
              refine g_cVi (pc2 := 104) (R_c_hasTrack13 l d _ _ _) meX6_hasTrack mlX3_91 (by rfl) ⟨_, rfl, rfl⟩ rfl rfl (by simp) ⟨Nat.le_refl _, Nat.le_refl _⟩ dX3_isTrain_101 rfl ?_
              rw [hd1 x g4]
              refine g_if_eqB 111 107 dX3_isTrain_104 rfl rfl (fun h104 => ?_) (fun h104 => ?_)
              · have h104b := of_decide_eq_false h104
                refine g_iconst (pc2 := 112) dX3_isTrain_111 k_iconst_0 rfl ?_
                refine g_is3 (pc2 := 113) dX3_isTrain_112 (by decide) rfl ?_
                refine g_il1 (pc2 := 114) dX3_isTrain_113 rfl ?_
                refine g_if_eq 129 117 dX3_isTrain_114 rfl rfl (fun h => absurd h (nI_ne0 (by decide) (by decide))) (fun _ => ?_)
                refine g_il2 (pc2 := 118) dX3_isTrain_117 rfl ?_
                refine g_if_eq 129 121 dX3_isTrain_118 rfl rfl (fun h => absurd h (nI_ne0 (by decide) (by decide))) (fun _ => ?_)
                refine g_il3 (pc2 := 122) dX3_isTrain_121 rfl ?_
                refine g_if_eq 129 125 dX3_isTrain_122 rfl rfl (fun _ => ?_) (fun h => absurd nI_0 h)
                refine g_iconst (pc2 := 130) dX3_isTrain_129 k_iconst_0 rfl ?_
                exact g_zretT dX3_isTrain_130 rfl (Nat.le_refl _) (Nat.le_refl _) (by first | (rw [decide_eq_true (by omega)]; rfl) | (rw [decide_eq_false (by omega)]; rfl)) (rfl)
              · try (have h104a := of_decide_eq_true h104)
                refine g_iconst (pc2 := 108) dX3_isTrain_107 k_iconst_1 rfl ?_
                refine g_goto 112 dX3_isTrain_108 rfl ?_
                refine g_is3 (pc2 := 113) dX3_isTrain_112 (by decide) rfl ?_
                refine g_il1 (pc2 := 114) dX3_isTrain_113 rfl ?_
                refine g_if_eq 129 117 dX3_isTrain_114 rfl rfl (fun h => absurd h (nI_ne0 (by decide) (by decide))) (fun _ => ?_)
                refine g_il2 (pc2 := 118) dX3_isTrain_117 rfl ?_
                refine g_if_eq 129 121 dX3_isTrain_118 rfl rfl (fun h => absurd h (nI_ne0 (by decide) (by decide))) (fun _ => ?_)
                refine g_il3 (pc2 := 122) dX3_isTrain_121 rfl ?_
                refine g_if_eq 129 125 dX3_isTrain_122 rfl rfl (fun h => absurd h (nI_ne0 (by decide) (by decide))) (fun _ => ?_)
                refine g_iconst (pc2 := 126) dX3_isTrain_125 k_iconst_1 rfl ?_
                refine g_goto 130 dX3_isTrain_126 rfl ?_
                exact g_zretT dX3_isTrain_130 rfl (Nat.le_refl _) (Nat.le_refl _) (by first | (rw [decide_eq_true (by omega)]; rfl) | (rw [decide_eq_false (by omega)]; rfl)) (rfl)
theorem R_c_tellTrain23 (l : lt_L) (d : Nat) (t : lt_H) (σ : lt_S) {r : Nat → Int32} {ln T N : Nat} {ns : List Nat} (h : In23 σ r ln T N ns) (hr0 : ¬ r 0 = nI 0) : lt_R l (d + 3) 0 0 mX3_tellTrain (lt_SC ++ t) σ [.ref 23] (tQ23 t σ (itemR r 2 ns)) := by
  have hIn := h
  obtain ⟨hW, hC, hns, hle, hl1, hl6⟩ := h
  refine lt_R.of [some (.ref 23), none] rfl rfl (Nat.le_of_ble_eq_true rfl) ?_
  have hsz := hns.1
  have hN7 := hW.2.2.1.2
  obtain ⟨e0, e1, eN⟩ := hW.e
  have y2 : σ 13 2 = nI N := hC.1.1.2.2.1.trans hW.2.2.1.1
  have g4 := getD_le hle 4
  rw [item2 hr0]
  by_cases hlen : ns.length = 5
  · have n0 := hns.2 0 (by omega)
    have n1 := hns.2 1 (by omega)
    have n2 := hns.2 2 (by omega)
    have n3 := hns.2 3 (by omega)
    have n4 := hns.2 4 (by omega)
    have ist := R_c_isTrain23 l d t σ hIn hlen
    by_cases hok : okCome r ns = true
    · rw [if_pos hok]
      have hc := okC_iff.mp hok
      rw [e0, e1, eN] at hc
      rw [decide_eq_true hc.2.2] at ist
      unfold rowCome
      have finF : FR23 σ (lt_up (lt_up (lt_up (lt_up (lt_up (lt_up (lt_up (lt_up σ 15 N (nI (ns.getD 0 0))) 16 N (nI (ns.getD 1 0))) 17 N (-4)) 19 N (nI (ns.getD 2 0))) 20 N (nI (ns.getD 3 0))) 21 N (nI (ns.getD 4 0))) 22 N (-4)) 13 2 (nI (N + 1))) := by
        intro b h1 h2
        rw [lt_up_nr _ _ _ (by omega), lt_up_nr _ _ _ (by omega), lt_up_nr _ _ _ (by omega), lt_up_nr _ _ _ (by omega), lt_up_nr _ _ _ (by omega), lt_up_nr _ _ _ (by omega), lt_up_nr _ _ _ (by omega), lt_up_nr _ _ _ (by omega)]
      have fin : CR23 (lt_up (lt_up (lt_up (lt_up (lt_up (lt_up (lt_up (lt_up σ 15 N (nI (ns.getD 0 0))) 16 N (nI (ns.getD 1 0))) 17 N (-4)) 19 N (nI (ns.getD 2 0))) 20 N (nI (ns.getD 3 0))) 21 N (nI (ns.getD 4 0))) 22 N (-4)) 13 2 (nI (N + 1))) (comeRow r (nI (ns.getD 0 0)) (nI (ns.getD 1 0)) (nI (ns.getD 2 0)) (nI (ns.getD 3 0)) (if ns.getD 4 0 = 9 then -4 else nI (ns.getD 4 0))) := by
        obtain ⟨c0, c1, c2, c3, c4, c5, c6, c7⟩ := comeRow_new eN (nI (ns.getD 0 0)) (nI (ns.getD 1 0)) (nI (ns.getD 2 0)) (nI (ns.getD 3 0)) (if ns.getD 4 0 = 9 then -4 else nI (ns.getD 4 0))
        have old := fun (j : Nat) (h2 : j ≠ 2) h => comeRow_old eN (nI (ns.getD 0 0)) (nI (ns.getD 1 0)) (nI (ns.getD 2 0)) (nI (ns.getD 3 0)) (if ns.getD 4 0 = 9 then -4 else nI (ns.getD 4 0)) (j := j) h2 h
        unfold CR23
        rw [c7, tN_nI (by omega)]
        refine ⟨⟨⟨?_, ?_, ?_, ?_⟩, fun k hk => ?_, fun i hi => ?_⟩, fun i hi => ?_⟩
        · rw [old 0 (by omega) (by omega)]; exact hC.1.1.1
        · rw [old 1 (by omega) (by omega)]; exact hC.1.1.2.1
        · rw [c7]; rfl
        · rw [old 3 (by omega) (by omega)]; exact hC.1.1.2.2.2
        · rw [old _ (by omega) (by omega)]; exact hC.1.2.1 k hk
        · show lt_up σ 15 N (nI (ns.getD 0 0)) 15 i = _ ∧ lt_up σ 16 N (nI (ns.getD 1 0)) 16 i = _ ∧ lt_up σ 17 N (-4) 17 i = _
          by_cases ci : i = N
          · subst ci
            rw [c0, c1, c5, lt_up_at, lt_up_at, lt_up_at]
            exact ⟨rfl, rfl, rfl⟩
          · rw [old _ (by omega) (by omega), old _ (by omega) (by omega), old _ (by omega) (by omega), lt_up_ne _ _ _ ci, lt_up_ne _ _ _ ci, lt_up_ne _ _ _ ci]
            exact hC.1.2.2 i (by omega)
        · show lt_up σ 19 N (nI (ns.getD 2 0)) 19 i = _ ∧ lt_up σ 20 N (nI (ns.getD 3 0)) 20 i = _ ∧ lt_up σ 21 N (nI (ns.getD 4 0)) 21 i = _ ∧ lt_up σ 22 N (-4) 22 i = _
          by_cases ci : i = N
          · subst ci
            rw [c2, c3, c4, c6, lt_up_at, lt_up_at, lt_up_at, lt_up_at]
            exact ⟨rfl, rfl, wish9 g4, rfl⟩
          · rw [old _ (by omega) (by omega), old _ (by omega) (by omega), old _ (by omega) (by omega), old _ (by omega) (by omega), lt_up_ne _ _ _ ci, lt_up_ne _ _ _ ci, lt_up_ne _ _ _ ci, lt_up_ne _ _ _ ci]
            exact hC.2 i (by omega)
      refine g_al0 (pc2 := 1) dX3_tellTrain_0 rfl ?_
      refine g_getr (pc2 := 4) (by rfl) (by rfl) flX3_23 dX3_tellTrain_1 rfl ?_
      refine g_geti (pc2 := 7) (by rfl) (by rfl) flX3_97 dX3_tellTrain_4 rfl ?_
      rw [y2]
      refine g_is1 (pc2 := 8) dX3_tellTrain_7 (by decide) rfl ?_
      refine g_al0 (pc2 := 9) dX3_tellTrain_8 rfl ?_
      refine g_geti (pc2 := 12) (by rfl) (by rfl) flX3_15 dX3_tellTrain_9 rfl ?_
      rw [hsz]
      refine g_iconst (pc2 := 13) dX3_tellTrain_12 k_iconst_5 rfl ?_
      refine g_icmpN_ne 29 16 dX3_tellTrain_13 rfl rfl (by omega) (by omega) (fun h13 => ?_) (fun h13 => ?_)
      · exact absurd hlen h13
      · refine g_il1 (pc2 := 17) dX3_tellTrain_16 rfl ?_
        refine g_bipush (pc2 := 19) dX3_tellTrain_17 k_bipush_7 rfl ?_
        refine g_icmpN_ge 29 22 dX3_tellTrain_19 rfl rfl (by omega) (by omega) (fun h19 => ?_) (fun h19 => ?_)
        · omega
        · refine g_al0 (pc2 := 23) dX3_tellTrain_22 rfl ?_
          refine g_cVi (pc2 := 26) (ist) meX3_isTrain mlX3_100 (by rfl) ⟨_, rfl, rfl⟩ rfl rfl (by simp) ⟨Nat.le_refl _, Nat.le_refl _⟩ dX3_tellTrain_23 rfl ?_
          refine g_if_neB 31 29 dX3_tellTrain_26 rfl rfl (fun h26 => ?_) (fun h26 => ?_)
          · refine g_al0 (pc2 := 32) dX3_tellTrain_31 rfl ?_
            refine g_getr (pc2 := 35) (by rfl) (by rfl) flX3_23 dX3_tellTrain_32 rfl ?_
            refine g_getr (pc2 := 38) (by rfl) (by rfl) flX3_103 dX3_tellTrain_35 rfl ?_
            refine g_il1 (pc2 := 39) dX3_tellTrain_38 rfl ?_
            refine g_al0 (pc2 := 40) dX3_tellTrain_39 rfl ?_
            refine g_getr (pc2 := 43) (by rfl) (by rfl) flX3_11 dX3_tellTrain_40 rfl ?_
            refine g_iconst (pc2 := 44) dX3_tellTrain_43 k_iconst_0 rfl ?_
            refine g_iald (pc2 := 45) (by rfl) (by omega) (by decide) dX3_tellTrain_44 rfl ?_
            rw [n0]
            refine g_iast (pc2 := 46) (by rfl) (by omega) (by decide) dX3_tellTrain_45 rfl ?_
            refine g_al0 (pc2 := 47) dX3_tellTrain_46 rfl ?_
            refine g_getr (pc2 := 50) (by rfl) (by rfl) flX3_23 dX3_tellTrain_47 rfl ?_
            refine g_getr (pc2 := 53) (by rfl) (by rfl) flX3_106 dX3_tellTrain_50 rfl ?_
            refine g_il1 (pc2 := 54) dX3_tellTrain_53 rfl ?_
            refine g_al0 (pc2 := 55) dX3_tellTrain_54 rfl ?_
            refine g_getr (pc2 := 58) (by rfl) (by rfl) flX3_11 dX3_tellTrain_55 rfl ?_
            refine g_iconst (pc2 := 59) dX3_tellTrain_58 k_iconst_1 rfl ?_
            refine g_iald (pc2 := 60) (by rfl) (by omega) (by decide) dX3_tellTrain_59 rfl ?_
            rw [show lt_up σ 15 N (nI (ns.getD 0 0)) 24 1 = σ 24 1 from rfl, n1]
            refine g_iast (pc2 := 61) (by rfl) (by omega) (by decide) dX3_tellTrain_60 rfl ?_
            refine g_al0 (pc2 := 62) dX3_tellTrain_61 rfl ?_
            refine g_getr (pc2 := 65) (by rfl) (by rfl) flX3_23 dX3_tellTrain_62 rfl ?_
            refine g_getr (pc2 := 68) (by rfl) (by rfl) flX3_109 dX3_tellTrain_65 rfl ?_
            refine g_il1 (pc2 := 69) dX3_tellTrain_68 rfl ?_
            refine g_bipush (pc2 := 71) dX3_tellTrain_69 k_bipush_m4 rfl ?_
            refine g_iast (pc2 := 72) (by rfl) (by omega) (by decide) dX3_tellTrain_71 rfl ?_
            refine g_al0 (pc2 := 73) dX3_tellTrain_72 rfl ?_
            refine g_getr (pc2 := 76) (by rfl) (by rfl) flX3_27 dX3_tellTrain_73 rfl ?_
            refine g_getr (pc2 := 79) (by rfl) (by rfl) flX3_112 dX3_tellTrain_76 rfl ?_
            refine g_il1 (pc2 := 80) dX3_tellTrain_79 rfl ?_
            refine g_al0 (pc2 := 81) dX3_tellTrain_80 rfl ?_
            refine g_getr (pc2 := 84) (by rfl) (by rfl) flX3_11 dX3_tellTrain_81 rfl ?_
            refine g_iconst (pc2 := 85) dX3_tellTrain_84 k_iconst_2 rfl ?_
            refine g_iald (pc2 := 86) (by rfl) (by omega) (by decide) dX3_tellTrain_85 rfl ?_
            rw [show lt_up (lt_up (lt_up σ 15 N (nI (ns.getD 0 0))) 16 N (nI (ns.getD 1 0))) 17 N (-4) 24 2 = σ 24 2 from rfl, n2]
            refine g_iast (pc2 := 87) (by rfl) (by omega) (by decide) dX3_tellTrain_86 rfl ?_
            refine g_al0 (pc2 := 88) dX3_tellTrain_87 rfl ?_
            refine g_getr (pc2 := 91) (by rfl) (by rfl) flX3_27 dX3_tellTrain_88 rfl ?_
            refine g_getr (pc2 := 94) (by rfl) (by rfl) flX3_117 dX3_tellTrain_91 rfl ?_
            refine g_il1 (pc2 := 95) dX3_tellTrain_94 rfl ?_
            refine g_al0 (pc2 := 96) dX3_tellTrain_95 rfl ?_
            refine g_getr (pc2 := 99) (by rfl) (by rfl) flX3_11 dX3_tellTrain_96 rfl ?_
            refine g_iconst (pc2 := 100) dX3_tellTrain_99 k_iconst_3 rfl ?_
            refine g_iald (pc2 := 101) (by rfl) (by omega) (by decide) dX3_tellTrain_100 rfl ?_
            rw [show lt_up (lt_up (lt_up (lt_up σ 15 N (nI (ns.getD 0 0))) 16 N (nI (ns.getD 1 0))) 17 N (-4)) 19 N (nI (ns.getD 2 0)) 24 3 = σ 24 3 from rfl, n3]
            refine g_iast (pc2 := 102) (by rfl) (by omega) (by decide) dX3_tellTrain_101 rfl ?_
            refine g_al0 (pc2 := 103) dX3_tellTrain_102 rfl ?_
            refine g_getr (pc2 := 106) (by rfl) (by rfl) flX3_27 dX3_tellTrain_103 rfl ?_
            refine g_getr (pc2 := 109) (by rfl) (by rfl) flX3_120 dX3_tellTrain_106 rfl ?_
            refine g_il1 (pc2 := 110) dX3_tellTrain_109 rfl ?_
            refine g_al0 (pc2 := 111) dX3_tellTrain_110 rfl ?_
            refine g_getr (pc2 := 114) (by rfl) (by rfl) flX3_11 dX3_tellTrain_111 rfl ?_
            refine g_iconst (pc2 := 115) dX3_tellTrain_114 k_iconst_4 rfl ?_
            refine g_iald (pc2 := 116) (by rfl) (by omega) (by decide) dX3_tellTrain_115 rfl ?_
            rw [show lt_up (lt_up (lt_up (lt_up (lt_up σ 15 N (nI (ns.getD 0 0))) 16 N (nI (ns.getD 1 0))) 17 N (-4)) 19 N (nI (ns.getD 2 0))) 20 N (nI (ns.getD 3 0)) 24 4 = σ 24 4 from rfl, n4]
            refine g_iast (pc2 := 117) (by rfl) (by omega) (by decide) dX3_tellTrain_116 rfl ?_
            refine g_al0 (pc2 := 118) dX3_tellTrain_117 rfl ?_
            refine g_getr (pc2 := 121) (by rfl) (by rfl) flX3_27 dX3_tellTrain_118 rfl ?_
            refine g_getr (pc2 := 124) (by rfl) (by rfl) flX3_123 dX3_tellTrain_121 rfl ?_
            refine g_il1 (pc2 := 125) dX3_tellTrain_124 rfl ?_
            refine g_bipush (pc2 := 127) dX3_tellTrain_125 k_bipush_m4 rfl ?_
            refine g_iast (pc2 := 128) (by rfl) (by omega) (by decide) dX3_tellTrain_127 rfl ?_
            refine g_al0 (pc2 := 129) dX3_tellTrain_128 rfl ?_
            refine g_getr (pc2 := 132) (by rfl) (by rfl) flX3_23 dX3_tellTrain_129 rfl ?_
            refine g_dup (pc2 := 133) dX3_tellTrain_132 rfl ?_
            refine g_geti (pc2 := 136) (by rfl) (by rfl) flX3_97 dX3_tellTrain_133 rfl ?_
            rw [show lt_up (lt_up (lt_up (lt_up (lt_up (lt_up (lt_up σ 15 N (nI (ns.getD 0 0))) 16 N (nI (ns.getD 1 0))) 17 N (-4)) 19 N (nI (ns.getD 2 0))) 20 N (nI (ns.getD 3 0))) 21 N (nI (ns.getD 4 0))) 22 N (-4) 13 2 = σ 13 2 from rfl, y2]
            refine g_iconst (pc2 := 137) dX3_tellTrain_136 k_iconst_1 rfl ?_
            refine g_iaddN (pc2 := 138) dX3_tellTrain_137 rfl ?_
            refine g_puti (pc2 := 141) (by rfl) (by rfl) flX3_97 (fpX6_2 _) (fun h => by first | cases h | rfl) dX3_tellTrain_138 rfl ?_
            refine g_iconst (pc2 := 142) dX3_tellTrain_141 k_iconst_1 rfl ?_
            exact g_zret dX3_tellTrain_142 rfl (bI_nar true) (Nat.le_refl _) (Nat.le_refl _) (tQ23_ok finF fin)
          · cases h26
    · rw [if_neg hok]
      have hno : N < 7 → decide (ns.getD 0 0 < ln ∧ ns.getD 1 0 < ln ∧ 1 ≤ ns.getD 2 0 ∧ ns.getD 2 0 ≤ ns.getD 3 0 ∧ ns.getD 3 0 ≤ 98 ∧ (ns.getD 4 0 < T ∨ ns.getD 4 0 = 9)) = false := by
        intro h7
        refine decide_eq_false (fun q => hok ?_)
        rw [okC_iff, e0, e1, eN]
        exact ⟨hlen, h7, q⟩
      refine g_al0 (pc2 := 1) dX3_tellTrain_0 rfl ?_
      refine g_getr (pc2 := 4) (by rfl) (by rfl) flX3_23 dX3_tellTrain_1 rfl ?_
      refine g_geti (pc2 := 7) (by rfl) (by rfl) flX3_97 dX3_tellTrain_4 rfl ?_
      rw [y2]
      refine g_is1 (pc2 := 8) dX3_tellTrain_7 (by decide) rfl ?_
      refine g_al0 (pc2 := 9) dX3_tellTrain_8 rfl ?_
      refine g_geti (pc2 := 12) (by rfl) (by rfl) flX3_15 dX3_tellTrain_9 rfl ?_
      rw [hsz]
      refine g_iconst (pc2 := 13) dX3_tellTrain_12 k_iconst_5 rfl ?_
      refine g_icmpN_ne 29 16 dX3_tellTrain_13 rfl rfl (by omega) (by omega) (fun h13 => ?_) (fun h13 => ?_)
      · exact absurd hlen h13
      · refine g_il1 (pc2 := 17) dX3_tellTrain_16 rfl ?_
        refine g_bipush (pc2 := 19) dX3_tellTrain_17 k_bipush_7 rfl ?_
        refine g_icmpN_ge 29 22 dX3_tellTrain_19 rfl rfl (by omega) (by omega) (fun h19 => ?_) (fun h19 => ?_)
        · refine g_iconst (pc2 := 30) dX3_tellTrain_29 k_iconst_0 rfl ?_
          exact g_zret dX3_tellTrain_30 rfl (bI_nar false) (Nat.le_refl _) (Nat.le_refl _) tQ23_bad
        · refine g_al0 (pc2 := 23) dX3_tellTrain_22 rfl ?_
          refine g_cVi (pc2 := 26) (ist) meX3_isTrain mlX3_100 (by rfl) ⟨_, rfl, rfl⟩ rfl rfl (by simp) ⟨Nat.le_refl _, Nat.le_refl _⟩ dX3_tellTrain_23 rfl ?_
          rw [hno (by omega)]
          refine g_if_neB 31 29 dX3_tellTrain_26 rfl rfl (fun h26 => ?_) (fun h26 => ?_)
          · cases h26
          · refine g_iconst (pc2 := 30) dX3_tellTrain_29 k_iconst_0 rfl ?_
            exact g_zret dX3_tellTrain_30 rfl (bI_nar false) (Nat.le_refl _) (Nat.le_refl _) tQ23_bad
  · rw [if_neg (fun q => hlen (okC_iff.mp q).1)]
    refine g_al0 (pc2 := 1) dX3_tellTrain_0 rfl ?_
    refine g_getr (pc2 := 4) (by rfl) (by rfl) flX3_23 dX3_tellTrain_1 rfl ?_
    refine g_geti (pc2 := 7) (by rfl) (by rfl) flX3_97 dX3_tellTrain_4 rfl ?_
    rw [y2]
    refine g_is1 (pc2 := 8) dX3_tellTrain_7 (by decide) rfl ?_
    refine g_al0 (pc2 := 9) dX3_tellTrain_8 rfl ?_
    refine g_geti (pc2 := 12) (by rfl) (by rfl) flX3_15 dX3_tellTrain_9 rfl ?_
    rw [hsz]
    refine g_iconst (pc2 := 13) dX3_tellTrain_12 k_iconst_5 rfl ?_
    refine g_icmpN_ne 29 16 dX3_tellTrain_13 rfl rfl (by omega) (by omega) (fun h13 => ?_) (fun h13 => ?_)
    · refine g_iconst (pc2 := 30) dX3_tellTrain_29 k_iconst_0 rfl ?_
      exact g_zret dX3_tellTrain_30 rfl (bI_nar false) (Nat.le_refl _) (Nat.le_refl _) tQ23_bad
    · exact absurd h13 hlen

/-! reader 25: items -/
def CR25 (σ : lt_S) (r : Nat → Int32) : Prop := CY 26 σ r (tN (r 2)) ∧ CP 31 σ r (tN (r 2))
def FR25 (σ σ' : lt_S) : Prop := ∀ a, (a < 26 ∨ 30 < a) → (a < 32 ∨ 35 < a) → σ' a = σ a
theorem FR25.rf (σ : lt_S) : FR25 σ σ := fun _ _ _ => rfl
theorem FR25.up {σ σ' : lt_S} (h : FR25 σ σ') {a : Nat} (k : Nat) (x : Int32) (ha : (26 ≤ a ∧ a ≤ 30) ∨ (32 ≤ a ∧ a ≤ 35)) : FR25 σ (lt_up σ' a k x) := fun b h1 h2 => by rw [lt_up_nr _ _ _ (by omega)]; exact h b h1 h2
def tQ25 (t : lt_H) (σ : lt_S) (res : Option (Nat → Int32)) : lt_Q := fun r' sh' σ' => r' = some (bI res.isSome) ∧ sh' = lt_SC ++ t ∧ FR25 σ σ' ∧ ∀ r2, res = some r2 → CR25 σ' r2
theorem tQ25_bad {t : lt_H} {σ : lt_S} : tQ25 t σ none (some (nI 0)) (lt_SC ++ t) σ := ⟨rfl, rfl, FR25.rf σ, fun r2 h => by cases h⟩
theorem tQ25_ok {t : lt_H} {σ σ' : lt_S} {r2 : Nat → Int32} (hF : FR25 σ σ') (hC : CR25 σ' r2) : tQ25 t σ (some r2) (some (nI 1)) (lt_SC ++ t) σ' := ⟨rfl, rfl, hF, fun r3 h => by cases h; exact hC⟩
def In25 (σ : lt_S) (r : Nat → Int32) (ln T N : Nat) (ns : List Nat) : Prop := Wp r ln T N ∧ CR25 σ r ∧ NS25 σ ns ∧ (∀ v ∈ ns, v ≤ 99) ∧ 1 ≤ ns.length ∧ ns.length ≤ 6
theorem R_c_tellYard25 (l : lt_L) (d : Nat) (t : lt_H) (σ : lt_S) {r : Nat → Int32} {ln T N : Nat} {ns : List Nat} (h : In25 σ r ln T N ns) : lt_R l (d + 1) 0 0 mX3_tellYard (lt_SC ++ t) σ [.ref 25] (tQ25 t σ (itemR r 0 ns)) := by
  obtain ⟨hW, hC, hns, hle, hl1, hl6⟩ := h
  refine lt_R.of [some (.ref 25), none, none] rfl rfl (Nat.le_of_ble_eq_true rfl) ?_
  have hsz := hns.1
  have y0 : σ 26 0 = r 0 := hC.1.1.1
  have g0 := getD_le hle 0
  have g1 := getD_le hle 1
  have e0 : nI 0 = 0 := nI_0
  rw [item0]
  by_cases hlen : ns.length = 2
  · have n0 := hns.2 0 (by omega)
    have n1 := hns.2 1 (by omega)
    by_cases hok : okYard r ns = true
    · rw [if_pos hok]
      have hc := okY_iff.mp hok
      refine g_al0 (pc2 := 1) dX3_tellYard_0 rfl ?_
      refine g_geti (pc2 := 4) (by rfl) (by rfl) flX3_15 dX3_tellYard_1 rfl ?_
      rw [hsz]
      refine g_iconst (pc2 := 5) dX3_tellYard_4 k_iconst_2 rfl ?_
      refine g_icmpN_ne 18 8 dX3_tellYard_5 rfl rfl (by omega) (by omega) (fun h5 => ?_) (fun h5 => ?_)
      · exact absurd hlen h5
      · refine g_al0 (pc2 := 9) dX3_tellYard_8 rfl ?_
        refine g_getr (pc2 := 12) (by rfl) (by rfl) flX3_23 dX3_tellYard_9 rfl ?_
        refine g_geti (pc2 := 15) (by rfl) (by rfl) flX3_70 dX3_tellYard_12 rfl ?_
        rw [y0]
        refine g_if_eq 20 18 dX3_tellYard_15 rfl rfl (fun h15 => ?_) (fun h15 => ?_)
        · refine g_al0 (pc2 := 21) dX3_tellYard_20 rfl ?_
          refine g_getr (pc2 := 24) (by rfl) (by rfl) flX3_11 dX3_tellYard_21 rfl ?_
          refine g_iconst (pc2 := 25) dX3_tellYard_24 k_iconst_0 rfl ?_
          refine g_iald (pc2 := 26) (by rfl) (by omega) (by decide) dX3_tellYard_25 rfl ?_
          rw [n0]
          refine g_is1 (pc2 := 27) dX3_tellYard_26 (by decide) rfl ?_
          refine g_al0 (pc2 := 28) dX3_tellYard_27 rfl ?_
          refine g_getr (pc2 := 31) (by rfl) (by rfl) flX3_11 dX3_tellYard_28 rfl ?_
          refine g_iconst (pc2 := 32) dX3_tellYard_31 k_iconst_1 rfl ?_
          refine g_iald (pc2 := 33) (by rfl) (by omega) (by decide) dX3_tellYard_32 rfl ?_
          rw [n1]
          refine g_is2 (pc2 := 34) dX3_tellYard_33 (by decide) rfl ?_
          refine g_il1 (pc2 := 35) dX3_tellYard_34 rfl ?_
          refine g_iconst (pc2 := 36) dX3_tellYard_35 k_iconst_1 rfl ?_
          refine g_icmpN_lt 54 39 dX3_tellYard_36 rfl rfl (by omega) (by omega) (fun h36 => ?_) (fun h36 => ?_)
          · omega
          · refine g_il1 (pc2 := 40) dX3_tellYard_39 rfl ?_
            refine g_iconst (pc2 := 41) dX3_tellYard_40 k_iconst_3 rfl ?_
            refine g_icmpN_gt 54 44 dX3_tellYard_41 rfl rfl (by omega) (by omega) (fun h41 => ?_) (fun h41 => ?_)
            · omega
            · refine g_il2 (pc2 := 45) dX3_tellYard_44 rfl ?_
              refine g_iconst (pc2 := 46) dX3_tellYard_45 k_iconst_1 rfl ?_
              refine g_icmpN_lt 54 49 dX3_tellYard_46 rfl rfl (by omega) (by omega) (fun h46 => ?_) (fun h46 => ?_)
              · omega
              · refine g_il2 (pc2 := 50) dX3_tellYard_49 rfl ?_
                refine g_iconst (pc2 := 51) dX3_tellYard_50 k_iconst_4 rfl ?_
                refine g_icmpN_le 56 54 dX3_tellYard_51 rfl rfl (by omega) (by omega) (fun h51 => ?_) (fun h51 => ?_)
                · refine g_al0 (pc2 := 57) dX3_tellYard_56 rfl ?_
                  refine g_getr (pc2 := 60) (by rfl) (by rfl) flX3_23 dX3_tellYard_57 rfl ?_
                  refine g_il1 (pc2 := 61) dX3_tellYard_60 rfl ?_
                  refine g_puti (pc2 := 64) (by rfl) (by rfl) flX3_70 (fpX6_0 _) (fun h => by first | cases h | rfl) dX3_tellYard_61 rfl ?_
                  refine g_al0 (pc2 := 65) dX3_tellYard_64 rfl ?_
                  refine g_getr (pc2 := 68) (by rfl) (by rfl) flX3_23 dX3_tellYard_65 rfl ?_
                  refine g_il2 (pc2 := 69) dX3_tellYard_68 rfl ?_
                  refine g_puti (pc2 := 72) (by rfl) (by rfl) flX3_85 (fpX6_1 _) (fun h => by first | cases h | rfl) dX3_tellYard_69 rfl ?_
                  refine g_iconst (pc2 := 73) dX3_tellYard_72 k_iconst_1 rfl ?_
                  refine g_zret dX3_tellYard_73 rfl (bI_nar true) (Nat.le_refl _) (Nat.le_refl _) (tQ25_ok ((((FR25.rf σ).up _ _ (by decide)).up _ _ (by decide))) ?_)
                  refine ⟨⟨⟨?_, ?_, hC.1.1.2.2.1, hC.1.1.2.2.2⟩, fun k hk => ?_, fun i hi => ?_⟩, fun i hi => ?_⟩
                  · rfl
                  · rfl
                  · unfold rowYard; rw [u_ne _ _ (by omega), u_ne _ _ (by omega)]; exact hC.1.2.1 k hk
                  · unfold rowYard; rw [u_ne _ _ (by omega), u_ne _ _ (by omega), u_ne _ _ (by omega), u_ne _ _ (by omega), u_ne _ _ (by omega), u_ne _ _ (by omega)]; exact hC.1.2.2 i hi
                  · unfold rowYard; rw [u_ne _ _ (by omega), u_ne _ _ (by omega), u_ne _ _ (by omega), u_ne _ _ (by omega), u_ne _ _ (by omega), u_ne _ _ (by omega), u_ne _ _ (by omega), u_ne _ _ (by omega)]; exact hC.2 i hi
                · omega
        · exact absurd (hc.1.trans e0) h15
    · rw [if_neg hok]
      refine g_al0 (pc2 := 1) dX3_tellYard_0 rfl ?_
      refine g_geti (pc2 := 4) (by rfl) (by rfl) flX3_15 dX3_tellYard_1 rfl ?_
      rw [hsz]
      refine g_iconst (pc2 := 5) dX3_tellYard_4 k_iconst_2 rfl ?_
      refine g_icmpN_ne 18 8 dX3_tellYard_5 rfl rfl (by omega) (by omega) (fun h5 => ?_) (fun h5 => ?_)
      · exact absurd hlen h5
      · refine g_al0 (pc2 := 9) dX3_tellYard_8 rfl ?_
        refine g_getr (pc2 := 12) (by rfl) (by rfl) flX3_23 dX3_tellYard_9 rfl ?_
        refine g_geti (pc2 := 15) (by rfl) (by rfl) flX3_70 dX3_tellYard_12 rfl ?_
        rw [y0]
        refine g_if_eq 20 18 dX3_tellYard_15 rfl rfl (fun h15 => ?_) (fun h15 => ?_)
        · refine g_al0 (pc2 := 21) dX3_tellYard_20 rfl ?_
          refine g_getr (pc2 := 24) (by rfl) (by rfl) flX3_11 dX3_tellYard_21 rfl ?_
          refine g_iconst (pc2 := 25) dX3_tellYard_24 k_iconst_0 rfl ?_
          refine g_iald (pc2 := 26) (by rfl) (by omega) (by decide) dX3_tellYard_25 rfl ?_
          rw [n0]
          refine g_is1 (pc2 := 27) dX3_tellYard_26 (by decide) rfl ?_
          refine g_al0 (pc2 := 28) dX3_tellYard_27 rfl ?_
          refine g_getr (pc2 := 31) (by rfl) (by rfl) flX3_11 dX3_tellYard_28 rfl ?_
          refine g_iconst (pc2 := 32) dX3_tellYard_31 k_iconst_1 rfl ?_
          refine g_iald (pc2 := 33) (by rfl) (by omega) (by decide) dX3_tellYard_32 rfl ?_
          rw [n1]
          refine g_is2 (pc2 := 34) dX3_tellYard_33 (by decide) rfl ?_
          refine g_il1 (pc2 := 35) dX3_tellYard_34 rfl ?_
          refine g_iconst (pc2 := 36) dX3_tellYard_35 k_iconst_1 rfl ?_
          refine g_icmpN_lt 54 39 dX3_tellYard_36 rfl rfl (by omega) (by omega) (fun h36 => ?_) (fun h36 => ?_)
          · refine g_iconst (pc2 := 55) dX3_tellYard_54 k_iconst_0 rfl ?_
            exact g_zret dX3_tellYard_55 rfl (bI_nar false) (Nat.le_refl _) (Nat.le_refl _) tQ25_bad
          · refine g_il1 (pc2 := 40) dX3_tellYard_39 rfl ?_
            refine g_iconst (pc2 := 41) dX3_tellYard_40 k_iconst_3 rfl ?_
            refine g_icmpN_gt 54 44 dX3_tellYard_41 rfl rfl (by omega) (by omega) (fun h41 => ?_) (fun h41 => ?_)
            · refine g_iconst (pc2 := 55) dX3_tellYard_54 k_iconst_0 rfl ?_
              exact g_zret dX3_tellYard_55 rfl (bI_nar false) (Nat.le_refl _) (Nat.le_refl _) tQ25_bad
            · refine g_il2 (pc2 := 45) dX3_tellYard_44 rfl ?_
              refine g_iconst (pc2 := 46) dX3_tellYard_45 k_iconst_1 rfl ?_
              refine g_icmpN_lt 54 49 dX3_tellYard_46 rfl rfl (by omega) (by omega) (fun h46 => ?_) (fun h46 => ?_)
              · refine g_iconst (pc2 := 55) dX3_tellYard_54 k_iconst_0 rfl ?_
                exact g_zret dX3_tellYard_55 rfl (bI_nar false) (Nat.le_refl _) (Nat.le_refl _) tQ25_bad
              · refine g_il2 (pc2 := 50) dX3_tellYard_49 rfl ?_
                refine g_iconst (pc2 := 51) dX3_tellYard_50 k_iconst_4 rfl ?_
                refine g_icmpN_le 56 54 dX3_tellYard_51 rfl rfl (by omega) (by omega) (fun h51 => ?_) (fun h51 => ?_)
                · exact absurd (okY_iff.mpr ⟨h15.trans e0.symm, hlen, by omega, by omega, by omega, by omega⟩) hok
                · refine g_iconst (pc2 := 55) dX3_tellYard_54 k_iconst_0 rfl ?_
                  exact g_zret dX3_tellYard_55 rfl (bI_nar false) (Nat.le_refl _) (Nat.le_refl _) tQ25_bad
        · refine g_iconst (pc2 := 19) dX3_tellYard_18 k_iconst_0 rfl ?_
          exact g_zret dX3_tellYard_19 rfl (bI_nar false) (Nat.le_refl _) (Nat.le_refl _) tQ25_bad
  · rw [if_neg (fun q => hlen (okY_iff.mp q).2.1)]
    refine g_al0 (pc2 := 1) dX3_tellYard_0 rfl ?_
    refine g_geti (pc2 := 4) (by rfl) (by rfl) flX3_15 dX3_tellYard_1 rfl ?_
    rw [hsz]
    refine g_iconst (pc2 := 5) dX3_tellYard_4 k_iconst_2 rfl ?_
    refine g_icmpN_ne 18 8 dX3_tellYard_5 rfl rfl (by omega) (by omega) (fun h5 => ?_) (fun h5 => ?_)
    · refine g_iconst (pc2 := 19) dX3_tellYard_18 k_iconst_0 rfl ?_
      exact g_zret dX3_tellYard_19 rfl (bI_nar false) (Nat.le_refl _) (Nat.le_refl _) tQ25_bad
    · exact absurd h5 hlen
theorem R_c_tellGap25 (l : lt_L) (d : Nat) (t : lt_H) (σ : lt_S) {r : Nat → Int32} {ln T N : Nat} {ns : List Nat} (h : In25 σ r ln T N ns) (hr0 : ¬ r 0 = nI 0) : lt_R l (d + 1) 0 0 mX3_tellGap (lt_SC ++ t) σ [.ref 25] (tQ25 t σ (itemR r 4 ns)) := by
  obtain ⟨hW, hC, hns, hle, hl1, hl6⟩ := h
  refine lt_R.of [some (.ref 25)] rfl rfl (Nat.le_of_ble_eq_true rfl) ?_
  have hsz := hns.1
  have g0 := getD_le hle 0
  have n0 := hns.2 0 (by omega)
  rw [item4 hr0]
  by_cases hok : okGap ns = true
  · rw [if_pos hok]
    have hc := okG_iff.mp hok
    refine g_al0 (pc2 := 1) dX3_tellGap_0 rfl ?_
    refine g_geti (pc2 := 4) (by rfl) (by rfl) flX3_15 dX3_tellGap_1 rfl ?_
    rw [hsz]
    refine g_iconst (pc2 := 5) dX3_tellGap_4 k_iconst_1 rfl ?_
    refine g_icmpN_ne 19 8 dX3_tellGap_5 rfl rfl (by omega) (by omega) (fun h5 => ?_) (fun h5 => ?_)
    · exact absurd hc.1 h5
    · refine g_al0 (pc2 := 9) dX3_tellGap_8 rfl ?_
      refine g_getr (pc2 := 12) (by rfl) (by rfl) flX3_11 dX3_tellGap_9 rfl ?_
      refine g_iconst (pc2 := 13) dX3_tellGap_12 k_iconst_0 rfl ?_
      refine g_iald (pc2 := 14) (by rfl) (by omega) (by decide) dX3_tellGap_13 rfl ?_
      rw [n0]
      refine g_bipush (pc2 := 16) dX3_tellGap_14 k_bipush_9 rfl ?_
      refine g_icmpN_le 21 19 dX3_tellGap_16 rfl rfl (by omega) (by omega) (fun h16 => ?_) (fun h16 => ?_)
      · refine g_al0 (pc2 := 22) dX3_tellGap_21 rfl ?_
        refine g_getr (pc2 := 25) (by rfl) (by rfl) flX3_23 dX3_tellGap_22 rfl ?_
        refine g_al0 (pc2 := 26) dX3_tellGap_25 rfl ?_
        refine g_getr (pc2 := 29) (by rfl) (by rfl) flX3_11 dX3_tellGap_26 rfl ?_
        refine g_iconst (pc2 := 30) dX3_tellGap_29 k_iconst_0 rfl ?_
        refine g_iald (pc2 := 31) (by rfl) (by omega) (by decide) dX3_tellGap_30 rfl ?_
        rw [n0]
        refine g_puti (pc2 := 34) (by rfl) (by rfl) flX3_129 (fpX6_3 _) (fun h => by first | cases h | rfl) dX3_tellGap_31 rfl ?_
        refine g_iconst (pc2 := 35) dX3_tellGap_34 k_iconst_1 rfl ?_
        refine g_zret dX3_tellGap_35 rfl (bI_nar true) (Nat.le_refl _) (Nat.le_refl _) (tQ25_ok ((FR25.rf σ).up _ _ (by decide)) ?_)
        refine ⟨⟨⟨hC.1.1.1, hC.1.1.2.1, hC.1.1.2.2.1, rfl⟩, fun k hk => ?_, fun i hi => ?_⟩, fun i hi => ?_⟩
        · unfold rowGap; rw [u_ne _ _ (by omega)]; exact hC.1.2.1 k hk
        · unfold rowGap; rw [u_ne _ _ (by omega), u_ne _ _ (by omega), u_ne _ _ (by omega)]; exact hC.1.2.2 i hi
        · unfold rowGap; rw [u_ne _ _ (by omega), u_ne _ _ (by omega), u_ne _ _ (by omega), u_ne _ _ (by omega)]; exact hC.2 i hi
      · omega
  · rw [if_neg hok]
    refine g_al0 (pc2 := 1) dX3_tellGap_0 rfl ?_
    refine g_geti (pc2 := 4) (by rfl) (by rfl) flX3_15 dX3_tellGap_1 rfl ?_
    rw [hsz]
    refine g_iconst (pc2 := 5) dX3_tellGap_4 k_iconst_1 rfl ?_
    refine g_icmpN_ne 19 8 dX3_tellGap_5 rfl rfl (by omega) (by omega) (fun h5 => ?_) (fun h5 => ?_)
    · refine g_iconst (pc2 := 20) dX3_tellGap_19 k_iconst_0 rfl ?_
      exact g_zret dX3_tellGap_20 rfl (bI_nar false) (Nat.le_refl _) (Nat.le_refl _) tQ25_bad
    · refine g_al0 (pc2 := 9) dX3_tellGap_8 rfl ?_
      refine g_getr (pc2 := 12) (by rfl) (by rfl) flX3_11 dX3_tellGap_9 rfl ?_
      refine g_iconst (pc2 := 13) dX3_tellGap_12 k_iconst_0 rfl ?_
      refine g_iald (pc2 := 14) (by rfl) (by omega) (by decide) dX3_tellGap_13 rfl ?_
      rw [n0]
      refine g_bipush (pc2 := 16) dX3_tellGap_14 k_bipush_9 rfl ?_
      refine g_icmpN_le 21 19 dX3_tellGap_16 rfl rfl (by omega) (by omega) (fun h16 => ?_) (fun h16 => ?_)
      · exact absurd (okG_iff.mpr ⟨h5, by omega⟩) hok
      · refine g_iconst (pc2 := 20) dX3_tellGap_19 k_iconst_0 rfl ?_
        exact g_zret dX3_tellGap_20 rfl (bI_nar false) (Nat.le_refl _) (Nat.le_refl _) tQ25_bad
theorem R_c_tellPair25 (l : lt_L) (d : Nat) (t : lt_H) (σ : lt_S) {r : Nat → Int32} {ln T N : Nat} {ns : List Nat} (h : In25 σ r ln T N ns) (hr0 : ¬ r 0 = nI 0) : lt_R l (d + 2) 0 0 mX3_tellPair (lt_SC ++ t) σ [.ref 25] (tQ25 t σ (itemR r 3 ns)) := by
  obtain ⟨hW, hC, hns, hle, hl1, hl6⟩ := h
  refine lt_R.of [some (.ref 25), none, none] rfl rfl (Nat.le_of_ble_eq_true rfl) ?_
  have hsz := hns.1
  have g0 := getD_le hle 0
  have g1 := getD_le hle 1
  have eN := hW.e.2.2
  have hN7 := hW.2.2.1.2
  have y2 : σ 26 2 = nI N := hC.1.1.2.2.1.trans hW.2.2.1.1
  rw [item3 hr0]
  by_cases hlen : ns.length = 2
  · have n0 := hns.2 0 (by omega)
    have n1 := hns.2 1 (by omega)
    generalize hi : ns.getD 0 0 = i at *
    generalize hj : ns.getD 1 0 = j at *
    have m0 : i < N → σ 30 i = r (16 + 7 * i + 5) := fun h => (hC.1.2.2 i (by omega)).2.2
    have m1 : j < N → σ 30 j = r (16 + 7 * j + 5) := fun h => (hC.1.2.2 j (by omega)).2.2
    have hd : ∀ k, k ≤ 99 → hasB (nI k) (σ 26 2) = decide (k < N) := fun k hk => by rw [y2]; exact hasB_nI (by omega) (by omega)
    by_cases hok : okPair r ns = true
    · rw [if_pos hok]
      have hc := okPr_iff.mp hok
      rw [hi, hj, eN] at hc
      have hr : rowPair r ns = upd (upd r (16 + 7 * i + 5) (nI j)) (16 + 7 * j + 5) (nI i) := by unfold rowPair; rw [hi, hj]
      rw [hr]
      refine g_al0 (pc2 := 1) dX3_tellPair_0 rfl ?_
      refine g_getr (pc2 := 4) (by rfl) (by rfl) flX3_11 dX3_tellPair_1 rfl ?_
      refine g_iconst (pc2 := 5) dX3_tellPair_4 k_iconst_0 rfl ?_
      refine g_iald (pc2 := 6) (by rfl) (by omega) (by decide) dX3_tellPair_5 rfl ?_
      rw [n0]
      refine g_is1 (pc2 := 7) dX3_tellPair_6 (by decide) rfl ?_
      refine g_al0 (pc2 := 8) dX3_tellPair_7 rfl ?_
      refine g_getr (pc2 := 11) (by rfl) (by rfl) flX3_11 dX3_tellPair_8 rfl ?_
      refine g_iconst (pc2 := 12) dX3_tellPair_11 k_iconst_1 rfl ?_
      refine g_iald (pc2 := 13) (by rfl) (by omega) (by decide) dX3_tellPair_12 rfl ?_
      rw [n1]
      refine g_is2 (pc2 := 14) dX3_tellPair_13 (by decide) rfl ?_
      refine g_al0 (pc2 := 15) dX3_tellPair_14 rfl ?_
      refine g_geti (pc2 := 18) (by rfl) (by rfl) flX3_15 dX3_tellPair_15 rfl ?_
      rw [hsz]
      refine g_iconst (pc2 := 19) dX3_tellPair_18 k_iconst_2 rfl ?_
      refine g_icmpN_ne 49 22 dX3_tellPair_19 rfl rfl (by omega) (by omega) (fun h19 => ?_) (fun h19 => ?_)
      · exact absurd hlen h19
      · refine g_il1 (pc2 := 23) dX3_tellPair_22 rfl ?_
        refine g_il2 (pc2 := 24) dX3_tellPair_23 rfl ?_
        refine g_icmpN_eq 49 27 dX3_tellPair_24 rfl rfl (by omega) (by omega) (fun h24 => ?_) (fun h24 => ?_)
        · exact absurd h24 hc.2.1
        · refine g_al0 (pc2 := 28) dX3_tellPair_27 rfl ?_
          refine g_getr (pc2 := 31) (by rfl) (by rfl) flX3_23 dX3_tellPair_28 rfl ?_
          refine g_il1 (pc2 := 32) dX3_tellPair_31 rfl ?_
          refine g_cVi (pc2 := 35) (R_c_hasTrain26 l d _ _ _) meX6_hasTrain mlX3_126 (by rfl) ⟨_, rfl, rfl⟩ rfl rfl (by simp) ⟨Nat.le_refl _, Nat.le_refl _⟩ dX3_tellPair_32 rfl ?_
          rw [hd i g0]
          refine g_if_eqB 49 38 dX3_tellPair_35 rfl rfl (fun h35 => ?_) (fun h35 => ?_)
          · exact absurd hc.2.2.1 (of_decide_eq_false h35)
          · refine g_al0 (pc2 := 39) dX3_tellPair_38 rfl ?_
            refine g_getr (pc2 := 42) (by rfl) (by rfl) flX3_23 dX3_tellPair_39 rfl ?_
            refine g_il2 (pc2 := 43) dX3_tellPair_42 rfl ?_
            refine g_cVi (pc2 := 46) (R_c_hasTrain26 l d _ _ _) meX6_hasTrain mlX3_126 (by rfl) ⟨_, rfl, rfl⟩ rfl rfl (by simp) ⟨Nat.le_refl _, Nat.le_refl _⟩ dX3_tellPair_43 rfl ?_
            rw [hd j g1]
            refine g_if_neB 51 49 dX3_tellPair_46 rfl rfl (fun h46 => ?_) (fun h46 => ?_)
            · refine g_al0 (pc2 := 52) dX3_tellPair_51 rfl ?_
              refine g_getr (pc2 := 55) (by rfl) (by rfl) flX3_23 dX3_tellPair_52 rfl ?_
              refine g_getr (pc2 := 58) (by rfl) (by rfl) flX3_109 dX3_tellPair_55 rfl ?_
              refine g_il1 (pc2 := 59) dX3_tellPair_58 rfl ?_
              refine g_iald (pc2 := 60) (by rfl) (by omega) (by decide) dX3_tellPair_59 rfl ?_
              rw [m0 hc.2.2.1]
              refine g_bipush (pc2 := 62) dX3_tellPair_60 k_bipush_m4 rfl ?_
              refine g_icmp_ne 79 65 dX3_tellPair_62 rfl rfl (fun h62 => ?_) (fun h62 => ?_)
              · exact absurd hc.2.2.2.2.1 h62
              · refine g_al0 (pc2 := 66) dX3_tellPair_65 rfl ?_
                refine g_getr (pc2 := 69) (by rfl) (by rfl) flX3_23 dX3_tellPair_66 rfl ?_
                refine g_getr (pc2 := 72) (by rfl) (by rfl) flX3_109 dX3_tellPair_69 rfl ?_
                refine g_il2 (pc2 := 73) dX3_tellPair_72 rfl ?_
                refine g_iald (pc2 := 74) (by rfl) (by omega) (by decide) dX3_tellPair_73 rfl ?_
                rw [m1 hc.2.2.2.1]
                refine g_bipush (pc2 := 76) dX3_tellPair_74 k_bipush_m4 rfl ?_
                refine g_icmp_eq 81 79 dX3_tellPair_76 rfl rfl (fun h76 => ?_) (fun h76 => ?_)
                · refine g_al0 (pc2 := 82) dX3_tellPair_81 rfl ?_
                  refine g_getr (pc2 := 85) (by rfl) (by rfl) flX3_23 dX3_tellPair_82 rfl ?_
                  refine g_getr (pc2 := 88) (by rfl) (by rfl) flX3_109 dX3_tellPair_85 rfl ?_
                  refine g_il1 (pc2 := 89) dX3_tellPair_88 rfl ?_
                  refine g_il2 (pc2 := 90) dX3_tellPair_89 rfl ?_
                  refine g_iast (pc2 := 91) (by rfl) (by omega) (by decide) dX3_tellPair_90 rfl ?_
                  refine g_al0 (pc2 := 92) dX3_tellPair_91 rfl ?_
                  refine g_getr (pc2 := 95) (by rfl) (by rfl) flX3_23 dX3_tellPair_92 rfl ?_
                  refine g_getr (pc2 := 98) (by rfl) (by rfl) flX3_109 dX3_tellPair_95 rfl ?_
                  refine g_il2 (pc2 := 99) dX3_tellPair_98 rfl ?_
                  refine g_il1 (pc2 := 100) dX3_tellPair_99 rfl ?_
                  refine g_iast (pc2 := 101) (by rfl) (by omega) (by decide) dX3_tellPair_100 rfl ?_
                  refine g_iconst (pc2 := 102) dX3_tellPair_101 k_iconst_1 rfl ?_
                  refine g_zret dX3_tellPair_102 rfl (bI_nar true) (Nat.le_refl _) (Nat.le_refl _) (tQ25_ok (((FR25.rf σ).up _ _ (by decide)).up _ _ (by decide)) ?_)
                  have e2 : upd (upd r (16 + 7 * i + 5) (nI j)) (16 + 7 * j + 5) (nI i) 2 = r 2 := by rw [u_ne _ _ (by omega), u_ne _ _ (by omega)]
                  unfold CR25
                  rw [e2]
                  refine ⟨⟨⟨?_, ?_, ?_, ?_⟩, fun k hk => ?_, fun q hq => ⟨?_, ?_, ?_⟩⟩, fun q hq => ?_⟩
                  · rw [u_ne _ _ (by omega), u_ne _ _ (by omega)]; exact hC.1.1.1
                  · rw [u_ne _ _ (by omega), u_ne _ _ (by omega)]; exact hC.1.1.2.1
                  · rw [u_ne _ _ (by omega), u_ne _ _ (by omega)]; exact hC.1.1.2.2.1
                  · rw [u_ne _ _ (by omega), u_ne _ _ (by omega)]; exact hC.1.1.2.2.2
                  · rw [u_ne _ _ (by omega), u_ne _ _ (by omega)]; exact hC.1.2.1 k hk
                  · rw [u_ne _ _ (by omega), u_ne _ _ (by omega)]; exact (hC.1.2.2 q hq).1
                  · rw [u_ne _ _ (by omega), u_ne _ _ (by omega)]; exact (hC.1.2.2 q hq).2.1
                  · show lt_up (lt_up σ 30 i (nI j)) 30 j (nI i) 30 q = _
                    by_cases c2 : q = j
                    · subst c2; rw [lt_up_at, u_at]
                    · rw [lt_up_ne _ _ _ c2, u_ne _ _ (by omega)]
                      by_cases c1 : q = i
                      · subst c1; rw [lt_up_at, u_at]
                      · rw [lt_up_ne _ _ _ c1, u_ne _ _ (by omega)]; exact (hC.1.2.2 q hq).2.2
                  · rw [u_ne _ _ (by omega), u_ne _ _ (by omega), u_ne _ _ (by omega), u_ne _ _ (by omega), u_ne _ _ (by omega), u_ne _ _ (by omega), u_ne _ _ (by omega), u_ne _ _ (by omega)]; exact hC.2 q hq
                · exact absurd hc.2.2.2.2.2 h76
            · exact absurd hc.2.2.2.1 (of_decide_eq_false h46)
    · rw [if_neg hok]
      have hno : ¬ (¬ i = j ∧ i < N ∧ j < N ∧ r (16 + 7 * i + 5) = -4 ∧ r (16 + 7 * j + 5) = -4) := by
        intro q
        apply hok
        rw [okPr_iff, hi, hj, eN]
        exact ⟨hlen, q⟩
      refine g_al0 (pc2 := 1) dX3_tellPair_0 rfl ?_
      refine g_getr (pc2 := 4) (by rfl) (by rfl) flX3_11 dX3_tellPair_1 rfl ?_
      refine g_iconst (pc2 := 5) dX3_tellPair_4 k_iconst_0 rfl ?_
      refine g_iald (pc2 := 6) (by rfl) (by omega) (by decide) dX3_tellPair_5 rfl ?_
      rw [n0]
      refine g_is1 (pc2 := 7) dX3_tellPair_6 (by decide) rfl ?_
      refine g_al0 (pc2 := 8) dX3_tellPair_7 rfl ?_
      refine g_getr (pc2 := 11) (by rfl) (by rfl) flX3_11 dX3_tellPair_8 rfl ?_
      refine g_iconst (pc2 := 12) dX3_tellPair_11 k_iconst_1 rfl ?_
      refine g_iald (pc2 := 13) (by rfl) (by omega) (by decide) dX3_tellPair_12 rfl ?_
      rw [n1]
      refine g_is2 (pc2 := 14) dX3_tellPair_13 (by decide) rfl ?_
      refine g_al0 (pc2 := 15) dX3_tellPair_14 rfl ?_
      refine g_geti (pc2 := 18) (by rfl) (by rfl) flX3_15 dX3_tellPair_15 rfl ?_
      rw [hsz]
      refine g_iconst (pc2 := 19) dX3_tellPair_18 k_iconst_2 rfl ?_
      refine g_icmpN_ne 49 22 dX3_tellPair_19 rfl rfl (by omega) (by omega) (fun h19 => ?_) (fun h19 => ?_)
      · exact absurd hlen h19
      · refine g_il1 (pc2 := 23) dX3_tellPair_22 rfl ?_
        refine g_il2 (pc2 := 24) dX3_tellPair_23 rfl ?_
        refine g_icmpN_eq 49 27 dX3_tellPair_24 rfl rfl (by omega) (by omega) (fun h24 => ?_) (fun h24 => ?_)
        · refine g_iconst (pc2 := 50) dX3_tellPair_49 k_iconst_0 rfl ?_
          exact g_zret dX3_tellPair_50 rfl (bI_nar false) (Nat.le_refl _) (Nat.le_refl _) tQ25_bad
        · refine g_al0 (pc2 := 28) dX3_tellPair_27 rfl ?_
          refine g_getr (pc2 := 31) (by rfl) (by rfl) flX3_23 dX3_tellPair_28 rfl ?_
          refine g_il1 (pc2 := 32) dX3_tellPair_31 rfl ?_
          refine g_cVi (pc2 := 35) (R_c_hasTrain26 l d _ _ _) meX6_hasTrain mlX3_126 (by rfl) ⟨_, rfl, rfl⟩ rfl rfl (by simp) ⟨Nat.le_refl _, Nat.le_refl _⟩ dX3_tellPair_32 rfl ?_
          rw [hd i g0]
          refine g_if_eqB 49 38 dX3_tellPair_35 rfl rfl (fun h35 => ?_) (fun h35 => ?_)
          · refine g_iconst (pc2 := 50) dX3_tellPair_49 k_iconst_0 rfl ?_
            exact g_zret dX3_tellPair_50 rfl (bI_nar false) (Nat.le_refl _) (Nat.le_refl _) tQ25_bad
          · refine g_al0 (pc2 := 39) dX3_tellPair_38 rfl ?_
            refine g_getr (pc2 := 42) (by rfl) (by rfl) flX3_23 dX3_tellPair_39 rfl ?_
            refine g_il2 (pc2 := 43) dX3_tellPair_42 rfl ?_
            refine g_cVi (pc2 := 46) (R_c_hasTrain26 l d _ _ _) meX6_hasTrain mlX3_126 (by rfl) ⟨_, rfl, rfl⟩ rfl rfl (by simp) ⟨Nat.le_refl _, Nat.le_refl _⟩ dX3_tellPair_43 rfl ?_
            rw [hd j g1]
            refine g_if_neB 51 49 dX3_tellPair_46 rfl rfl (fun h46 => ?_) (fun h46 => ?_)
            · have hi7 := of_decide_eq_true h35
              have hj7 := of_decide_eq_true h46
              refine g_al0 (pc2 := 52) dX3_tellPair_51 rfl ?_
              refine g_getr (pc2 := 55) (by rfl) (by rfl) flX3_23 dX3_tellPair_52 rfl ?_
              refine g_getr (pc2 := 58) (by rfl) (by rfl) flX3_109 dX3_tellPair_55 rfl ?_
              refine g_il1 (pc2 := 59) dX3_tellPair_58 rfl ?_
              refine g_iald (pc2 := 60) (by rfl) (by omega) (by decide) dX3_tellPair_59 rfl ?_
              rw [m0 hi7]
              refine g_bipush (pc2 := 62) dX3_tellPair_60 k_bipush_m4 rfl ?_
              refine g_icmp_ne 79 65 dX3_tellPair_62 rfl rfl (fun h62 => ?_) (fun h62 => ?_)
              · refine g_iconst (pc2 := 80) dX3_tellPair_79 k_iconst_0 rfl ?_
                exact g_zret dX3_tellPair_80 rfl (bI_nar false) (Nat.le_refl _) (Nat.le_refl _) tQ25_bad
              · refine g_al0 (pc2 := 66) dX3_tellPair_65 rfl ?_
                refine g_getr (pc2 := 69) (by rfl) (by rfl) flX3_23 dX3_tellPair_66 rfl ?_
                refine g_getr (pc2 := 72) (by rfl) (by rfl) flX3_109 dX3_tellPair_69 rfl ?_
                refine g_il2 (pc2 := 73) dX3_tellPair_72 rfl ?_
                refine g_iald (pc2 := 74) (by rfl) (by omega) (by decide) dX3_tellPair_73 rfl ?_
                rw [m1 hj7]
                refine g_bipush (pc2 := 76) dX3_tellPair_74 k_bipush_m4 rfl ?_
                refine g_icmp_eq 81 79 dX3_tellPair_76 rfl rfl (fun h76 => ?_) (fun h76 => ?_)
                · exact absurd ⟨h24, hi7, hj7, h62, h76⟩ hno
                · refine g_iconst (pc2 := 80) dX3_tellPair_79 k_iconst_0 rfl ?_
                  exact g_zret dX3_tellPair_80 rfl (bI_nar false) (Nat.le_refl _) (Nat.le_refl _) tQ25_bad
            · refine g_iconst (pc2 := 50) dX3_tellPair_49 k_iconst_0 rfl ?_
              exact g_zret dX3_tellPair_50 rfl (bI_nar false) (Nat.le_refl _) (Nat.le_refl _) tQ25_bad
  · rw [if_neg (fun q => hlen (okPr_iff.mp q).1)]
    refine g_al0 (pc2 := 1) dX3_tellPair_0 rfl ?_
    refine g_getr (pc2 := 4) (by rfl) (by rfl) flX3_11 dX3_tellPair_1 rfl ?_
    refine g_iconst (pc2 := 5) dX3_tellPair_4 k_iconst_0 rfl ?_
    refine g_iald (pc2 := 6) (by rfl) (by omega) (by decide) dX3_tellPair_5 rfl ?_
    refine g_is1 (pc2 := 7) dX3_tellPair_6 (by decide) rfl ?_
    refine g_al0 (pc2 := 8) dX3_tellPair_7 rfl ?_
    refine g_getr (pc2 := 11) (by rfl) (by rfl) flX3_11 dX3_tellPair_8 rfl ?_
    refine g_iconst (pc2 := 12) dX3_tellPair_11 k_iconst_1 rfl ?_
    refine g_iald (pc2 := 13) (by rfl) (by omega) (by decide) dX3_tellPair_12 rfl ?_
    refine g_is2 (pc2 := 14) dX3_tellPair_13 (by decide) rfl ?_
    refine g_al0 (pc2 := 15) dX3_tellPair_14 rfl ?_
    refine g_geti (pc2 := 18) (by rfl) (by rfl) flX3_15 dX3_tellPair_15 rfl ?_
    rw [hsz]
    refine g_iconst (pc2 := 19) dX3_tellPair_18 k_iconst_2 rfl ?_
    refine g_icmpN_ne 49 22 dX3_tellPair_19 rfl rfl (by omega) (by omega) (fun h19 => ?_) (fun h19 => ?_)
    · refine g_iconst (pc2 := 50) dX3_tellPair_49 k_iconst_0 rfl ?_
      exact g_zret dX3_tellPair_50 rfl (bI_nar false) (Nat.le_refl _) (Nat.le_refl _) tQ25_bad
    · exact absurd h19 hlen
theorem R_c_tellPath25 (l : lt_L) (d : Nat) (t : lt_H) (σ : lt_S) {r : Nat → Int32} {ln T N : Nat} {ns : List Nat} (h : In25 σ r ln T N ns) (hr0 : ¬ r 0 = nI 0) : lt_R l (d + 2) 0 0 mX3_tellPath (lt_SC ++ t) σ [.ref 25] (tQ25 t σ (itemR r 1 ns)) := by
  obtain ⟨hW, hC, hns, hle, hl1, hl6⟩ := h
  refine lt_R.of [some (.ref 25), none, none] rfl rfl (Nat.le_of_ble_eq_true rfl) ?_
  have hsz := hns.1
  have g0 := getD_le hle 0
  have g1 := getD_le hle 1
  have hln := hW.1.2
  have hT4 := hW.2.1.2
  have e0 := hW.e.1
  have e1 := hW.e.2.1
  have n0 := hns.2 0 (by omega)
  have y0 : σ 26 0 = nI ln := hC.1.1.1.trans hW.1.1
  have y1 : σ 26 1 = nI T := hC.1.1.2.1.trans hW.2.1.1
  have hd0 : hasB (nI (ns.getD 0 0)) (σ 26 0) = decide (ns.getD 0 0 < ln) := by rw [y0]; exact hasB_nI (by omega) (by omega)
  have hd1 : hasB (nI (ns.getD 1 0)) (σ 26 1) = decide (ns.getD 1 0 < T) := by rw [y1]; exact hasB_nI (by omega) (by omega)
  rw [item1 hr0]
  by_cases hlen : 2 ≤ ns.length
  · have n1 := hns.2 1 (by omega)
    by_cases hA : ns.getD 0 0 < ln ∧ ns.getD 1 0 < T
    · have hrt : σ 27 (ns.getD 0 0 * 4 + ns.getD 1 0) = r (4 + 4 * ns.getD 0 0 + ns.getD 1 0) := by
        have := hC.1.2.1 (ns.getD 0 0 * 4 + ns.getD 1 0) (by omega)
        rw [show 4 + (ns.getD 0 0 * 4 + ns.getD 1 0) = 4 + 4 * ns.getD 0 0 + ns.getD 1 0 by omega] at this
        exact this
      have key : ∀ j, j ≤ ns.length - 2 → allB (fun k => decide (ns.getD (k + 2) 0 < 12)) j = true → lt_G l (d + 2) 0 0 mX3_tellPath 0 0 (lt_SC ++ t) σ 46 [some (.ref 25), some (.int (orF (fun k => nI 1 <<< (nI (ns.getD (k + 2) 0) &&& 31)) j)), some (.int (nI (2 + j)))] [] (tQ25 t σ (if okPath r ns then some (rowPath r ns) else none)) := by
        refine lt_dn (ns.length - 2) ?_ ?_
        · intro hal
          by_cases hfree : r (4 + 4 * ns.getD 0 0 + ns.getD 1 0) = -4
          · rw [if_pos (okPt_iff.mpr ⟨hlen, by rw [e0]; exact hA.1, by rw [e1]; exact hA.2, hfree, hal⟩)]
            refine g_il2 (pc2 := 47) dX3_tellPath_46 rfl ?_
            refine g_al0 (pc2 := 48) dX3_tellPath_47 rfl ?_
            refine g_geti (pc2 := 51) (by rfl) (by rfl) flX3_15 dX3_tellPath_48 rfl ?_
            rw [hsz]
            refine g_icmpN_ge 84 54 dX3_tellPath_51 rfl rfl (by omega) (by omega) (fun h51 => ?_) (fun h51 => ?_)
            · refine g_al0 (pc2 := 85) dX3_tellPath_84 rfl ?_
              refine g_getr (pc2 := 88) (by rfl) (by rfl) flX3_11 dX3_tellPath_85 rfl ?_
              refine g_iconst (pc2 := 89) dX3_tellPath_88 k_iconst_0 rfl ?_
              refine g_iald (pc2 := 90) (by rfl) (by omega) (by decide) dX3_tellPath_89 rfl ?_
              rw [n0]
              refine g_iconst (pc2 := 91) dX3_tellPath_90 k_iconst_4 rfl ?_
              refine g_imulN (pc2 := 92) dX3_tellPath_91 rfl ?_
              refine g_al0 (pc2 := 93) dX3_tellPath_92 rfl ?_
              refine g_getr (pc2 := 96) (by rfl) (by rfl) flX3_11 dX3_tellPath_93 rfl ?_
              refine g_iconst (pc2 := 97) dX3_tellPath_96 k_iconst_1 rfl ?_
              refine g_iald (pc2 := 98) (by rfl) (by omega) (by decide) dX3_tellPath_97 rfl ?_
              rw [n1]
              refine g_iaddN (pc2 := 99) dX3_tellPath_98 rfl ?_
              refine g_is2 (pc2 := 100) dX3_tellPath_99 (by decide) rfl ?_
              refine g_al0 (pc2 := 101) dX3_tellPath_100 rfl ?_
              refine g_getr (pc2 := 104) (by rfl) (by rfl) flX3_23 dX3_tellPath_101 rfl ?_
              refine g_getr (pc2 := 107) (by rfl) (by rfl) flX3_94 dX3_tellPath_104 rfl ?_
              refine g_il2 (pc2 := 108) dX3_tellPath_107 rfl ?_
              refine g_iald (pc2 := 109) (by rfl) (by omega) (by decide) dX3_tellPath_108 rfl ?_
              rw [hrt]
              refine g_bipush (pc2 := 111) dX3_tellPath_109 k_bipush_m4 rfl ?_
              refine g_icmp_eq 116 114 dX3_tellPath_111 rfl rfl (fun h111 => ?_) (fun h111 => ?_)
              · refine g_al0 (pc2 := 117) dX3_tellPath_116 rfl ?_
                refine g_getr (pc2 := 120) (by rfl) (by rfl) flX3_23 dX3_tellPath_117 rfl ?_
                refine g_getr (pc2 := 123) (by rfl) (by rfl) flX3_94 dX3_tellPath_120 rfl ?_
                refine g_il2 (pc2 := 124) dX3_tellPath_123 rfl ?_
                refine g_il1 (pc2 := 125) dX3_tellPath_124 rfl ?_
                refine g_iast (pc2 := 126) (by rfl) (by omega) (by decide) dX3_tellPath_125 rfl ?_
                refine g_iconst (pc2 := 127) dX3_tellPath_126 k_iconst_1 rfl ?_
                refine g_zret dX3_tellPath_127 rfl (bI_nar true) (Nat.le_refl _) (Nat.le_refl _) (tQ25_ok ((FR25.rf σ).up _ _ (by decide)) ?_)
                have e2 : rowPath r ns 2 = r 2 := by unfold rowPath; rw [u_ne _ _ (by omega)]
                unfold CR25
                rw [e2]
                unfold rowPath
                refine ⟨⟨⟨?_, ?_, ?_, ?_⟩, fun k hk => ?_, fun q hq => ?_⟩, fun q hq => ?_⟩
                · rw [u_ne _ _ (by omega)]; exact hC.1.1.1
                · rw [u_ne _ _ (by omega)]; exact hC.1.1.2.1
                · rw [u_ne _ _ (by omega)]; exact hC.1.1.2.2.1
                · rw [u_ne _ _ (by omega)]; exact hC.1.1.2.2.2
                · show lt_up σ 27 (ns.getD 0 0 * 4 + ns.getD 1 0) _ 27 k = _
                  by_cases ck : k = ns.getD 0 0 * 4 + ns.getD 1 0
                  · rw [ck, lt_up_at, show 4 + (ns.getD 0 0 * 4 + ns.getD 1 0) = 4 + 4 * ns.getD 0 0 + ns.getD 1 0 by omega, u_at]; rfl
                  · rw [lt_up_ne _ _ _ ck, u_ne _ _ (by omega)]; exact hC.1.2.1 k hk
                · rw [u_ne _ _ (by omega), u_ne _ _ (by omega), u_ne _ _ (by omega)]; exact hC.1.2.2 q hq
                · rw [u_ne _ _ (by omega), u_ne _ _ (by omega), u_ne _ _ (by omega), u_ne _ _ (by omega)]; exact hC.2 q hq
              · exact absurd hfree h111
            · omega
          · rw [if_neg (fun q => hfree (okPt_iff.mp q).2.2.2.1)]
            refine g_il2 (pc2 := 47) dX3_tellPath_46 rfl ?_
            refine g_al0 (pc2 := 48) dX3_tellPath_47 rfl ?_
            refine g_geti (pc2 := 51) (by rfl) (by rfl) flX3_15 dX3_tellPath_48 rfl ?_
            rw [hsz]
            refine g_icmpN_ge 84 54 dX3_tellPath_51 rfl rfl (by omega) (by omega) (fun h51 => ?_) (fun h51 => ?_)
            · refine g_al0 (pc2 := 85) dX3_tellPath_84 rfl ?_
              refine g_getr (pc2 := 88) (by rfl) (by rfl) flX3_11 dX3_tellPath_85 rfl ?_
              refine g_iconst (pc2 := 89) dX3_tellPath_88 k_iconst_0 rfl ?_
              refine g_iald (pc2 := 90) (by rfl) (by omega) (by decide) dX3_tellPath_89 rfl ?_
              rw [n0]
              refine g_iconst (pc2 := 91) dX3_tellPath_90 k_iconst_4 rfl ?_
              refine g_imulN (pc2 := 92) dX3_tellPath_91 rfl ?_
              refine g_al0 (pc2 := 93) dX3_tellPath_92 rfl ?_
              refine g_getr (pc2 := 96) (by rfl) (by rfl) flX3_11 dX3_tellPath_93 rfl ?_
              refine g_iconst (pc2 := 97) dX3_tellPath_96 k_iconst_1 rfl ?_
              refine g_iald (pc2 := 98) (by rfl) (by omega) (by decide) dX3_tellPath_97 rfl ?_
              rw [n1]
              refine g_iaddN (pc2 := 99) dX3_tellPath_98 rfl ?_
              refine g_is2 (pc2 := 100) dX3_tellPath_99 (by decide) rfl ?_
              refine g_al0 (pc2 := 101) dX3_tellPath_100 rfl ?_
              refine g_getr (pc2 := 104) (by rfl) (by rfl) flX3_23 dX3_tellPath_101 rfl ?_
              refine g_getr (pc2 := 107) (by rfl) (by rfl) flX3_94 dX3_tellPath_104 rfl ?_
              refine g_il2 (pc2 := 108) dX3_tellPath_107 rfl ?_
              refine g_iald (pc2 := 109) (by rfl) (by omega) (by decide) dX3_tellPath_108 rfl ?_
              rw [hrt]
              refine g_bipush (pc2 := 111) dX3_tellPath_109 k_bipush_m4 rfl ?_
              refine g_icmp_eq 116 114 dX3_tellPath_111 rfl rfl (fun h111 => ?_) (fun h111 => ?_)
              · exact absurd h111 hfree
              · refine g_iconst (pc2 := 115) dX3_tellPath_114 k_iconst_0 rfl ?_
                exact g_zret dX3_tellPath_115 rfl (bI_nar false) (Nat.le_refl _) (Nat.le_refl _) tQ25_bad
            · omega
        · intro j hj ih hal
          have nj := hns.2 (2 + j) (by omega)
          have gj := getD_le hle (j + 2)
          rw [show ns.getD (2 + j) 0 = ns.getD (j + 2) 0 by rw [Nat.add_comm]] at nj
          by_cases h12 : ns.getD (j + 2) 0 < 12
          · have ih2 := ih (allB_s hal (decide_eq_true h12))
            simp only [orF] at ih2
            refine g_il2 (pc2 := 47) dX3_tellPath_46 rfl ?_
            refine g_al0 (pc2 := 48) dX3_tellPath_47 rfl ?_
            refine g_geti (pc2 := 51) (by rfl) (by rfl) flX3_15 dX3_tellPath_48 rfl ?_
            rw [hsz]
            refine g_icmpN_ge 84 54 dX3_tellPath_51 rfl rfl (by omega) (by omega) (fun h51 => ?_) (fun h51 => ?_)
            · omega
            · refine g_al0 (pc2 := 55) dX3_tellPath_54 rfl ?_
              refine g_getr (pc2 := 58) (by rfl) (by rfl) flX3_11 dX3_tellPath_55 rfl ?_
              refine g_il2 (pc2 := 59) dX3_tellPath_58 rfl ?_
              refine g_iald (pc2 := 60) (by rfl) (by omega) (by decide) dX3_tellPath_59 rfl ?_
              rw [nj]
              refine g_bipush (pc2 := 62) dX3_tellPath_60 k_bipush_12 rfl ?_
              refine g_icmpN_lt 67 65 dX3_tellPath_62 rfl rfl (by omega) (by omega) (fun h62 => ?_) (fun h62 => ?_)
              · refine g_il1 (pc2 := 68) dX3_tellPath_67 rfl ?_
                refine g_iconst (pc2 := 69) dX3_tellPath_68 k_iconst_1 rfl ?_
                refine g_al0 (pc2 := 70) dX3_tellPath_69 rfl ?_
                refine g_getr (pc2 := 73) (by rfl) (by rfl) flX3_11 dX3_tellPath_70 rfl ?_
                refine g_il2 (pc2 := 74) dX3_tellPath_73 rfl ?_
                refine g_iald (pc2 := 75) (by rfl) (by omega) (by decide) dX3_tellPath_74 rfl ?_
                rw [nj]
                refine g_ishl (pc2 := 76) dX3_tellPath_75 rfl ?_
                refine g_ior (pc2 := 77) dX3_tellPath_76 rfl ?_
                refine g_is1 (pc2 := 78) dX3_tellPath_77 (by decide) rfl ?_
                refine g_in2 (pc2 := 81) dX3_tellPath_78 (nI_inc _) (by decide) rfl ?_
                refine g_goto 46 dX3_tellPath_81 rfl ?_
                exact ih2
              · omega
          · rw [if_neg (fun q => absurd (okPt_iff.mp q).2.2.2.2 (by rw [allB_f (k := j) (by omega) (decide_eq_false h12)]; decide))]
            refine g_il2 (pc2 := 47) dX3_tellPath_46 rfl ?_
            refine g_al0 (pc2 := 48) dX3_tellPath_47 rfl ?_
            refine g_geti (pc2 := 51) (by rfl) (by rfl) flX3_15 dX3_tellPath_48 rfl ?_
            rw [hsz]
            refine g_icmpN_ge 84 54 dX3_tellPath_51 rfl rfl (by omega) (by omega) (fun h51 => ?_) (fun h51 => ?_)
            · omega
            · refine g_al0 (pc2 := 55) dX3_tellPath_54 rfl ?_
              refine g_getr (pc2 := 58) (by rfl) (by rfl) flX3_11 dX3_tellPath_55 rfl ?_
              refine g_il2 (pc2 := 59) dX3_tellPath_58 rfl ?_
              refine g_iald (pc2 := 60) (by rfl) (by omega) (by decide) dX3_tellPath_59 rfl ?_
              rw [nj]
              refine g_bipush (pc2 := 62) dX3_tellPath_60 k_bipush_12 rfl ?_
              refine g_icmpN_lt 67 65 dX3_tellPath_62 rfl rfl (by omega) (by omega) (fun h62 => ?_) (fun h62 => ?_)
              · omega
              · refine g_iconst (pc2 := 66) dX3_tellPath_65 k_iconst_0 rfl ?_
                exact g_zret dX3_tellPath_66 rfl (bI_nar false) (Nat.le_refl _) (Nat.le_refl _) tQ25_bad
      refine g_al0 (pc2 := 1) dX3_tellPath_0 rfl ?_
      refine g_geti (pc2 := 4) (by rfl) (by rfl) flX3_15 dX3_tellPath_1 rfl ?_
      rw [hsz]
      refine g_iconst (pc2 := 5) dX3_tellPath_4 k_iconst_2 rfl ?_
      refine g_icmpN_lt 40 8 dX3_tellPath_5 rfl rfl (by omega) (by omega) (fun h5 => ?_) (fun h5 => ?_)
      · omega
      · refine g_al0 (pc2 := 9) dX3_tellPath_8 rfl ?_
        refine g_getr (pc2 := 12) (by rfl) (by rfl) flX3_23 dX3_tellPath_9 rfl ?_
        refine g_al0 (pc2 := 13) dX3_tellPath_12 rfl ?_
        refine g_getr (pc2 := 16) (by rfl) (by rfl) flX3_11 dX3_tellPath_13 rfl ?_
        refine g_iconst (pc2 := 17) dX3_tellPath_16 k_iconst_0 rfl ?_
        skip
        refine g_iald (pc2 := 18) (by rfl) (by omega) (by decide) dX3_tellPath_17 rfl ?_
        rw [n0]
        refine g_cVi (pc2 := 21) (R_c_hasLine26 l d _ _ _) meX6_hasLine mlX3_88 (by rfl) ⟨_, rfl, rfl⟩ rfl rfl (by simp) ⟨Nat.le_refl _, Nat.le_refl _⟩ dX3_tellPath_18 rfl ?_
        rw [hd0]
        refine g_if_eqB 40 24 dX3_tellPath_21 rfl rfl (fun h21 => ?_) (fun h21 => ?_)
        · exact absurd hA.1 (of_decide_eq_false h21)
        · refine g_al0 (pc2 := 25) dX3_tellPath_24 rfl ?_
          refine g_getr (pc2 := 28) (by rfl) (by rfl) flX3_23 dX3_tellPath_25 rfl ?_
          refine g_al0 (pc2 := 29) dX3_tellPath_28 rfl ?_
          refine g_getr (pc2 := 32) (by rfl) (by rfl) flX3_11 dX3_tellPath_29 rfl ?_
          refine g_iconst (pc2 := 33) dX3_tellPath_32 k_iconst_1 rfl ?_
          refine g_iald (pc2 := 34) (by rfl) (by omega) (by decide) dX3_tellPath_33 rfl ?_
          rw [n1]
          refine g_cVi (pc2 := 37) (R_c_hasTrack26 l d _ _ _) meX6_hasTrack mlX3_91 (by rfl) ⟨_, rfl, rfl⟩ rfl rfl (by simp) ⟨Nat.le_refl _, Nat.le_refl _⟩ dX3_tellPath_34 rfl ?_
          rw [hd1]
          refine g_if_neB 42 40 dX3_tellPath_37 rfl rfl (fun h37 => ?_) (fun h37 => ?_)
          · refine g_iconst (pc2 := 43) dX3_tellPath_42 k_iconst_0 rfl ?_
            refine g_is1 (pc2 := 44) dX3_tellPath_43 (by decide) rfl ?_
            refine g_iconst (pc2 := 45) dX3_tellPath_44 k_iconst_2 rfl ?_
            refine g_is2 (pc2 := 46) dX3_tellPath_45 (by decide) rfl ?_
            exact key 0 (Nat.zero_le _) rfl
          · exact absurd hA.2 (of_decide_eq_false h37)
    · rw [if_neg (fun q => by have := okPt_iff.mp q; rw [e0, e1] at this; exact hA ⟨this.2.1, this.2.2.1⟩)]
      refine g_al0 (pc2 := 1) dX3_tellPath_0 rfl ?_
      refine g_geti (pc2 := 4) (by rfl) (by rfl) flX3_15 dX3_tellPath_1 rfl ?_
      rw [hsz]
      refine g_iconst (pc2 := 5) dX3_tellPath_4 k_iconst_2 rfl ?_
      refine g_icmpN_lt 40 8 dX3_tellPath_5 rfl rfl (by omega) (by omega) (fun h5 => ?_) (fun h5 => ?_)
      · refine g_iconst (pc2 := 41) dX3_tellPath_40 k_iconst_0 rfl ?_
        exact g_zret dX3_tellPath_41 rfl (bI_nar false) (Nat.le_refl _) (Nat.le_refl _) tQ25_bad
      · refine g_al0 (pc2 := 9) dX3_tellPath_8 rfl ?_
        refine g_getr (pc2 := 12) (by rfl) (by rfl) flX3_23 dX3_tellPath_9 rfl ?_
        refine g_al0 (pc2 := 13) dX3_tellPath_12 rfl ?_
        refine g_getr (pc2 := 16) (by rfl) (by rfl) flX3_11 dX3_tellPath_13 rfl ?_
        refine g_iconst (pc2 := 17) dX3_tellPath_16 k_iconst_0 rfl ?_
        refine g_iald (pc2 := 18) (by rfl) (by omega) (by decide) dX3_tellPath_17 rfl ?_
        rw [n0]
        refine g_cVi (pc2 := 21) (R_c_hasLine26 l d _ _ _) meX6_hasLine mlX3_88 (by rfl) ⟨_, rfl, rfl⟩ rfl rfl (by simp) ⟨Nat.le_refl _, Nat.le_refl _⟩ dX3_tellPath_18 rfl ?_
        rw [hd0]
        refine g_if_eqB 40 24 dX3_tellPath_21 rfl rfl (fun h21 => ?_) (fun h21 => ?_)
        · refine g_iconst (pc2 := 41) dX3_tellPath_40 k_iconst_0 rfl ?_
          exact g_zret dX3_tellPath_41 rfl (bI_nar false) (Nat.le_refl _) (Nat.le_refl _) tQ25_bad
        · refine g_al0 (pc2 := 25) dX3_tellPath_24 rfl ?_
          refine g_getr (pc2 := 28) (by rfl) (by rfl) flX3_23 dX3_tellPath_25 rfl ?_
          refine g_al0 (pc2 := 29) dX3_tellPath_28 rfl ?_
          refine g_getr (pc2 := 32) (by rfl) (by rfl) flX3_11 dX3_tellPath_29 rfl ?_
          refine g_iconst (pc2 := 33) dX3_tellPath_32 k_iconst_1 rfl ?_
          refine g_iald (pc2 := 34) (by rfl) (by omega) (by decide) dX3_tellPath_33 rfl ?_
          rw [n1]
          refine g_cVi (pc2 := 37) (R_c_hasTrack26 l d _ _ _) meX6_hasTrack mlX3_91 (by rfl) ⟨_, rfl, rfl⟩ rfl rfl (by simp) ⟨Nat.le_refl _, Nat.le_refl _⟩ dX3_tellPath_34 rfl ?_
          rw [hd1]
          refine g_if_neB 42 40 dX3_tellPath_37 rfl rfl (fun h37 => ?_) (fun h37 => ?_)
          · exact absurd ⟨of_decide_eq_true h21, of_decide_eq_true h37⟩ hA
          · refine g_iconst (pc2 := 41) dX3_tellPath_40 k_iconst_0 rfl ?_
            exact g_zret dX3_tellPath_41 rfl (bI_nar false) (Nat.le_refl _) (Nat.le_refl _) tQ25_bad
  · rw [if_neg (fun q => hlen (okPt_iff.mp q).1)]
    refine g_al0 (pc2 := 1) dX3_tellPath_0 rfl ?_
    refine g_geti (pc2 := 4) (by rfl) (by rfl) flX3_15 dX3_tellPath_1 rfl ?_
    rw [hsz]
    refine g_iconst (pc2 := 5) dX3_tellPath_4 k_iconst_2 rfl ?_
    refine g_icmpN_lt 40 8 dX3_tellPath_5 rfl rfl (by omega) (by omega) (fun h5 => ?_) (fun h5 => ?_)
    · refine g_iconst (pc2 := 41) dX3_tellPath_40 k_iconst_0 rfl ?_
      exact g_zret dX3_tellPath_41 rfl (bI_nar false) (Nat.le_refl _) (Nat.le_refl _) tQ25_bad
    · omega
theorem R_c_isTrain25 (l : lt_L) (d : Nat) (t : lt_H) (σ : lt_S) {r : Nat → Int32} {ln T N : Nat} {ns : List Nat} (h : In25 σ r ln T N ns) (hlen : ns.length = 5) : lt_T l (d + 2) mX3_isTrain (lt_SC ++ t) σ [.ref 25] (some (bI (decide (ns.getD 0 0 < ln ∧ ns.getD 1 0 < ln ∧ 1 ≤ ns.getD 2 0 ∧ ns.getD 2 0 ≤ ns.getD 3 0 ∧ ns.getD 3 0 ≤ 98 ∧ (ns.getD 4 0 < T ∨ ns.getD 4 0 = 9))))) σ := by
  obtain ⟨hW, hC, hns, hle, hl1, hl6⟩ := h
  refine lt_T.of [some (.ref 25), none, none, none] rfl rfl (Nat.le_of_ble_eq_true rfl) ?_
  have g0 := getD_le hle 0
  have g1 := getD_le hle 1
  have g2 := getD_le hle 2
  have g3 := getD_le hle 3
  have g4 := getD_le hle 4
  have n0 := hns.2 0 (by omega)
  have n1 := hns.2 1 (by omega)
  have n2 := hns.2 2 (by omega)
  have n3 := hns.2 3 (by omega)
  have n4 := hns.2 4 (by omega)
  have hln := hW.1.2
  have hT4 := hW.2.1.2
  have y0 : σ 26 0 = nI ln := hC.1.1.1.trans hW.1.1
  have y1 : σ 26 1 = nI T := hC.1.1.2.1.trans hW.2.1.1
  generalize ns.getD 0 0 = a at *
  generalize ns.getD 1 0 = b at *
  generalize ns.getD 2 0 = p at *
  generalize ns.getD 3 0 = q at *
  generalize ns.getD 4 0 = x at *
  have hd0 : ∀ k, k ≤ 99 → hasB (nI k) (σ 26 0) = decide (k < ln) := fun k hk => by rw [y0]; exact hasB_nI (by omega) (by omega)
  have hd1 : ∀ k, k ≤ 99 → hasB (nI k) (σ 26 1) = decide (k < T) := fun k hk => by rw [y1]; exact hasB_nI (by omega) (by omega)
  refine g_al0 (pc2 := 1) dX3_isTrain_0 rfl ?_
  refine g_getr (pc2 := 4) (by rfl) (by rfl) flX3_23 dX3_isTrain_1 rfl ?_
  refine g_al0 (pc2 := 5) dX3_isTrain_4 rfl ?_
  refine g_getr (pc2 := 8) (by rfl) (by rfl) flX3_11 dX3_isTrain_5 rfl ?_
  refine g_iconst (pc2 := 9) dX3_isTrain_8 k_iconst_0 rfl ?_
  refine g_iald (pc2 := 10) (by rfl) (by omega) (by decide) dX3_isTrain_9 rfl ?_
  rw [n0]
  refine g_cVi (pc2 := 13) (R_c_hasLine26 l d _ _ _) meX6_hasLine mlX3_88 (by rfl) ⟨_, rfl, rfl⟩ rfl rfl (by simp) ⟨Nat.le_refl _, Nat.le_refl _⟩ dX3_isTrain_10 rfl ?_
  rw [hd0 a g0]
  refine g_if_eqB 36 16 dX3_isTrain_13 rfl rfl (fun h13 => ?_) (fun h13 => ?_)
  · first | (have h1x := of_decide_eq_false h29) | (have h1x := of_decide_eq_false h13)
    refine g_iconst (pc2 := 37) dX3_isTrain_36 k_iconst_0 rfl ?_
    refine g_is1 (pc2 := 38) dX3_isTrain_37 (by decide) rfl ?_
    refine g_al0 (pc2 := 39) dX3_isTrain_38 rfl ?_
    refine g_getr (pc2 := 42) (by rfl) (by rfl) flX3_11 dX3_isTrain_39 rfl ?_
    refine g_iconst (pc2 := 43) dX3_isTrain_42 k_iconst_2 rfl ?_
    refine g_iald (pc2 := 44) (by rfl) (by omega) (by decide) dX3_isTrain_43 rfl ?_
    rw [n2]
    refine g_iconst (pc2 := 45) dX3_isTrain_44 k_iconst_1 rfl ?_
    refine g_icmpN_lt 78 48 dX3_isTrain_45 rfl rfl (by omega) (by omega) (fun h45 => ?_) (fun h45 => ?_)
    · refine g_iconst (pc2 := 79) dX3_isTrain_78 k_iconst_0 rfl ?_
      refine g_is2 (pc2 := 80) dX3_isTrain_79 (by decide) rfl ?_
      refine g_al0 (pc2 := 81) dX3_isTrain_80 rfl ?_
      refine g_getr (pc2 := 84) (by rfl) (by rfl) flX3_11 dX3_isTrain_81 rfl ?_
      refine g_iconst (pc2 := 85) dX3_isTrain_84 k_iconst_4 rfl ?_
      refine g_iald (pc2 := 86) (by rfl) (by omega) (by decide) dX3_isTrain_85 rfl ?_
      rw [n4]
      refine g_bipush (pc2 := 88) dX3_isTrain_86 k_bipush_9 rfl ?_
      refine g_icmpN_eq 107 91 dX3_isTrain_88 rfl rfl (by omega) (by omega) (fun h88 => ?_) (fun h88 => ?_)
      · try (have h104a := of_decide_eq_true h104)
        refine g_iconst (pc2 := 108) dX3_isTrain_107 k_iconst_1 rfl ?_
        refine g_goto 112 dX3_isTrain_108 rfl ?_
        refine g_is3 (pc2 := 113) dX3_isTrain_112 (by decide) rfl ?_
        refine g_il1 (pc2 := 114) dX3_isTrain_113 rfl ?_
        refine g_if_eq 129 117 dX3_isTrain_114 rfl rfl (fun _ => ?_) (fun h => absurd nI_0 h)
        refine g_iconst (pc2 := 130) dX3_isTrain_129 k_iconst_0 rfl ?_
        exact g_zretT dX3_isTrain_130 rfl (Nat.le_refl _) (Nat.le_refl _) (by first | (rw [decide_eq_true (by omega)]; rfl) | (rw [decide_eq_false (by omega)]; rfl)) (rfl)
      · refine g_al0 (pc2 := 92) dX3_isTrain_91 rfl ?_
        refine g_getr (pc2 := 95) (by rfl) (by rfl) flX3_23 dX3_isTrain_92 rfl ?_
        refine g_al0 (pc2 := 96) dX3_isTrain_95 rfl ?_
        refine g_getr (pc2 := 99) (by rfl) (by rfl) flX3_11 dX3_isTrain_96 rfl ?_
        refine g_iconst (pc2 := 100) dX3_isTrain_99 k_iconst_4 rfl ?_
        refine g_iald (pc2 := 101) (by rfl) (by omega) (by decide) dX3_isTrain_100 rfl ?_
        rw [n4]
        refine g_cVi (pc2 := 104) (R_c_hasTrack26 l d _ _ _) meX6_hasTrack mlX3_91 (by rfl) ⟨_, rfl, rfl⟩ rfl rfl (by simp) ⟨Nat.le_refl _, Nat.le_refl _⟩ dX3_isTrain_101 rfl ?_
        rw [hd1 x g4]
        refine g_if_eqB 111 107 dX3_isTrain_104 rfl rfl (fun h104 => ?_) (fun h104 => ?_)
        · have h104b := of_decide_eq_false h104
          refine g_iconst (pc2 := 112) dX3_isTrain_111 k_iconst_0 rfl ?_
          refine g_is3 (pc2 := 113) dX3_isTrain_112 (by decide) rfl ?_
          refine g_il1 (pc2 := 114) dX3_isTrain_113 rfl ?_
          refine g_if_eq 129 117 dX3_isTrain_114 rfl rfl (fun _ => ?_) (fun h => absurd nI_0 h)
          refine g_iconst (pc2 := 130) dX3_isTrain_129 k_iconst_0 rfl ?_
          exact g_zretT dX3_isTrain_130 rfl (Nat.le_refl _) (Nat.le_refl _) (by first | (rw [decide_eq_true (by omega)]; rfl) | (rw [decide_eq_false (by omega)]; rfl)) (rfl)
        · try (have h104a := of_decide_eq_true h104)
          refine g_iconst (pc2 := 108) dX3_isTrain_107 k_iconst_1 rfl ?_
          refine g_goto 112 dX3_isTrain_108 rfl ?_
          refine g_is3 (pc2 := 113) dX3_isTrain_112 (by decide) rfl ?_
          refine g_il1 (pc2 := 114) dX3_isTrain_113 rfl ?_
          refine g_if_eq 129 117 dX3_isTrain_114 rfl rfl (fun _ => ?_) (fun h => absurd nI_0 h)
          refine g_iconst (pc2 := 130) dX3_isTrain_129 k_iconst_0 rfl ?_
          exact g_zretT dX3_isTrain_130 rfl (Nat.le_refl _) (Nat.le_refl _) (by first | (rw [decide_eq_true (by omega)]; rfl) | (rw [decide_eq_false (by omega)]; rfl)) (rfl)
    · refine g_al0 (pc2 := 49) dX3_isTrain_48 rfl ?_
      refine g_getr (pc2 := 52) (by rfl) (by rfl) flX3_11 dX3_isTrain_49 rfl ?_
      refine g_iconst (pc2 := 53) dX3_isTrain_52 k_iconst_3 rfl ?_
      refine g_iald (pc2 := 54) (by rfl) (by omega) (by decide) dX3_isTrain_53 rfl ?_
      rw [n3]
      refine g_al0 (pc2 := 55) dX3_isTrain_54 rfl ?_
      refine g_getr (pc2 := 58) (by rfl) (by rfl) flX3_11 dX3_isTrain_55 rfl ?_
      refine g_iconst (pc2 := 59) dX3_isTrain_58 k_iconst_2 rfl ?_
      refine g_iald (pc2 := 60) (by rfl) (by omega) (by decide) dX3_isTrain_59 rfl ?_
      rw [n2]
      refine g_icmpN_lt 78 63 dX3_isTrain_60 rfl rfl (by omega) (by omega) (fun h60 => ?_) (fun h60 => ?_)
      · refine g_iconst (pc2 := 79) dX3_isTrain_78 k_iconst_0 rfl ?_
        refine g_is2 (pc2 := 80) dX3_isTrain_79 (by decide) rfl ?_
        refine g_al0 (pc2 := 81) dX3_isTrain_80 rfl ?_
        refine g_getr (pc2 := 84) (by rfl) (by rfl) flX3_11 dX3_isTrain_81 rfl ?_
        refine g_iconst (pc2 := 85) dX3_isTrain_84 k_iconst_4 rfl ?_
        refine g_iald (pc2 := 86) (by rfl) (by omega) (by decide) dX3_isTrain_85 rfl ?_
        rw [n4]
        refine g_bipush (pc2 := 88) dX3_isTrain_86 k_bipush_9 rfl ?_
        refine g_icmpN_eq 107 91 dX3_isTrain_88 rfl rfl (by omega) (by omega) (fun h88 => ?_) (fun h88 => ?_)
        · try (have h104a := of_decide_eq_true h104)
          refine g_iconst (pc2 := 108) dX3_isTrain_107 k_iconst_1 rfl ?_
          refine g_goto 112 dX3_isTrain_108 rfl ?_
          refine g_is3 (pc2 := 113) dX3_isTrain_112 (by decide) rfl ?_
          refine g_il1 (pc2 := 114) dX3_isTrain_113 rfl ?_
          refine g_if_eq 129 117 dX3_isTrain_114 rfl rfl (fun _ => ?_) (fun h => absurd nI_0 h)
          refine g_iconst (pc2 := 130) dX3_isTrain_129 k_iconst_0 rfl ?_
          exact g_zretT dX3_isTrain_130 rfl (Nat.le_refl _) (Nat.le_refl _) (by first | (rw [decide_eq_true (by omega)]; rfl) | (rw [decide_eq_false (by omega)]; rfl)) (rfl)
        · refine g_al0 (pc2 := 92) dX3_isTrain_91 rfl ?_
          refine g_getr (pc2 := 95) (by rfl) (by rfl) flX3_23 dX3_isTrain_92 rfl ?_
          refine g_al0 (pc2 := 96) dX3_isTrain_95 rfl ?_
          refine g_getr (pc2 := 99) (by rfl) (by rfl) flX3_11 dX3_isTrain_96 rfl ?_
          refine g_iconst (pc2 := 100) dX3_isTrain_99 k_iconst_4 rfl ?_
          refine g_iald (pc2 := 101) (by rfl) (by omega) (by decide) dX3_isTrain_100 rfl ?_
          rw [n4]
          refine g_cVi (pc2 := 104) (R_c_hasTrack26 l d _ _ _) meX6_hasTrack mlX3_91 (by rfl) ⟨_, rfl, rfl⟩ rfl rfl (by simp) ⟨Nat.le_refl _, Nat.le_refl _⟩ dX3_isTrain_101 rfl ?_
          rw [hd1 x g4]
          refine g_if_eqB 111 107 dX3_isTrain_104 rfl rfl (fun h104 => ?_) (fun h104 => ?_)
          · have h104b := of_decide_eq_false h104
            refine g_iconst (pc2 := 112) dX3_isTrain_111 k_iconst_0 rfl ?_
            refine g_is3 (pc2 := 113) dX3_isTrain_112 (by decide) rfl ?_
            refine g_il1 (pc2 := 114) dX3_isTrain_113 rfl ?_
            refine g_if_eq 129 117 dX3_isTrain_114 rfl rfl (fun _ => ?_) (fun h => absurd nI_0 h)
            refine g_iconst (pc2 := 130) dX3_isTrain_129 k_iconst_0 rfl ?_
            exact g_zretT dX3_isTrain_130 rfl (Nat.le_refl _) (Nat.le_refl _) (by first | (rw [decide_eq_true (by omega)]; rfl) | (rw [decide_eq_false (by omega)]; rfl)) (rfl)
          · try (have h104a := of_decide_eq_true h104)
            refine g_iconst (pc2 := 108) dX3_isTrain_107 k_iconst_1 rfl ?_
            refine g_goto 112 dX3_isTrain_108 rfl ?_
            refine g_is3 (pc2 := 113) dX3_isTrain_112 (by decide) rfl ?_
            refine g_il1 (pc2 := 114) dX3_isTrain_113 rfl ?_
            refine g_if_eq 129 117 dX3_isTrain_114 rfl rfl (fun _ => ?_) (fun h => absurd nI_0 h)
            refine g_iconst (pc2 := 130) dX3_isTrain_129 k_iconst_0 rfl ?_
            exact g_zretT dX3_isTrain_130 rfl (Nat.le_refl _) (Nat.le_refl _) (by first | (rw [decide_eq_true (by omega)]; rfl) | (rw [decide_eq_false (by omega)]; rfl)) (rfl)
      · refine g_al0 (pc2 := 64) dX3_isTrain_63 rfl ?_
        refine g_getr (pc2 := 67) (by rfl) (by rfl) flX3_11 dX3_isTrain_64 rfl ?_
        refine g_iconst (pc2 := 68) dX3_isTrain_67 k_iconst_3 rfl ?_
        refine g_iald (pc2 := 69) (by rfl) (by omega) (by decide) dX3_isTrain_68 rfl ?_
        rw [n3]
        refine g_bipush (pc2 := 71) dX3_isTrain_69 k_bipush_98 rfl ?_
        refine g_icmpN_gt 78 74 dX3_isTrain_71 rfl rfl (by omega) (by omega) (fun h71 => ?_) (fun h71 => ?_)
        · refine g_iconst (pc2 := 79) dX3_isTrain_78 k_iconst_0 rfl ?_
          refine g_is2 (pc2 := 80) dX3_isTrain_79 (by decide) rfl ?_
          refine g_al0 (pc2 := 81) dX3_isTrain_80 rfl ?_
          refine g_getr (pc2 := 84) (by rfl) (by rfl) flX3_11 dX3_isTrain_81 rfl ?_
          refine g_iconst (pc2 := 85) dX3_isTrain_84 k_iconst_4 rfl ?_
          refine g_iald (pc2 := 86) (by rfl) (by omega) (by decide) dX3_isTrain_85 rfl ?_
          rw [n4]
          refine g_bipush (pc2 := 88) dX3_isTrain_86 k_bipush_9 rfl ?_
          refine g_icmpN_eq 107 91 dX3_isTrain_88 rfl rfl (by omega) (by omega) (fun h88 => ?_) (fun h88 => ?_)
          · try (have h104a := of_decide_eq_true h104)
            refine g_iconst (pc2 := 108) dX3_isTrain_107 k_iconst_1 rfl ?_
            refine g_goto 112 dX3_isTrain_108 rfl ?_
            refine g_is3 (pc2 := 113) dX3_isTrain_112 (by decide) rfl ?_
            refine g_il1 (pc2 := 114) dX3_isTrain_113 rfl ?_
            refine g_if_eq 129 117 dX3_isTrain_114 rfl rfl (fun _ => ?_) (fun h => absurd nI_0 h)
            refine g_iconst (pc2 := 130) dX3_isTrain_129 k_iconst_0 rfl ?_
            exact g_zretT dX3_isTrain_130 rfl (Nat.le_refl _) (Nat.le_refl _) (by first | (rw [decide_eq_true (by omega)]; rfl) | (rw [decide_eq_false (by omega)]; rfl)) (rfl)
          · refine g_al0 (pc2 := 92) dX3_isTrain_91 rfl ?_
            refine g_getr (pc2 := 95) (by rfl) (by rfl) flX3_23 dX3_isTrain_92 rfl ?_
            refine g_al0 (pc2 := 96) dX3_isTrain_95 rfl ?_
            refine g_getr (pc2 := 99) (by rfl) (by rfl) flX3_11 dX3_isTrain_96 rfl ?_
            refine g_iconst (pc2 := 100) dX3_isTrain_99 k_iconst_4 rfl ?_
            refine g_iald (pc2 := 101) (by rfl) (by omega) (by decide) dX3_isTrain_100 rfl ?_
            rw [n4]
            refine g_cVi (pc2 := 104) (R_c_hasTrack26 l d _ _ _) meX6_hasTrack mlX3_91 (by rfl) ⟨_, rfl, rfl⟩ rfl rfl (by simp) ⟨Nat.le_refl _, Nat.le_refl _⟩ dX3_isTrain_101 rfl ?_
            rw [hd1 x g4]
            refine g_if_eqB 111 107 dX3_isTrain_104 rfl rfl (fun h104 => ?_) (fun h104 => ?_)
            · have h104b := of_decide_eq_false h104
              refine g_iconst (pc2 := 112) dX3_isTrain_111 k_iconst_0 rfl ?_
              refine g_is3 (pc2 := 113) dX3_isTrain_112 (by decide) rfl ?_
              refine g_il1 (pc2 := 114) dX3_isTrain_113 rfl ?_
              refine g_if_eq 129 117 dX3_isTrain_114 rfl rfl (fun _ => ?_) (fun h => absurd nI_0 h)
              refine g_iconst (pc2 := 130) dX3_isTrain_129 k_iconst_0 rfl ?_
              exact g_zretT dX3_isTrain_130 rfl (Nat.le_refl _) (Nat.le_refl _) (by first | (rw [decide_eq_true (by omega)]; rfl) | (rw [decide_eq_false (by omega)]; rfl)) (rfl)
            · try (have h104a := of_decide_eq_true h104)
              refine g_iconst (pc2 := 108) dX3_isTrain_107 k_iconst_1 rfl ?_
              refine g_goto 112 dX3_isTrain_108 rfl ?_
              refine g_is3 (pc2 := 113) dX3_isTrain_112 (by decide) rfl ?_
              refine g_il1 (pc2 := 114) dX3_isTrain_113 rfl ?_
              refine g_if_eq 129 117 dX3_isTrain_114 rfl rfl (fun _ => ?_) (fun h => absurd nI_0 h)
              refine g_iconst (pc2 := 130) dX3_isTrain_129 k_iconst_0 rfl ?_
              exact g_zretT dX3_isTrain_130 rfl (Nat.le_refl _) (Nat.le_refl _) (by first | (rw [decide_eq_true (by omega)]; rfl) | (rw [decide_eq_false (by omega)]; rfl)) (rfl)
        · refine g_iconst (pc2 := 75) dX3_isTrain_74 k_iconst_1 rfl ?_
          refine g_goto 79 dX3_isTrain_75 rfl ?_
          refine g_is2 (pc2 := 80) dX3_isTrain_79 (by decide) rfl ?_
          refine g_al0 (pc2 := 81) dX3_isTrain_80 rfl ?_
          refine g_getr (pc2 := 84) (by rfl) (by rfl) flX3_11 dX3_isTrain_81 rfl ?_
          refine g_iconst (pc2 := 85) dX3_isTrain_84 k_iconst_4 rfl ?_
          refine g_iald (pc2 := 86) (by rfl) (by omega) (by decide) dX3_isTrain_85 rfl ?_
          rw [n4]
          refine g_bipush (pc2 := 88) dX3_isTrain_86 k_bipush_9 rfl ?_
          refine g_icmpN_eq 107 91 dX3_isTrain_88 rfl rfl (by omega) (by omega) (fun h88 => ?_) (fun h88 => ?_)
          · try (have h104a := of_decide_eq_true h104)
            refine g_iconst (pc2 := 108) dX3_isTrain_107 k_iconst_1 rfl ?_
            refine g_goto 112 dX3_isTrain_108 rfl ?_
            refine g_is3 (pc2 := 113) dX3_isTrain_112 (by decide) rfl ?_
            refine g_il1 (pc2 := 114) dX3_isTrain_113 rfl ?_
            refine g_if_eq 129 117 dX3_isTrain_114 rfl rfl (fun _ => ?_) (fun h => absurd nI_0 h)
            refine g_iconst (pc2 := 130) dX3_isTrain_129 k_iconst_0 rfl ?_
            exact g_zretT dX3_isTrain_130 rfl (Nat.le_refl _) (Nat.le_refl _) (by first | (rw [decide_eq_true (by omega)]; rfl) | (rw [decide_eq_false (by omega)]; rfl)) (rfl)
          · refine g_al0 (pc2 := 92) dX3_isTrain_91 rfl ?_
            refine g_getr (pc2 := 95) (by rfl) (by rfl) flX3_23 dX3_isTrain_92 rfl ?_
            refine g_al0 (pc2 := 96) dX3_isTrain_95 rfl ?_
            refine g_getr (pc2 := 99) (by rfl) (by rfl) flX3_11 dX3_isTrain_96 rfl ?_
            refine g_iconst (pc2 := 100) dX3_isTrain_99 k_iconst_4 rfl ?_
            refine g_iald (pc2 := 101) (by rfl) (by omega) (by decide) dX3_isTrain_100 rfl ?_
            rw [n4]
            refine g_cVi (pc2 := 104) (R_c_hasTrack26 l d _ _ _) meX6_hasTrack mlX3_91 (by rfl) ⟨_, rfl, rfl⟩ rfl rfl (by simp) ⟨Nat.le_refl _, Nat.le_refl _⟩ dX3_isTrain_101 rfl ?_
            rw [hd1 x g4]
            refine g_if_eqB 111 107 dX3_isTrain_104 rfl rfl (fun h104 => ?_) (fun h104 => ?_)
            · have h104b := of_decide_eq_false h104
              refine g_iconst (pc2 := 112) dX3_isTrain_111 k_iconst_0 rfl ?_
              refine g_is3 (pc2 := 113) dX3_isTrain_112 (by decide) rfl ?_
              refine g_il1 (pc2 := 114) dX3_isTrain_113 rfl ?_
              refine g_if_eq 129 117 dX3_isTrain_114 rfl rfl (fun _ => ?_) (fun h => absurd nI_0 h)
              refine g_iconst (pc2 := 130) dX3_isTrain_129 k_iconst_0 rfl ?_
              exact g_zretT dX3_isTrain_130 rfl (Nat.le_refl _) (Nat.le_refl _) (by first | (rw [decide_eq_true (by omega)]; rfl) | (rw [decide_eq_false (by omega)]; rfl)) (rfl)
            · try (have h104a := of_decide_eq_true h104)
              refine g_iconst (pc2 := 108) dX3_isTrain_107 k_iconst_1 rfl ?_
              refine g_goto 112 dX3_isTrain_108 rfl ?_
              refine g_is3 (pc2 := 113) dX3_isTrain_112 (by decide) rfl ?_
              refine g_il1 (pc2 := 114) dX3_isTrain_113 rfl ?_
              refine g_if_eq 129 117 dX3_isTrain_114 rfl rfl (fun _ => ?_) (fun h => absurd nI_0 h)
              refine g_iconst (pc2 := 130) dX3_isTrain_129 k_iconst_0 rfl ?_
              exact g_zretT dX3_isTrain_130 rfl (Nat.le_refl _) (Nat.le_refl _) (by first | (rw [decide_eq_true (by omega)]; rfl) | (rw [decide_eq_false (by omega)]; rfl)) (rfl)
  · have h13a := of_decide_eq_true h13
    refine g_al0 (pc2 := 17) dX3_isTrain_16 rfl ?_
    refine g_getr (pc2 := 20) (by rfl) (by rfl) flX3_23 dX3_isTrain_17 rfl ?_
    refine g_al0 (pc2 := 21) dX3_isTrain_20 rfl ?_
    refine g_getr (pc2 := 24) (by rfl) (by rfl) flX3_11 dX3_isTrain_21 rfl ?_
    refine g_iconst (pc2 := 25) dX3_isTrain_24 k_iconst_1 rfl ?_
    refine g_iald (pc2 := 26) (by rfl) (by omega) (by decide) dX3_isTrain_25 rfl ?_
    rw [n1]
    refine g_cVi (pc2 := 29) (R_c_hasLine26 l d _ _ _) meX6_hasLine mlX3_88 (by rfl) ⟨_, rfl, rfl⟩ rfl rfl (by simp) ⟨Nat.le_refl _, Nat.le_refl _⟩ dX3_isTrain_26 rfl ?_
    rw [hd0 b g1]
    refine g_if_eqB 36 32 dX3_isTrain_29 rfl rfl (fun h29 => ?_) (fun h29 => ?_)
    · first | (have h1x := of_decide_eq_false h29) | (have h1x := of_decide_eq_false h13)
      refine g_iconst (pc2 := 37) dX3_isTrain_36 k_iconst_0 rfl ?_
      refine g_is1 (pc2 := 38) dX3_isTrain_37 (by decide) rfl ?_
      refine g_al0 (pc2 := 39) dX3_isTrain_38 rfl ?_
      refine g_getr (pc2 := 42) (by rfl) (by rfl) flX3_11 dX3_isTrain_39 rfl ?_
      refine g_iconst (pc2 := 43) dX3_isTrain_42 k_iconst_2 rfl ?_
      refine g_iald (pc2 := 44) (by rfl) (by omega) (by decide) dX3_isTrain_43 rfl ?_
      rw [n2]
      refine g_iconst (pc2 := 45) dX3_isTrain_44 k_iconst_1 rfl ?_
      refine g_icmpN_lt 78 48 dX3_isTrain_45 rfl rfl (by omega) (by omega) (fun h45 => ?_) (fun h45 => ?_)
      · refine g_iconst (pc2 := 79) dX3_isTrain_78 k_iconst_0 rfl ?_
        refine g_is2 (pc2 := 80) dX3_isTrain_79 (by decide) rfl ?_
        refine g_al0 (pc2 := 81) dX3_isTrain_80 rfl ?_
        refine g_getr (pc2 := 84) (by rfl) (by rfl) flX3_11 dX3_isTrain_81 rfl ?_
        refine g_iconst (pc2 := 85) dX3_isTrain_84 k_iconst_4 rfl ?_
        refine g_iald (pc2 := 86) (by rfl) (by omega) (by decide) dX3_isTrain_85 rfl ?_
        rw [n4]
        refine g_bipush (pc2 := 88) dX3_isTrain_86 k_bipush_9 rfl ?_
        refine g_icmpN_eq 107 91 dX3_isTrain_88 rfl rfl (by omega) (by omega) (fun h88 => ?_) (fun h88 => ?_)
        · try (have h104a := of_decide_eq_true h104)
          refine g_iconst (pc2 := 108) dX3_isTrain_107 k_iconst_1 rfl ?_
          refine g_goto 112 dX3_isTrain_108 rfl ?_
          refine g_is3 (pc2 := 113) dX3_isTrain_112 (by decide) rfl ?_
          refine g_il1 (pc2 := 114) dX3_isTrain_113 rfl ?_
          refine g_if_eq 129 117 dX3_isTrain_114 rfl rfl (fun _ => ?_) (fun h => absurd nI_0 h)
          refine g_iconst (pc2 := 130) dX3_isTrain_129 k_iconst_0 rfl ?_
          exact g_zretT dX3_isTrain_130 rfl (Nat.le_refl _) (Nat.le_refl _) (by first | (rw [decide_eq_true (by omega)]; rfl) | (rw [decide_eq_false (by omega)]; rfl)) (rfl)
        · refine g_al0 (pc2 := 92) dX3_isTrain_91 rfl ?_
          refine g_getr (pc2 := 95) (by rfl) (by rfl) flX3_23 dX3_isTrain_92 rfl ?_
          refine g_al0 (pc2 := 96) dX3_isTrain_95 rfl ?_
          refine g_getr (pc2 := 99) (by rfl) (by rfl) flX3_11 dX3_isTrain_96 rfl ?_
          refine g_iconst (pc2 := 100) dX3_isTrain_99 k_iconst_4 rfl ?_
          refine g_iald (pc2 := 101) (by rfl) (by omega) (by decide) dX3_isTrain_100 rfl ?_
          rw [n4]
          refine g_cVi (pc2 := 104) (R_c_hasTrack26 l d _ _ _) meX6_hasTrack mlX3_91 (by rfl) ⟨_, rfl, rfl⟩ rfl rfl (by simp) ⟨Nat.le_refl _, Nat.le_refl _⟩ dX3_isTrain_101 rfl ?_
          rw [hd1 x g4]
          refine g_if_eqB 111 107 dX3_isTrain_104 rfl rfl (fun h104 => ?_) (fun h104 => ?_)
          · have h104b := of_decide_eq_false h104
            refine g_iconst (pc2 := 112) dX3_isTrain_111 k_iconst_0 rfl ?_
            refine g_is3 (pc2 := 113) dX3_isTrain_112 (by decide) rfl ?_
            refine g_il1 (pc2 := 114) dX3_isTrain_113 rfl ?_
            refine g_if_eq 129 117 dX3_isTrain_114 rfl rfl (fun _ => ?_) (fun h => absurd nI_0 h)
            refine g_iconst (pc2 := 130) dX3_isTrain_129 k_iconst_0 rfl ?_
            exact g_zretT dX3_isTrain_130 rfl (Nat.le_refl _) (Nat.le_refl _) (by first | (rw [decide_eq_true (by omega)]; rfl) | (rw [decide_eq_false (by omega)]; rfl)) (rfl)
          · try (have h104a := of_decide_eq_true h104)
            refine g_iconst (pc2 := 108) dX3_isTrain_107 k_iconst_1 rfl ?_
            refine g_goto 112 dX3_isTrain_108 rfl ?_
            refine g_is3 (pc2 := 113) dX3_isTrain_112 (by decide) rfl ?_
            refine g_il1 (pc2 := 114) dX3_isTrain_113 rfl ?_
            refine g_if_eq 129 117 dX3_isTrain_114 rfl rfl (fun _ => ?_) (fun h => absurd nI_0 h)
            refine g_iconst (pc2 := 130) dX3_isTrain_129 k_iconst_0 rfl ?_
            exact g_zretT dX3_isTrain_130 rfl (Nat.le_refl _) (Nat.le_refl _) (by first | (rw [decide_eq_true (by omega)]; rfl) | (rw [decide_eq_false (by omega)]; rfl)) (rfl)
      · refine g_al0 (pc2 := 49) dX3_isTrain_48 rfl ?_
        refine g_getr (pc2 := 52) (by rfl) (by rfl) flX3_11 dX3_isTrain_49 rfl ?_
        refine g_iconst (pc2 := 53) dX3_isTrain_52 k_iconst_3 rfl ?_
        refine g_iald (pc2 := 54) (by rfl) (by omega) (by decide) dX3_isTrain_53 rfl ?_
        rw [n3]
        refine g_al0 (pc2 := 55) dX3_isTrain_54 rfl ?_
        refine g_getr (pc2 := 58) (by rfl) (by rfl) flX3_11 dX3_isTrain_55 rfl ?_
        refine g_iconst (pc2 := 59) dX3_isTrain_58 k_iconst_2 rfl ?_
        refine g_iald (pc2 := 60) (by rfl) (by omega) (by decide) dX3_isTrain_59 rfl ?_
        rw [n2]
        refine g_icmpN_lt 78 63 dX3_isTrain_60 rfl rfl (by omega) (by omega) (fun h60 => ?_) (fun h60 => ?_)
        · refine g_iconst (pc2 := 79) dX3_isTrain_78 k_iconst_0 rfl ?_
          refine g_is2 (pc2 := 80) dX3_isTrain_79 (by decide) rfl ?_
          refine g_al0 (pc2 := 81) dX3_isTrain_80 rfl ?_
          refine g_getr (pc2 := 84) (by rfl) (by rfl) flX3_11 dX3_isTrain_81 rfl ?_
          refine g_iconst (pc2 := 85) dX3_isTrain_84 k_iconst_4 rfl ?_
          refine g_iald (pc2 := 86) (by rfl) (by omega) (by decide) dX3_isTrain_85 rfl ?_
          rw [n4]
          refine g_bipush (pc2 := 88) dX3_isTrain_86 k_bipush_9 rfl ?_
          refine g_icmpN_eq 107 91 dX3_isTrain_88 rfl rfl (by omega) (by omega) (fun h88 => ?_) (fun h88 => ?_)
          · try (have h104a := of_decide_eq_true h104)
            refine g_iconst (pc2 := 108) dX3_isTrain_107 k_iconst_1 rfl ?_
            refine g_goto 112 dX3_isTrain_108 rfl ?_
            refine g_is3 (pc2 := 113) dX3_isTrain_112 (by decide) rfl ?_
            refine g_il1 (pc2 := 114) dX3_isTrain_113 rfl ?_
            refine g_if_eq 129 117 dX3_isTrain_114 rfl rfl (fun _ => ?_) (fun h => absurd nI_0 h)
            refine g_iconst (pc2 := 130) dX3_isTrain_129 k_iconst_0 rfl ?_
            exact g_zretT dX3_isTrain_130 rfl (Nat.le_refl _) (Nat.le_refl _) (by first | (rw [decide_eq_true (by omega)]; rfl) | (rw [decide_eq_false (by omega)]; rfl)) (rfl)
          · refine g_al0 (pc2 := 92) dX3_isTrain_91 rfl ?_
            refine g_getr (pc2 := 95) (by rfl) (by rfl) flX3_23 dX3_isTrain_92 rfl ?_
            refine g_al0 (pc2 := 96) dX3_isTrain_95 rfl ?_
            refine g_getr (pc2 := 99) (by rfl) (by rfl) flX3_11 dX3_isTrain_96 rfl ?_
            refine g_iconst (pc2 := 100) dX3_isTrain_99 k_iconst_4 rfl ?_
            refine g_iald (pc2 := 101) (by rfl) (by omega) (by decide) dX3_isTrain_100 rfl ?_
            rw [n4]
            refine g_cVi (pc2 := 104) (R_c_hasTrack26 l d _ _ _) meX6_hasTrack mlX3_91 (by rfl) ⟨_, rfl, rfl⟩ rfl rfl (by simp) ⟨Nat.le_refl _, Nat.le_refl _⟩ dX3_isTrain_101 rfl ?_
            rw [hd1 x g4]
            refine g_if_eqB 111 107 dX3_isTrain_104 rfl rfl (fun h104 => ?_) (fun h104 => ?_)
            · have h104b := of_decide_eq_false h104
              refine g_iconst (pc2 := 112) dX3_isTrain_111 k_iconst_0 rfl ?_
              refine g_is3 (pc2 := 113) dX3_isTrain_112 (by decide) rfl ?_
              refine g_il1 (pc2 := 114) dX3_isTrain_113 rfl ?_
              refine g_if_eq 129 117 dX3_isTrain_114 rfl rfl (fun _ => ?_) (fun h => absurd nI_0 h)
              refine g_iconst (pc2 := 130) dX3_isTrain_129 k_iconst_0 rfl ?_
              exact g_zretT dX3_isTrain_130 rfl (Nat.le_refl _) (Nat.le_refl _) (by first | (rw [decide_eq_true (by omega)]; rfl) | (rw [decide_eq_false (by omega)]; rfl)) (rfl)
            · try (have h104a := of_decide_eq_true h104)
              refine g_iconst (pc2 := 108) dX3_isTrain_107 k_iconst_1 rfl ?_
              refine g_goto 112 dX3_isTrain_108 rfl ?_
              refine g_is3 (pc2 := 113) dX3_isTrain_112 (by decide) rfl ?_
              refine g_il1 (pc2 := 114) dX3_isTrain_113 rfl ?_
              refine g_if_eq 129 117 dX3_isTrain_114 rfl rfl (fun _ => ?_) (fun h => absurd nI_0 h)
              refine g_iconst (pc2 := 130) dX3_isTrain_129 k_iconst_0 rfl ?_
              exact g_zretT dX3_isTrain_130 rfl (Nat.le_refl _) (Nat.le_refl _) (by first | (rw [decide_eq_true (by omega)]; rfl) | (rw [decide_eq_false (by omega)]; rfl)) (rfl)
        · refine g_al0 (pc2 := 64) dX3_isTrain_63 rfl ?_
          refine g_getr (pc2 := 67) (by rfl) (by rfl) flX3_11 dX3_isTrain_64 rfl ?_
          refine g_iconst (pc2 := 68) dX3_isTrain_67 k_iconst_3 rfl ?_
          refine g_iald (pc2 := 69) (by rfl) (by omega) (by decide) dX3_isTrain_68 rfl ?_
          rw [n3]
          refine g_bipush (pc2 := 71) dX3_isTrain_69 k_bipush_98 rfl ?_
          refine g_icmpN_gt 78 74 dX3_isTrain_71 rfl rfl (by omega) (by omega) (fun h71 => ?_) (fun h71 => ?_)
          · refine g_iconst (pc2 := 79) dX3_isTrain_78 k_iconst_0 rfl ?_
            refine g_is2 (pc2 := 80) dX3_isTrain_79 (by decide) rfl ?_
            refine g_al0 (pc2 := 81) dX3_isTrain_80 rfl ?_
            refine g_getr (pc2 := 84) (by rfl) (by rfl) flX3_11 dX3_isTrain_81 rfl ?_
            refine g_iconst (pc2 := 85) dX3_isTrain_84 k_iconst_4 rfl ?_
            refine g_iald (pc2 := 86) (by rfl) (by omega) (by decide) dX3_isTrain_85 rfl ?_
            rw [n4]
            refine g_bipush (pc2 := 88) dX3_isTrain_86 k_bipush_9 rfl ?_
            refine g_icmpN_eq 107 91 dX3_isTrain_88 rfl rfl (by omega) (by omega) (fun h88 => ?_) (fun h88 => ?_)
            · try (have h104a := of_decide_eq_true h104)
              refine g_iconst (pc2 := 108) dX3_isTrain_107 k_iconst_1 rfl ?_
              refine g_goto 112 dX3_isTrain_108 rfl ?_
              refine g_is3 (pc2 := 113) dX3_isTrain_112 (by decide) rfl ?_
              refine g_il1 (pc2 := 114) dX3_isTrain_113 rfl ?_
              refine g_if_eq 129 117 dX3_isTrain_114 rfl rfl (fun _ => ?_) (fun h => absurd nI_0 h)
              refine g_iconst (pc2 := 130) dX3_isTrain_129 k_iconst_0 rfl ?_
              exact g_zretT dX3_isTrain_130 rfl (Nat.le_refl _) (Nat.le_refl _) (by first | (rw [decide_eq_true (by omega)]; rfl) | (rw [decide_eq_false (by omega)]; rfl)) (rfl)
            · refine g_al0 (pc2 := 92) dX3_isTrain_91 rfl ?_
              refine g_getr (pc2 := 95) (by rfl) (by rfl) flX3_23 dX3_isTrain_92 rfl ?_
              refine g_al0 (pc2 := 96) dX3_isTrain_95 rfl ?_
              refine g_getr (pc2 := 99) (by rfl) (by rfl) flX3_11 dX3_isTrain_96 rfl ?_
              refine g_iconst (pc2 := 100) dX3_isTrain_99 k_iconst_4 rfl ?_
              refine g_iald (pc2 := 101) (by rfl) (by omega) (by decide) dX3_isTrain_100 rfl ?_
              rw [n4]
              refine g_cVi (pc2 := 104) (R_c_hasTrack26 l d _ _ _) meX6_hasTrack mlX3_91 (by rfl) ⟨_, rfl, rfl⟩ rfl rfl (by simp) ⟨Nat.le_refl _, Nat.le_refl _⟩ dX3_isTrain_101 rfl ?_
              rw [hd1 x g4]
              refine g_if_eqB 111 107 dX3_isTrain_104 rfl rfl (fun h104 => ?_) (fun h104 => ?_)
              · have h104b := of_decide_eq_false h104
                refine g_iconst (pc2 := 112) dX3_isTrain_111 k_iconst_0 rfl ?_
                refine g_is3 (pc2 := 113) dX3_isTrain_112 (by decide) rfl ?_
                refine g_il1 (pc2 := 114) dX3_isTrain_113 rfl ?_
                refine g_if_eq 129 117 dX3_isTrain_114 rfl rfl (fun _ => ?_) (fun h => absurd nI_0 h)
                refine g_iconst (pc2 := 130) dX3_isTrain_129 k_iconst_0 rfl ?_
                exact g_zretT dX3_isTrain_130 rfl (Nat.le_refl _) (Nat.le_refl _) (by first | (rw [decide_eq_true (by omega)]; rfl) | (rw [decide_eq_false (by omega)]; rfl)) (rfl)
              · try (have h104a := of_decide_eq_true h104)
                refine g_iconst (pc2 := 108) dX3_isTrain_107 k_iconst_1 rfl ?_
                refine g_goto 112 dX3_isTrain_108 rfl ?_
                refine g_is3 (pc2 := 113) dX3_isTrain_112 (by decide) rfl ?_
                refine g_il1 (pc2 := 114) dX3_isTrain_113 rfl ?_
                refine g_if_eq 129 117 dX3_isTrain_114 rfl rfl (fun _ => ?_) (fun h => absurd nI_0 h)
                refine g_iconst (pc2 := 130) dX3_isTrain_129 k_iconst_0 rfl ?_
                exact g_zretT dX3_isTrain_130 rfl (Nat.le_refl _) (Nat.le_refl _) (by first | (rw [decide_eq_true (by omega)]; rfl) | (rw [decide_eq_false (by omega)]; rfl)) (rfl)
          · refine g_iconst (pc2 := 75) dX3_isTrain_74 k_iconst_1 rfl ?_
            refine g_goto 79 dX3_isTrain_75 rfl ?_
            refine g_is2 (pc2 := 80) dX3_isTrain_79 (by decide) rfl ?_
            refine g_al0 (pc2 := 81) dX3_isTrain_80 rfl ?_
            refine g_getr (pc2 := 84) (by rfl) (by rfl) flX3_11 dX3_isTrain_81 rfl ?_
            refine g_iconst (pc2 := 85) dX3_isTrain_84 k_iconst_4 rfl ?_
            refine g_iald (pc2 := 86) (by rfl) (by omega) (by decide) dX3_isTrain_85 rfl ?_
            rw [n4]
            refine g_bipush (pc2 := 88) dX3_isTrain_86 k_bipush_9 rfl ?_
            refine g_icmpN_eq 107 91 dX3_isTrain_88 rfl rfl (by omega) (by omega) (fun h88 => ?_) (fun h88 => ?_)
            · try (have h104a := of_decide_eq_true h104)
              refine g_iconst (pc2 := 108) dX3_isTrain_107 k_iconst_1 rfl ?_
              refine g_goto 112 dX3_isTrain_108 rfl ?_
              refine g_is3 (pc2 := 113) dX3_isTrain_112 (by decide) rfl ?_
              refine g_il1 (pc2 := 114) dX3_isTrain_113 rfl ?_
              refine g_if_eq 129 117 dX3_isTrain_114 rfl rfl (fun _ => ?_) (fun h => absurd nI_0 h)
              refine g_iconst (pc2 := 130) dX3_isTrain_129 k_iconst_0 rfl ?_
              exact g_zretT dX3_isTrain_130 rfl (Nat.le_refl _) (Nat.le_refl _) (by first | (rw [decide_eq_true (by omega)]; rfl) | (rw [decide_eq_false (by omega)]; rfl)) (rfl)
            · refine g_al0 (pc2 := 92) dX3_isTrain_91 rfl ?_
              refine g_getr (pc2 := 95) (by rfl) (by rfl) flX3_23 dX3_isTrain_92 rfl ?_
              refine g_al0 (pc2 := 96) dX3_isTrain_95 rfl ?_
              refine g_getr (pc2 := 99) (by rfl) (by rfl) flX3_11 dX3_isTrain_96 rfl ?_
              refine g_iconst (pc2 := 100) dX3_isTrain_99 k_iconst_4 rfl ?_
              refine g_iald (pc2 := 101) (by rfl) (by omega) (by decide) dX3_isTrain_100 rfl ?_
              rw [n4]
              refine g_cVi (pc2 := 104) (R_c_hasTrack26 l d _ _ _) meX6_hasTrack mlX3_91 (by rfl) ⟨_, rfl, rfl⟩ rfl rfl (by simp) ⟨Nat.le_refl _, Nat.le_refl _⟩ dX3_isTrain_101 rfl ?_
              rw [hd1 x g4]
              refine g_if_eqB 111 107 dX3_isTrain_104 rfl rfl (fun h104 => ?_) (fun h104 => ?_)
              · have h104b := of_decide_eq_false h104
                refine g_iconst (pc2 := 112) dX3_isTrain_111 k_iconst_0 rfl ?_
                refine g_is3 (pc2 := 113) dX3_isTrain_112 (by decide) rfl ?_
                refine g_il1 (pc2 := 114) dX3_isTrain_113 rfl ?_
                refine g_if_eq 129 117 dX3_isTrain_114 rfl rfl (fun _ => ?_) (fun h => absurd nI_0 h)
                refine g_iconst (pc2 := 130) dX3_isTrain_129 k_iconst_0 rfl ?_
                exact g_zretT dX3_isTrain_130 rfl (Nat.le_refl _) (Nat.le_refl _) (by first | (rw [decide_eq_true (by omega)]; rfl) | (rw [decide_eq_false (by omega)]; rfl)) (rfl)
              · try (have h104a := of_decide_eq_true h104)
                refine g_iconst (pc2 := 108) dX3_isTrain_107 k_iconst_1 rfl ?_
                refine g_goto 112 dX3_isTrain_108 rfl ?_
                refine g_is3 (pc2 := 113) dX3_isTrain_112 (by decide) rfl ?_
                refine g_il1 (pc2 := 114) dX3_isTrain_113 rfl ?_
                refine g_if_eq 129 117 dX3_isTrain_114 rfl rfl (fun _ => ?_) (fun h => absurd nI_0 h)
                refine g_iconst (pc2 := 130) dX3_isTrain_129 k_iconst_0 rfl ?_
                exact g_zretT dX3_isTrain_130 rfl (Nat.le_refl _) (Nat.le_refl _) (by first | (rw [decide_eq_true (by omega)]; rfl) | (rw [decide_eq_false (by omega)]; rfl)) (rfl)
    · have h29a := of_decide_eq_true h29
      refine g_iconst (pc2 := 33) dX3_isTrain_32 k_iconst_1 rfl ?_
      refine g_goto 37 dX3_isTrain_33 rfl ?_
      refine g_is1 (pc2 := 38) dX3_isTrain_37 (by decide) rfl ?_
      refine g_al0 (pc2 := 39) dX3_isTrain_38 rfl ?_
      refine g_getr (pc2 := 42) (by rfl) (by rfl) flX3_11 dX3_isTrain_39 rfl ?_
      refine g_iconst (pc2 := 43) dX3_isTrain_42 k_iconst_2 rfl ?_
      refine g_iald (pc2 := 44) (by rfl) (by omega) (by decide) dX3_isTrain_43 rfl ?_
      rw [n2]
      refine g_iconst (pc2 := 45) dX3_isTrain_44 k_iconst_1 rfl ?_
      refine g_icmpN_lt 78 48 dX3_isTrain_45 rfl rfl (by omega) (by omega) (fun h45 => ?_) (fun h45 => ?_)
      · refine g_iconst (pc2 := 79) dX3_isTrain_78 k_iconst_0 rfl ?_
        refine g_is2 (pc2 := 80) dX3_isTrain_79 (by decide) rfl ?_
        refine g_al0 (pc2 := 81) dX3_isTrain_80 rfl ?_
        refine g_getr (pc2 := 84) (by rfl) (by rfl) flX3_11 dX3_isTrain_81 rfl ?_
        refine g_iconst (pc2 := 85) dX3_isTrain_84 k_iconst_4 rfl ?_
        refine g_iald (pc2 := 86) (by rfl) (by omega) (by decide) dX3_isTrain_85 rfl ?_
        rw [n4]
        refine g_bipush (pc2 := 88) dX3_isTrain_86 k_bipush_9 rfl ?_
        refine g_icmpN_eq 107 91 dX3_isTrain_88 rfl rfl (by omega) (by omega) (fun h88 => ?_) (fun h88 => ?_)
        · try (have h104a := of_decide_eq_true h104)
          refine g_iconst (pc2 := 108) dX3_isTrain_107 k_iconst_1 rfl ?_
          refine g_goto 112 dX3_isTrain_108 rfl ?_
          refine g_is3 (pc2 := 113) dX3_isTrain_112 (by decide) rfl ?_
          refine g_il1 (pc2 := 114) dX3_isTrain_113 rfl ?_
          refine g_if_eq 129 117 dX3_isTrain_114 rfl rfl (fun h => absurd h (nI_ne0 (by decide) (by decide))) (fun _ => ?_)
          refine g_il2 (pc2 := 118) dX3_isTrain_117 rfl ?_
          refine g_if_eq 129 121 dX3_isTrain_118 rfl rfl (fun _ => ?_) (fun h => absurd nI_0 h)
          refine g_iconst (pc2 := 130) dX3_isTrain_129 k_iconst_0 rfl ?_
          exact g_zretT dX3_isTrain_130 rfl (Nat.le_refl _) (Nat.le_refl _) (by first | (rw [decide_eq_true (by omega)]; rfl) | (rw [decide_eq_false (by omega)]; rfl)) (rfl)
        · refine g_al0 (pc2 := 92) dX3_isTrain_91 rfl ?_
          refine g_getr (pc2 := 95) (by rfl) (by rfl) flX3_23 dX3_isTrain_92 rfl ?_
          refine g_al0 (pc2 := 96) dX3_isTrain_95 rfl ?_
          refine g_getr (pc2 := 99) (by rfl) (by rfl) flX3_11 dX3_isTrain_96 rfl ?_
          refine g_iconst (pc2 := 100) dX3_isTrain_99 k_iconst_4 rfl ?_
          refine g_iald (pc2 := 101) (by rfl) (by omega) (by decide) dX3_isTrain_100 rfl ?_
          rw [n4]
          refine g_cVi (pc2 := 104) (R_c_hasTrack26 l d _ _ _) meX6_hasTrack mlX3_91 (by rfl) ⟨_, rfl, rfl⟩ rfl rfl (by simp) ⟨Nat.le_refl _, Nat.le_refl _⟩ dX3_isTrain_101 rfl ?_
          rw [hd1 x g4]
          refine g_if_eqB 111 107 dX3_isTrain_104 rfl rfl (fun h104 => ?_) (fun h104 => ?_)
          · have h104b := of_decide_eq_false h104
            refine g_iconst (pc2 := 112) dX3_isTrain_111 k_iconst_0 rfl ?_
            refine g_is3 (pc2 := 113) dX3_isTrain_112 (by decide) rfl ?_
            refine g_il1 (pc2 := 114) dX3_isTrain_113 rfl ?_
            refine g_if_eq 129 117 dX3_isTrain_114 rfl rfl (fun h => absurd h (nI_ne0 (by decide) (by decide))) (fun _ => ?_)
            refine g_il2 (pc2 := 118) dX3_isTrain_117 rfl ?_
            refine g_if_eq 129 121 dX3_isTrain_118 rfl rfl (fun _ => ?_) (fun h => absurd nI_0 h)
            refine g_iconst (pc2 := 130) dX3_isTrain_129 k_iconst_0 rfl ?_
            exact g_zretT dX3_isTrain_130 rfl (Nat.le_refl _) (Nat.le_refl _) (by first | (rw [decide_eq_true (by omega)]; rfl) | (rw [decide_eq_false (by omega)]; rfl)) (rfl)
          · try (have h104a := of_decide_eq_true h104)
            refine g_iconst (pc2 := 108) dX3_isTrain_107 k_iconst_1 rfl ?_
            refine g_goto 112 dX3_isTrain_108 rfl ?_
            refine g_is3 (pc2 := 113) dX3_isTrain_112 (by decide) rfl ?_
            refine g_il1 (pc2 := 114) dX3_isTrain_113 rfl ?_
            refine g_if_eq 129 117 dX3_isTrain_114 rfl rfl (fun h => absurd h (nI_ne0 (by decide) (by decide))) (fun _ => ?_)
            refine g_il2 (pc2 := 118) dX3_isTrain_117 rfl ?_
            refine g_if_eq 129 121 dX3_isTrain_118 rfl rfl (fun _ => ?_) (fun h => absurd nI_0 h)
            refine g_iconst (pc2 := 130) dX3_isTrain_129 k_iconst_0 rfl ?_
            exact g_zretT dX3_isTrain_130 rfl (Nat.le_refl _) (Nat.le_refl _) (by first | (rw [decide_eq_true (by omega)]; rfl) | (rw [decide_eq_false (by omega)]; rfl)) (rfl)
      · refine g_al0 (pc2 := 49) dX3_isTrain_48 rfl ?_
        refine g_getr (pc2 := 52) (by rfl) (by rfl) flX3_11 dX3_isTrain_49 rfl ?_
        refine g_iconst (pc2 := 53) dX3_isTrain_52 k_iconst_3 rfl ?_
        refine g_iald (pc2 := 54) (by rfl) (by omega) (by decide) dX3_isTrain_53 rfl ?_
        rw [n3]
        refine g_al0 (pc2 := 55) dX3_isTrain_54 rfl ?_
        refine g_getr (pc2 := 58) (by rfl) (by rfl) flX3_11 dX3_isTrain_55 rfl ?_
        refine g_iconst (pc2 := 59) dX3_isTrain_58 k_iconst_2 rfl ?_
        refine g_iald (pc2 := 60) (by rfl) (by omega) (by decide) dX3_isTrain_59 rfl ?_
        rw [n2]
        refine g_icmpN_lt 78 63 dX3_isTrain_60 rfl rfl (by omega) (by omega) (fun h60 => ?_) (fun h60 => ?_)
        · refine g_iconst (pc2 := 79) dX3_isTrain_78 k_iconst_0 rfl ?_
          refine g_is2 (pc2 := 80) dX3_isTrain_79 (by decide) rfl ?_
          refine g_al0 (pc2 := 81) dX3_isTrain_80 rfl ?_
          refine g_getr (pc2 := 84) (by rfl) (by rfl) flX3_11 dX3_isTrain_81 rfl ?_
          refine g_iconst (pc2 := 85) dX3_isTrain_84 k_iconst_4 rfl ?_
          refine g_iald (pc2 := 86) (by rfl) (by omega) (by decide) dX3_isTrain_85 rfl ?_
          rw [n4]
          refine g_bipush (pc2 := 88) dX3_isTrain_86 k_bipush_9 rfl ?_
          refine g_icmpN_eq 107 91 dX3_isTrain_88 rfl rfl (by omega) (by omega) (fun h88 => ?_) (fun h88 => ?_)
          · try (have h104a := of_decide_eq_true h104)
            refine g_iconst (pc2 := 108) dX3_isTrain_107 k_iconst_1 rfl ?_
            refine g_goto 112 dX3_isTrain_108 rfl ?_
            refine g_is3 (pc2 := 113) dX3_isTrain_112 (by decide) rfl ?_
            refine g_il1 (pc2 := 114) dX3_isTrain_113 rfl ?_
            refine g_if_eq 129 117 dX3_isTrain_114 rfl rfl (fun h => absurd h (nI_ne0 (by decide) (by decide))) (fun _ => ?_)
            refine g_il2 (pc2 := 118) dX3_isTrain_117 rfl ?_
            refine g_if_eq 129 121 dX3_isTrain_118 rfl rfl (fun _ => ?_) (fun h => absurd nI_0 h)
            refine g_iconst (pc2 := 130) dX3_isTrain_129 k_iconst_0 rfl ?_
            exact g_zretT dX3_isTrain_130 rfl (Nat.le_refl _) (Nat.le_refl _) (by first | (rw [decide_eq_true (by omega)]; rfl) | (rw [decide_eq_false (by omega)]; rfl)) (rfl)
          · refine g_al0 (pc2 := 92) dX3_isTrain_91 rfl ?_
            refine g_getr (pc2 := 95) (by rfl) (by rfl) flX3_23 dX3_isTrain_92 rfl ?_
            refine g_al0 (pc2 := 96) dX3_isTrain_95 rfl ?_
            refine g_getr (pc2 := 99) (by rfl) (by rfl) flX3_11 dX3_isTrain_96 rfl ?_
            refine g_iconst (pc2 := 100) dX3_isTrain_99 k_iconst_4 rfl ?_
            refine g_iald (pc2 := 101) (by rfl) (by omega) (by decide) dX3_isTrain_100 rfl ?_
            rw [n4]
            refine g_cVi (pc2 := 104) (R_c_hasTrack26 l d _ _ _) meX6_hasTrack mlX3_91 (by rfl) ⟨_, rfl, rfl⟩ rfl rfl (by simp) ⟨Nat.le_refl _, Nat.le_refl _⟩ dX3_isTrain_101 rfl ?_
            rw [hd1 x g4]
            refine g_if_eqB 111 107 dX3_isTrain_104 rfl rfl (fun h104 => ?_) (fun h104 => ?_)
            · have h104b := of_decide_eq_false h104
              refine g_iconst (pc2 := 112) dX3_isTrain_111 k_iconst_0 rfl ?_
              refine g_is3 (pc2 := 113) dX3_isTrain_112 (by decide) rfl ?_
              refine g_il1 (pc2 := 114) dX3_isTrain_113 rfl ?_
              refine g_if_eq 129 117 dX3_isTrain_114 rfl rfl (fun h => absurd h (nI_ne0 (by decide) (by decide))) (fun _ => ?_)
              refine g_il2 (pc2 := 118) dX3_isTrain_117 rfl ?_
              refine g_if_eq 129 121 dX3_isTrain_118 rfl rfl (fun _ => ?_) (fun h => absurd nI_0 h)
              refine g_iconst (pc2 := 130) dX3_isTrain_129 k_iconst_0 rfl ?_
              exact g_zretT dX3_isTrain_130 rfl (Nat.le_refl _) (Nat.le_refl _) (by first | (rw [decide_eq_true (by omega)]; rfl) | (rw [decide_eq_false (by omega)]; rfl)) (rfl)
            · try (have h104a := of_decide_eq_true h104)
              refine g_iconst (pc2 := 108) dX3_isTrain_107 k_iconst_1 rfl ?_
              refine g_goto 112 dX3_isTrain_108 rfl ?_
              refine g_is3 (pc2 := 113) dX3_isTrain_112 (by decide) rfl ?_
              refine g_il1 (pc2 := 114) dX3_isTrain_113 rfl ?_
              refine g_if_eq 129 117 dX3_isTrain_114 rfl rfl (fun h => absurd h (nI_ne0 (by decide) (by decide))) (fun _ => ?_)
              refine g_il2 (pc2 := 118) dX3_isTrain_117 rfl ?_
              refine g_if_eq 129 121 dX3_isTrain_118 rfl rfl (fun _ => ?_) (fun h => absurd nI_0 h)
              refine g_iconst (pc2 := 130) dX3_isTrain_129 k_iconst_0 rfl ?_
              exact g_zretT dX3_isTrain_130 rfl (Nat.le_refl _) (Nat.le_refl _) (by first | (rw [decide_eq_true (by omega)]; rfl) | (rw [decide_eq_false (by omega)]; rfl)) (rfl)
        · refine g_al0 (pc2 := 64) dX3_isTrain_63 rfl ?_
          refine g_getr (pc2 := 67) (by rfl) (by rfl) flX3_11 dX3_isTrain_64 rfl ?_
          refine g_iconst (pc2 := 68) dX3_isTrain_67 k_iconst_3 rfl ?_
          refine g_iald (pc2 := 69) (by rfl) (by omega) (by decide) dX3_isTrain_68 rfl ?_
          rw [n3]
          refine g_bipush (pc2 := 71) dX3_isTrain_69 k_bipush_98 rfl ?_
          refine g_icmpN_gt 78 74 dX3_isTrain_71 rfl rfl (by omega) (by omega) (fun h71 => ?_) (fun h71 => ?_)
          · refine g_iconst (pc2 := 79) dX3_isTrain_78 k_iconst_0 rfl ?_
            refine g_is2 (pc2 := 80) dX3_isTrain_79 (by decide) rfl ?_
            refine g_al0 (pc2 := 81) dX3_isTrain_80 rfl ?_
            refine g_getr (pc2 := 84) (by rfl) (by rfl) flX3_11 dX3_isTrain_81 rfl ?_
            refine g_iconst (pc2 := 85) dX3_isTrain_84 k_iconst_4 rfl ?_
            refine g_iald (pc2 := 86) (by rfl) (by omega) (by decide) dX3_isTrain_85 rfl ?_
            rw [n4]
            refine g_bipush (pc2 := 88) dX3_isTrain_86 k_bipush_9 rfl ?_
            refine g_icmpN_eq 107 91 dX3_isTrain_88 rfl rfl (by omega) (by omega) (fun h88 => ?_) (fun h88 => ?_)
            · try (have h104a := of_decide_eq_true h104)
              refine g_iconst (pc2 := 108) dX3_isTrain_107 k_iconst_1 rfl ?_
              refine g_goto 112 dX3_isTrain_108 rfl ?_
              refine g_is3 (pc2 := 113) dX3_isTrain_112 (by decide) rfl ?_
              refine g_il1 (pc2 := 114) dX3_isTrain_113 rfl ?_
              refine g_if_eq 129 117 dX3_isTrain_114 rfl rfl (fun h => absurd h (nI_ne0 (by decide) (by decide))) (fun _ => ?_)
              refine g_il2 (pc2 := 118) dX3_isTrain_117 rfl ?_
              refine g_if_eq 129 121 dX3_isTrain_118 rfl rfl (fun _ => ?_) (fun h => absurd nI_0 h)
              refine g_iconst (pc2 := 130) dX3_isTrain_129 k_iconst_0 rfl ?_
              exact g_zretT dX3_isTrain_130 rfl (Nat.le_refl _) (Nat.le_refl _) (by first | (rw [decide_eq_true (by omega)]; rfl) | (rw [decide_eq_false (by omega)]; rfl)) (rfl)
            · refine g_al0 (pc2 := 92) dX3_isTrain_91 rfl ?_
              refine g_getr (pc2 := 95) (by rfl) (by rfl) flX3_23 dX3_isTrain_92 rfl ?_
              refine g_al0 (pc2 := 96) dX3_isTrain_95 rfl ?_
              refine g_getr (pc2 := 99) (by rfl) (by rfl) flX3_11 dX3_isTrain_96 rfl ?_
              refine g_iconst (pc2 := 100) dX3_isTrain_99 k_iconst_4 rfl ?_
              refine g_iald (pc2 := 101) (by rfl) (by omega) (by decide) dX3_isTrain_100 rfl ?_
              rw [n4]
              refine g_cVi (pc2 := 104) (R_c_hasTrack26 l d _ _ _) meX6_hasTrack mlX3_91 (by rfl) ⟨_, rfl, rfl⟩ rfl rfl (by simp) ⟨Nat.le_refl _, Nat.le_refl _⟩ dX3_isTrain_101 rfl ?_
              rw [hd1 x g4]
              refine g_if_eqB 111 107 dX3_isTrain_104 rfl rfl (fun h104 => ?_) (fun h104 => ?_)
              · have h104b := of_decide_eq_false h104
                refine g_iconst (pc2 := 112) dX3_isTrain_111 k_iconst_0 rfl ?_
                refine g_is3 (pc2 := 113) dX3_isTrain_112 (by decide) rfl ?_
                refine g_il1 (pc2 := 114) dX3_isTrain_113 rfl ?_
                refine g_if_eq 129 117 dX3_isTrain_114 rfl rfl (fun h => absurd h (nI_ne0 (by decide) (by decide))) (fun _ => ?_)
                refine g_il2 (pc2 := 118) dX3_isTrain_117 rfl ?_
                refine g_if_eq 129 121 dX3_isTrain_118 rfl rfl (fun _ => ?_) (fun h => absurd nI_0 h)
                refine g_iconst (pc2 := 130) dX3_isTrain_129 k_iconst_0 rfl ?_
                exact g_zretT dX3_isTrain_130 rfl (Nat.le_refl _) (Nat.le_refl _) (by first | (rw [decide_eq_true (by omega)]; rfl) | (rw [decide_eq_false (by omega)]; rfl)) (rfl)
              · try (have h104a := of_decide_eq_true h104)
                refine g_iconst (pc2 := 108) dX3_isTrain_107 k_iconst_1 rfl ?_
                refine g_goto 112 dX3_isTrain_108 rfl ?_
                refine g_is3 (pc2 := 113) dX3_isTrain_112 (by decide) rfl ?_
                refine g_il1 (pc2 := 114) dX3_isTrain_113 rfl ?_
                refine g_if_eq 129 117 dX3_isTrain_114 rfl rfl (fun h => absurd h (nI_ne0 (by decide) (by decide))) (fun _ => ?_)
                refine g_il2 (pc2 := 118) dX3_isTrain_117 rfl ?_
                refine g_if_eq 129 121 dX3_isTrain_118 rfl rfl (fun _ => ?_) (fun h => absurd nI_0 h)
                refine g_iconst (pc2 := 130) dX3_isTrain_129 k_iconst_0 rfl ?_
                exact g_zretT dX3_isTrain_130 rfl (Nat.le_refl _) (Nat.le_refl _) (by first | (rw [decide_eq_true (by omega)]; rfl) | (rw [decide_eq_false (by omega)]; rfl)) (rfl)
          · refine g_iconst (pc2 := 75) dX3_isTrain_74 k_iconst_1 rfl ?_
            refine g_goto 79 dX3_isTrain_75 rfl ?_
            refine g_is2 (pc2 := 80) dX3_isTrain_79 (by decide) rfl ?_
            refine g_al0 (pc2 := 81) dX3_isTrain_80 rfl ?_
            refine g_getr (pc2 := 84) (by rfl) (by rfl) flX3_11 dX3_isTrain_81 rfl ?_
            refine g_iconst (pc2 := 85) dX3_isTrain_84 k_iconst_4 rfl ?_
            refine g_iald (pc2 := 86) (by rfl) (by omega) (by decide) dX3_isTrain_85 rfl ?_
            rw [n4]
            refine g_bipush (pc2 := 88) dX3_isTrain_86 k_bipush_9 rfl ?_
            refine g_icmpN_eq 107 91 dX3_isTrain_88 rfl rfl (by omega) (by omega) (fun h88 => ?_) (fun h88 => ?_)
            · try (have h104a := of_decide_eq_true h104)
              refine g_iconst (pc2 := 108) dX3_isTrain_107 k_iconst_1 rfl ?_
              refine g_goto 112 dX3_isTrain_108 rfl ?_
              refine g_is3 (pc2 := 113) dX3_isTrain_112 (by decide) rfl ?_
              refine g_il1 (pc2 := 114) dX3_isTrain_113 rfl ?_
              refine g_if_eq 129 117 dX3_isTrain_114 rfl rfl (fun h => absurd h (nI_ne0 (by decide) (by decide))) (fun _ => ?_)
              refine g_il2 (pc2 := 118) dX3_isTrain_117 rfl ?_
              refine g_if_eq 129 121 dX3_isTrain_118 rfl rfl (fun h => absurd h (nI_ne0 (by decide) (by decide))) (fun _ => ?_)
              refine g_il3 (pc2 := 122) dX3_isTrain_121 rfl ?_
              refine g_if_eq 129 125 dX3_isTrain_122 rfl rfl (fun h => absurd h (nI_ne0 (by decide) (by decide))) (fun _ => ?_)
              refine g_iconst (pc2 := 126) dX3_isTrain_125 k_iconst_1 rfl ?_
              refine g_goto 130 dX3_isTrain_126 rfl ?_
              exact g_zretT dX3_isTrain_130 rfl (Nat.le_refl _) (Nat.le_refl _) (by first | (rw [decide_eq_true (by omega)]; rfl) | (rw [decide_eq_false (by omega)]; rfl)) (rfl)
            · refine g_al0 (pc2 := 92) dX3_isTrain_91 rfl ?_
              refine g_getr (pc2 := 95) (by rfl) (by rfl) flX3_23 dX3_isTrain_92 rfl ?_
              refine g_al0 (pc2 := 96) dX3_isTrain_95 rfl ?_
              refine g_getr (pc2 := 99) (by rfl) (by rfl) flX3_11 dX3_isTrain_96 rfl ?_
              refine g_iconst (pc2 := 100) dX3_isTrain_99 k_iconst_4 rfl ?_
              refine g_iald (pc2 := 101) (by rfl) (by omega) (by decide) dX3_isTrain_100 rfl ?_
              rw [n4]
              refine g_cVi (pc2 := 104) (R_c_hasTrack26 l d _ _ _) meX6_hasTrack mlX3_91 (by rfl) ⟨_, rfl, rfl⟩ rfl rfl (by simp) ⟨Nat.le_refl _, Nat.le_refl _⟩ dX3_isTrain_101 rfl ?_
              rw [hd1 x g4]
              refine g_if_eqB 111 107 dX3_isTrain_104 rfl rfl (fun h104 => ?_) (fun h104 => ?_)
              · have h104b := of_decide_eq_false h104
                refine g_iconst (pc2 := 112) dX3_isTrain_111 k_iconst_0 rfl ?_
                refine g_is3 (pc2 := 113) dX3_isTrain_112 (by decide) rfl ?_
                refine g_il1 (pc2 := 114) dX3_isTrain_113 rfl ?_
                refine g_if_eq 129 117 dX3_isTrain_114 rfl rfl (fun h => absurd h (nI_ne0 (by decide) (by decide))) (fun _ => ?_)
                refine g_il2 (pc2 := 118) dX3_isTrain_117 rfl ?_
                refine g_if_eq 129 121 dX3_isTrain_118 rfl rfl (fun h => absurd h (nI_ne0 (by decide) (by decide))) (fun _ => ?_)
                refine g_il3 (pc2 := 122) dX3_isTrain_121 rfl ?_
                refine g_if_eq 129 125 dX3_isTrain_122 rfl rfl (fun _ => ?_) (fun h => absurd nI_0 h)
                refine g_iconst (pc2 := 130) dX3_isTrain_129 k_iconst_0 rfl ?_
                exact g_zretT dX3_isTrain_130 rfl (Nat.le_refl _) (Nat.le_refl _) (by first | (rw [decide_eq_true (by omega)]; rfl) | (rw [decide_eq_false (by omega)]; rfl)) (rfl)
              · try (have h104a := of_decide_eq_true h104)
                refine g_iconst (pc2 := 108) dX3_isTrain_107 k_iconst_1 rfl ?_
                refine g_goto 112 dX3_isTrain_108 rfl ?_
                refine g_is3 (pc2 := 113) dX3_isTrain_112 (by decide) rfl ?_
                refine g_il1 (pc2 := 114) dX3_isTrain_113 rfl ?_
                refine g_if_eq 129 117 dX3_isTrain_114 rfl rfl (fun h => absurd h (nI_ne0 (by decide) (by decide))) (fun _ => ?_)
                refine g_il2 (pc2 := 118) dX3_isTrain_117 rfl ?_
                refine g_if_eq 129 121 dX3_isTrain_118 rfl rfl (fun h => absurd h (nI_ne0 (by decide) (by decide))) (fun _ => ?_)
                refine g_il3 (pc2 := 122) dX3_isTrain_121 rfl ?_
                refine g_if_eq 129 125 dX3_isTrain_122 rfl rfl (fun h => absurd h (nI_ne0 (by decide) (by decide))) (fun _ => ?_)
                refine g_iconst (pc2 := 126) dX3_isTrain_125 k_iconst_1 rfl ?_
                refine g_goto 130 dX3_isTrain_126 rfl ?_
                exact g_zretT dX3_isTrain_130 rfl (Nat.le_refl _) (Nat.le_refl _) (by first | (rw [decide_eq_true (by omega)]; rfl) | (rw [decide_eq_false (by omega)]; rfl)) (rfl)
theorem R_c_tellTrain25 (l : lt_L) (d : Nat) (t : lt_H) (σ : lt_S) {r : Nat → Int32} {ln T N : Nat} {ns : List Nat} (h : In25 σ r ln T N ns) (hr0 : ¬ r 0 = nI 0) : lt_R l (d + 3) 0 0 mX3_tellTrain (lt_SC ++ t) σ [.ref 25] (tQ25 t σ (itemR r 2 ns)) := by
  have hIn := h
  obtain ⟨hW, hC, hns, hle, hl1, hl6⟩ := h
  refine lt_R.of [some (.ref 25), none] rfl rfl (Nat.le_of_ble_eq_true rfl) ?_
  have hsz := hns.1
  have hN7 := hW.2.2.1.2
  obtain ⟨e0, e1, eN⟩ := hW.e
  have y2 : σ 26 2 = nI N := hC.1.1.2.2.1.trans hW.2.2.1.1
  have g4 := getD_le hle 4
  rw [item2 hr0]
  by_cases hlen : ns.length = 5
  · have n0 := hns.2 0 (by omega)
    have n1 := hns.2 1 (by omega)
    have n2 := hns.2 2 (by omega)
    have n3 := hns.2 3 (by omega)
    have n4 := hns.2 4 (by omega)
    have ist := R_c_isTrain25 l d t σ hIn hlen
    by_cases hok : okCome r ns = true
    · rw [if_pos hok]
      have hc := okC_iff.mp hok
      rw [e0, e1, eN] at hc
      rw [decide_eq_true hc.2.2] at ist
      unfold rowCome
      have finF : FR25 σ (lt_up (lt_up (lt_up (lt_up (lt_up (lt_up (lt_up (lt_up σ 28 N (nI (ns.getD 0 0))) 29 N (nI (ns.getD 1 0))) 30 N (-4)) 32 N (nI (ns.getD 2 0))) 33 N (nI (ns.getD 3 0))) 34 N (nI (ns.getD 4 0))) 35 N (-4)) 26 2 (nI (N + 1))) := by
        intro b h1 h2
        rw [lt_up_nr _ _ _ (by omega), lt_up_nr _ _ _ (by omega), lt_up_nr _ _ _ (by omega), lt_up_nr _ _ _ (by omega), lt_up_nr _ _ _ (by omega), lt_up_nr _ _ _ (by omega), lt_up_nr _ _ _ (by omega), lt_up_nr _ _ _ (by omega)]
      have fin : CR25 (lt_up (lt_up (lt_up (lt_up (lt_up (lt_up (lt_up (lt_up σ 28 N (nI (ns.getD 0 0))) 29 N (nI (ns.getD 1 0))) 30 N (-4)) 32 N (nI (ns.getD 2 0))) 33 N (nI (ns.getD 3 0))) 34 N (nI (ns.getD 4 0))) 35 N (-4)) 26 2 (nI (N + 1))) (comeRow r (nI (ns.getD 0 0)) (nI (ns.getD 1 0)) (nI (ns.getD 2 0)) (nI (ns.getD 3 0)) (if ns.getD 4 0 = 9 then -4 else nI (ns.getD 4 0))) := by
        obtain ⟨c0, c1, c2, c3, c4, c5, c6, c7⟩ := comeRow_new eN (nI (ns.getD 0 0)) (nI (ns.getD 1 0)) (nI (ns.getD 2 0)) (nI (ns.getD 3 0)) (if ns.getD 4 0 = 9 then -4 else nI (ns.getD 4 0))
        have old := fun (j : Nat) (h2 : j ≠ 2) h => comeRow_old eN (nI (ns.getD 0 0)) (nI (ns.getD 1 0)) (nI (ns.getD 2 0)) (nI (ns.getD 3 0)) (if ns.getD 4 0 = 9 then -4 else nI (ns.getD 4 0)) (j := j) h2 h
        unfold CR25
        rw [c7, tN_nI (by omega)]
        refine ⟨⟨⟨?_, ?_, ?_, ?_⟩, fun k hk => ?_, fun i hi => ?_⟩, fun i hi => ?_⟩
        · rw [old 0 (by omega) (by omega)]; exact hC.1.1.1
        · rw [old 1 (by omega) (by omega)]; exact hC.1.1.2.1
        · rw [c7]; rfl
        · rw [old 3 (by omega) (by omega)]; exact hC.1.1.2.2.2
        · rw [old _ (by omega) (by omega)]; exact hC.1.2.1 k hk
        · show lt_up σ 28 N (nI (ns.getD 0 0)) 28 i = _ ∧ lt_up σ 29 N (nI (ns.getD 1 0)) 29 i = _ ∧ lt_up σ 30 N (-4) 30 i = _
          by_cases ci : i = N
          · subst ci
            rw [c0, c1, c5, lt_up_at, lt_up_at, lt_up_at]
            exact ⟨rfl, rfl, rfl⟩
          · rw [old _ (by omega) (by omega), old _ (by omega) (by omega), old _ (by omega) (by omega), lt_up_ne _ _ _ ci, lt_up_ne _ _ _ ci, lt_up_ne _ _ _ ci]
            exact hC.1.2.2 i (by omega)
        · show lt_up σ 32 N (nI (ns.getD 2 0)) 32 i = _ ∧ lt_up σ 33 N (nI (ns.getD 3 0)) 33 i = _ ∧ lt_up σ 34 N (nI (ns.getD 4 0)) 34 i = _ ∧ lt_up σ 35 N (-4) 35 i = _
          by_cases ci : i = N
          · subst ci
            rw [c2, c3, c4, c6, lt_up_at, lt_up_at, lt_up_at, lt_up_at]
            exact ⟨rfl, rfl, wish9 g4, rfl⟩
          · rw [old _ (by omega) (by omega), old _ (by omega) (by omega), old _ (by omega) (by omega), old _ (by omega) (by omega), lt_up_ne _ _ _ ci, lt_up_ne _ _ _ ci, lt_up_ne _ _ _ ci, lt_up_ne _ _ _ ci]
            exact hC.2 i (by omega)
      refine g_al0 (pc2 := 1) dX3_tellTrain_0 rfl ?_
      refine g_getr (pc2 := 4) (by rfl) (by rfl) flX3_23 dX3_tellTrain_1 rfl ?_
      refine g_geti (pc2 := 7) (by rfl) (by rfl) flX3_97 dX3_tellTrain_4 rfl ?_
      rw [y2]
      refine g_is1 (pc2 := 8) dX3_tellTrain_7 (by decide) rfl ?_
      refine g_al0 (pc2 := 9) dX3_tellTrain_8 rfl ?_
      refine g_geti (pc2 := 12) (by rfl) (by rfl) flX3_15 dX3_tellTrain_9 rfl ?_
      rw [hsz]
      refine g_iconst (pc2 := 13) dX3_tellTrain_12 k_iconst_5 rfl ?_
      refine g_icmpN_ne 29 16 dX3_tellTrain_13 rfl rfl (by omega) (by omega) (fun h13 => ?_) (fun h13 => ?_)
      · exact absurd hlen h13
      · refine g_il1 (pc2 := 17) dX3_tellTrain_16 rfl ?_
        refine g_bipush (pc2 := 19) dX3_tellTrain_17 k_bipush_7 rfl ?_
        refine g_icmpN_ge 29 22 dX3_tellTrain_19 rfl rfl (by omega) (by omega) (fun h19 => ?_) (fun h19 => ?_)
        · omega
        · refine g_al0 (pc2 := 23) dX3_tellTrain_22 rfl ?_
          refine g_cVi (pc2 := 26) (ist) meX3_isTrain mlX3_100 (by rfl) ⟨_, rfl, rfl⟩ rfl rfl (by simp) ⟨Nat.le_refl _, Nat.le_refl _⟩ dX3_tellTrain_23 rfl ?_
          refine g_if_neB 31 29 dX3_tellTrain_26 rfl rfl (fun h26 => ?_) (fun h26 => ?_)
          · refine g_al0 (pc2 := 32) dX3_tellTrain_31 rfl ?_
            refine g_getr (pc2 := 35) (by rfl) (by rfl) flX3_23 dX3_tellTrain_32 rfl ?_
            refine g_getr (pc2 := 38) (by rfl) (by rfl) flX3_103 dX3_tellTrain_35 rfl ?_
            refine g_il1 (pc2 := 39) dX3_tellTrain_38 rfl ?_
            refine g_al0 (pc2 := 40) dX3_tellTrain_39 rfl ?_
            refine g_getr (pc2 := 43) (by rfl) (by rfl) flX3_11 dX3_tellTrain_40 rfl ?_
            refine g_iconst (pc2 := 44) dX3_tellTrain_43 k_iconst_0 rfl ?_
            refine g_iald (pc2 := 45) (by rfl) (by omega) (by decide) dX3_tellTrain_44 rfl ?_
            rw [n0]
            refine g_iast (pc2 := 46) (by rfl) (by omega) (by decide) dX3_tellTrain_45 rfl ?_
            refine g_al0 (pc2 := 47) dX3_tellTrain_46 rfl ?_
            refine g_getr (pc2 := 50) (by rfl) (by rfl) flX3_23 dX3_tellTrain_47 rfl ?_
            refine g_getr (pc2 := 53) (by rfl) (by rfl) flX3_106 dX3_tellTrain_50 rfl ?_
            refine g_il1 (pc2 := 54) dX3_tellTrain_53 rfl ?_
            refine g_al0 (pc2 := 55) dX3_tellTrain_54 rfl ?_
            refine g_getr (pc2 := 58) (by rfl) (by rfl) flX3_11 dX3_tellTrain_55 rfl ?_
            refine g_iconst (pc2 := 59) dX3_tellTrain_58 k_iconst_1 rfl ?_
            refine g_iald (pc2 := 60) (by rfl) (by omega) (by decide) dX3_tellTrain_59 rfl ?_
            rw [show lt_up σ 28 N (nI (ns.getD 0 0)) 36 1 = σ 36 1 from rfl, n1]
            refine g_iast (pc2 := 61) (by rfl) (by omega) (by decide) dX3_tellTrain_60 rfl ?_
            refine g_al0 (pc2 := 62) dX3_tellTrain_61 rfl ?_
            refine g_getr (pc2 := 65) (by rfl) (by rfl) flX3_23 dX3_tellTrain_62 rfl ?_
            refine g_getr (pc2 := 68) (by rfl) (by rfl) flX3_109 dX3_tellTrain_65 rfl ?_
            refine g_il1 (pc2 := 69) dX3_tellTrain_68 rfl ?_
            refine g_bipush (pc2 := 71) dX3_tellTrain_69 k_bipush_m4 rfl ?_
            refine g_iast (pc2 := 72) (by rfl) (by omega) (by decide) dX3_tellTrain_71 rfl ?_
            refine g_al0 (pc2 := 73) dX3_tellTrain_72 rfl ?_
            refine g_getr (pc2 := 76) (by rfl) (by rfl) flX3_27 dX3_tellTrain_73 rfl ?_
            refine g_getr (pc2 := 79) (by rfl) (by rfl) flX3_112 dX3_tellTrain_76 rfl ?_
            refine g_il1 (pc2 := 80) dX3_tellTrain_79 rfl ?_
            refine g_al0 (pc2 := 81) dX3_tellTrain_80 rfl ?_
            refine g_getr (pc2 := 84) (by rfl) (by rfl) flX3_11 dX3_tellTrain_81 rfl ?_
            refine g_iconst (pc2 := 85) dX3_tellTrain_84 k_iconst_2 rfl ?_
            refine g_iald (pc2 := 86) (by rfl) (by omega) (by decide) dX3_tellTrain_85 rfl ?_
            rw [show lt_up (lt_up (lt_up σ 28 N (nI (ns.getD 0 0))) 29 N (nI (ns.getD 1 0))) 30 N (-4) 36 2 = σ 36 2 from rfl, n2]
            refine g_iast (pc2 := 87) (by rfl) (by omega) (by decide) dX3_tellTrain_86 rfl ?_
            refine g_al0 (pc2 := 88) dX3_tellTrain_87 rfl ?_
            refine g_getr (pc2 := 91) (by rfl) (by rfl) flX3_27 dX3_tellTrain_88 rfl ?_
            refine g_getr (pc2 := 94) (by rfl) (by rfl) flX3_117 dX3_tellTrain_91 rfl ?_
            refine g_il1 (pc2 := 95) dX3_tellTrain_94 rfl ?_
            refine g_al0 (pc2 := 96) dX3_tellTrain_95 rfl ?_
            refine g_getr (pc2 := 99) (by rfl) (by rfl) flX3_11 dX3_tellTrain_96 rfl ?_
            refine g_iconst (pc2 := 100) dX3_tellTrain_99 k_iconst_3 rfl ?_
            refine g_iald (pc2 := 101) (by rfl) (by omega) (by decide) dX3_tellTrain_100 rfl ?_
            rw [show lt_up (lt_up (lt_up (lt_up σ 28 N (nI (ns.getD 0 0))) 29 N (nI (ns.getD 1 0))) 30 N (-4)) 32 N (nI (ns.getD 2 0)) 36 3 = σ 36 3 from rfl, n3]
            refine g_iast (pc2 := 102) (by rfl) (by omega) (by decide) dX3_tellTrain_101 rfl ?_
            refine g_al0 (pc2 := 103) dX3_tellTrain_102 rfl ?_
            refine g_getr (pc2 := 106) (by rfl) (by rfl) flX3_27 dX3_tellTrain_103 rfl ?_
            refine g_getr (pc2 := 109) (by rfl) (by rfl) flX3_120 dX3_tellTrain_106 rfl ?_
            refine g_il1 (pc2 := 110) dX3_tellTrain_109 rfl ?_
            refine g_al0 (pc2 := 111) dX3_tellTrain_110 rfl ?_
            refine g_getr (pc2 := 114) (by rfl) (by rfl) flX3_11 dX3_tellTrain_111 rfl ?_
            refine g_iconst (pc2 := 115) dX3_tellTrain_114 k_iconst_4 rfl ?_
            refine g_iald (pc2 := 116) (by rfl) (by omega) (by decide) dX3_tellTrain_115 rfl ?_
            rw [show lt_up (lt_up (lt_up (lt_up (lt_up σ 28 N (nI (ns.getD 0 0))) 29 N (nI (ns.getD 1 0))) 30 N (-4)) 32 N (nI (ns.getD 2 0))) 33 N (nI (ns.getD 3 0)) 36 4 = σ 36 4 from rfl, n4]
            refine g_iast (pc2 := 117) (by rfl) (by omega) (by decide) dX3_tellTrain_116 rfl ?_
            refine g_al0 (pc2 := 118) dX3_tellTrain_117 rfl ?_
            refine g_getr (pc2 := 121) (by rfl) (by rfl) flX3_27 dX3_tellTrain_118 rfl ?_
            refine g_getr (pc2 := 124) (by rfl) (by rfl) flX3_123 dX3_tellTrain_121 rfl ?_
            refine g_il1 (pc2 := 125) dX3_tellTrain_124 rfl ?_
            refine g_bipush (pc2 := 127) dX3_tellTrain_125 k_bipush_m4 rfl ?_
            refine g_iast (pc2 := 128) (by rfl) (by omega) (by decide) dX3_tellTrain_127 rfl ?_
            refine g_al0 (pc2 := 129) dX3_tellTrain_128 rfl ?_
            refine g_getr (pc2 := 132) (by rfl) (by rfl) flX3_23 dX3_tellTrain_129 rfl ?_
            refine g_dup (pc2 := 133) dX3_tellTrain_132 rfl ?_
            refine g_geti (pc2 := 136) (by rfl) (by rfl) flX3_97 dX3_tellTrain_133 rfl ?_
            rw [show lt_up (lt_up (lt_up (lt_up (lt_up (lt_up (lt_up σ 28 N (nI (ns.getD 0 0))) 29 N (nI (ns.getD 1 0))) 30 N (-4)) 32 N (nI (ns.getD 2 0))) 33 N (nI (ns.getD 3 0))) 34 N (nI (ns.getD 4 0))) 35 N (-4) 26 2 = σ 26 2 from rfl, y2]
            refine g_iconst (pc2 := 137) dX3_tellTrain_136 k_iconst_1 rfl ?_
            refine g_iaddN (pc2 := 138) dX3_tellTrain_137 rfl ?_
            refine g_puti (pc2 := 141) (by rfl) (by rfl) flX3_97 (fpX6_2 _) (fun h => by first | cases h | rfl) dX3_tellTrain_138 rfl ?_
            refine g_iconst (pc2 := 142) dX3_tellTrain_141 k_iconst_1 rfl ?_
            exact g_zret dX3_tellTrain_142 rfl (bI_nar true) (Nat.le_refl _) (Nat.le_refl _) (tQ25_ok finF fin)
          · cases h26
    · rw [if_neg hok]
      have hno : N < 7 → decide (ns.getD 0 0 < ln ∧ ns.getD 1 0 < ln ∧ 1 ≤ ns.getD 2 0 ∧ ns.getD 2 0 ≤ ns.getD 3 0 ∧ ns.getD 3 0 ≤ 98 ∧ (ns.getD 4 0 < T ∨ ns.getD 4 0 = 9)) = false := by
        intro h7
        refine decide_eq_false (fun q => hok ?_)
        rw [okC_iff, e0, e1, eN]
        exact ⟨hlen, h7, q⟩
      refine g_al0 (pc2 := 1) dX3_tellTrain_0 rfl ?_
      refine g_getr (pc2 := 4) (by rfl) (by rfl) flX3_23 dX3_tellTrain_1 rfl ?_
      refine g_geti (pc2 := 7) (by rfl) (by rfl) flX3_97 dX3_tellTrain_4 rfl ?_
      rw [y2]
      refine g_is1 (pc2 := 8) dX3_tellTrain_7 (by decide) rfl ?_
      refine g_al0 (pc2 := 9) dX3_tellTrain_8 rfl ?_
      refine g_geti (pc2 := 12) (by rfl) (by rfl) flX3_15 dX3_tellTrain_9 rfl ?_
      rw [hsz]
      refine g_iconst (pc2 := 13) dX3_tellTrain_12 k_iconst_5 rfl ?_
      refine g_icmpN_ne 29 16 dX3_tellTrain_13 rfl rfl (by omega) (by omega) (fun h13 => ?_) (fun h13 => ?_)
      · exact absurd hlen h13
      · refine g_il1 (pc2 := 17) dX3_tellTrain_16 rfl ?_
        refine g_bipush (pc2 := 19) dX3_tellTrain_17 k_bipush_7 rfl ?_
        refine g_icmpN_ge 29 22 dX3_tellTrain_19 rfl rfl (by omega) (by omega) (fun h19 => ?_) (fun h19 => ?_)
        · refine g_iconst (pc2 := 30) dX3_tellTrain_29 k_iconst_0 rfl ?_
          exact g_zret dX3_tellTrain_30 rfl (bI_nar false) (Nat.le_refl _) (Nat.le_refl _) tQ25_bad
        · refine g_al0 (pc2 := 23) dX3_tellTrain_22 rfl ?_
          refine g_cVi (pc2 := 26) (ist) meX3_isTrain mlX3_100 (by rfl) ⟨_, rfl, rfl⟩ rfl rfl (by simp) ⟨Nat.le_refl _, Nat.le_refl _⟩ dX3_tellTrain_23 rfl ?_
          rw [hno (by omega)]
          refine g_if_neB 31 29 dX3_tellTrain_26 rfl rfl (fun h26 => ?_) (fun h26 => ?_)
          · cases h26
          · refine g_iconst (pc2 := 30) dX3_tellTrain_29 k_iconst_0 rfl ?_
            exact g_zret dX3_tellTrain_30 rfl (bI_nar false) (Nat.le_refl _) (Nat.le_refl _) tQ25_bad
  · rw [if_neg (fun q => hlen (okC_iff.mp q).1)]
    refine g_al0 (pc2 := 1) dX3_tellTrain_0 rfl ?_
    refine g_getr (pc2 := 4) (by rfl) (by rfl) flX3_23 dX3_tellTrain_1 rfl ?_
    refine g_geti (pc2 := 7) (by rfl) (by rfl) flX3_97 dX3_tellTrain_4 rfl ?_
    rw [y2]
    refine g_is1 (pc2 := 8) dX3_tellTrain_7 (by decide) rfl ?_
    refine g_al0 (pc2 := 9) dX3_tellTrain_8 rfl ?_
    refine g_geti (pc2 := 12) (by rfl) (by rfl) flX3_15 dX3_tellTrain_9 rfl ?_
    rw [hsz]
    refine g_iconst (pc2 := 13) dX3_tellTrain_12 k_iconst_5 rfl ?_
    refine g_icmpN_ne 29 16 dX3_tellTrain_13 rfl rfl (by omega) (by omega) (fun h13 => ?_) (fun h13 => ?_)
    · refine g_iconst (pc2 := 30) dX3_tellTrain_29 k_iconst_0 rfl ?_
      exact g_zret dX3_tellTrain_30 rfl (bI_nar false) (Nat.le_refl _) (Nat.le_refl _) tQ25_bad
    · exact absurd h13 hlen
