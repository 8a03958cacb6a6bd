/-! the reference: items -/
def PR (σ σ' : lt_S) : Prop := (∀ a, a ≠ 76 → a ≠ 78 → a ≠ 81 → σ' a = σ a) ∧ ∀ k, k ≠ 6 → k ≠ 8 → σ' 76 k = σ 76 k
theorem PN.pr {σ σ' : lt_S} (h : PN σ σ') : PR σ σ' := ⟨fun a h1 _ h3 => h.1 a h1 h3, h.2⟩
theorem PR.rf (σ : lt_S) : PR σ σ := (PN.rf σ).pr
theorem PR.tr {σ σ' σ2 : lt_S} (h : PR σ σ') (h2 : PR σ' σ2) : PR σ σ2 := ⟨fun a h1 h3 h4 => (h2.1 a h1 h3 h4).trans (h.1 a h1 h3 h4), fun k h1 h3 => (h2.2 k h1 h3).trans (h.2 k h1 h3)⟩
theorem PR.read {σ σ' : lt_S} (h : PR σ σ') (j : Nat) (x : Int32) : PR σ (lt_up σ' 78 j x) := ⟨fun a h1 h3 h4 => by rw [lt_up_nr _ _ _ h3]; exact h.1 a h1 h3 h4, fun k h1 h3 => h.2 k h1 h3⟩
theorem PR.tx {σ σ' : lt_S} (h : PR σ σ') {n : Nat} {tx : Nat → Nat} (hT : TX σ n tx) : TX σ' n tx := ⟨by rw [h.2 5 (by decide) (by decide)]; exact hT.1, hT.2.1, by rw [h.1 80 (by decide) (by decide) (by decide)]; exact hT.2.2⟩
def lenB (q : Option (List Nat × Nat)) (least most : Nat) : Bool := match q with
  | none => false
  | some r => decide (least ≤ r.1.length) && decide (r.1.length ≤ most)
theorem R_m_tn (l : lt_L) (d : Nat) (σ : lt_S) {n p : Nat} {tx : Nat → Nat} (hT : TX σ n tx) (hp : σ 76 6 = nI p) (hp2 : p ≤ 200) (least most : Nat) (hl : least ≤ 6) (hm : most ≤ 6) : lt_R l (d + 4) 0 0 mX8_takesNumbers lt_SA σ [.ref 76, .int (nI least), .int (nI most)] (fun r sh' σ' => r = some (bI (lenB (numsAt tx n 6 (p + 5)) least most)) ∧ sh' = lt_SA ∧ PN σ σ' ∧ ∀ q, numsAt tx n 6 (p + 5) = some q → least ≤ q.1.length → q.1.length ≤ most → Told σ' q.1 q.2) := by
  have h := R_m_takesNumbers l d σ hT hp hp2 least most hl hm
  have hf := numsAt_few (tx := tx) (n := n) (k := most) (j := 6 - most) (p := p + 5)
  rw [show most + (6 - most) = 6 by omega] at hf
  refine lt_R.post ?_ h
  rintro r sh' σ' ⟨h1, h2, h3, h4⟩
  refine ⟨?_, h2, h3, fun q hq hq1 hq2 => h4 q (by rw [hf, hq]; exact if_pos hq2) hq1⟩
  rw [h1, hf]
  cases hq : numsAt tx n 6 (p + 5) with
  | none => rfl
  | some q =>
    simp only [lenB]
    by_cases hq2 : q.1.length ≤ most
    · rw [if_pos hq2]; simp [tnOk, hq2]
    · rw [if_neg hq2]; simp [tnOk, hq2]
/-- an item of kind k at p, its word read -/
def itK (tx : Nat → Nat) (n : Nat) (r : Nat → Int32) (k p : Nat) : Option ((Nat → Int32) × Nat) := match numsAt tx n 6 (p + 5) with
  | none => none
  | some q => match itemR r k q.1 with
    | none => none
    | some r' => some (r', q.2)
def itQ (σ : lt_S) (res : Option ((Nat → Int32) × Nat)) : lt_Q := fun r sh' σ' => r = some (bI res.isSome) ∧ sh' = lt_SA ∧ PR σ σ' ∧ ∀ u, res = some u → σ' 78 = u.1 ∧ σ' 76 6 = nI u.2
theorem itK_bad {tx : Nat → Nat} {n : Nat} {r : Nat → Int32} {k p : Nat} (h : ∀ q, numsAt tx n 6 (p + 5) = some q → itemR r k q.1 = none) : itK tx n r k p = none := by
  unfold itK
  cases hq : numsAt tx n 6 (p + 5) with
  | none => rfl
  | some q => simp only [h q hq]
theorem itK_ok {tx : Nat → Nat} {n : Nat} {r r' : Nat → Int32} {k p : Nat} {q : List Nat × Nat} (hq : numsAt tx n 6 (p + 5) = some q) (h : itemR r k q.1 = some r') : itK tx n r k p = some (r', q.2) := by
  unfold itK
  rw [hq]
  simp only [h]
theorem itQ_bad {σ σ' : lt_S} {res : Option ((Nat → Int32) × Nat)} (h : res = none) (hP : PR σ σ') : itQ σ res (some (nI 0)) lt_SA σ' := by
  subst h
  exact ⟨rfl, rfl, hP, fun u hu => by cases hu⟩
theorem itQ_ok {σ σ' : lt_S} {res : Option ((Nat → Int32) × Nat)} {r' : Nat → Int32} {e : Nat} (h : res = some (r', e)) (hP : PR σ σ') (h1 : σ' 78 = r') (h2 : σ' 76 6 = nI e) : itQ σ res (some (nI 1)) lt_SA σ' := by
  subst h
  exact ⟨rfl, rfl, hP, fun u hu => by cases hu; exact ⟨h1, h2⟩⟩
theorem nz (b : Bool) : narrow .boolean (.int (nI 0)) = .int (nI 0) := bI_nar false
theorem no (b : Bool) : narrow .boolean (.int (nI 1)) = .int (nI 1) := bI_nar true
theorem getD_le {ns : List Nat} (h : ∀ v ∈ ns, v ≤ 99) (j : Nat) : ns.getD j 0 ≤ 99 := by
  rw [List.getD_eq_getElem?_getD]
  cases e : ns[j]? with
  | none => simp
  | some v => exact h v (List.mem_of_getElem? e)
theorem R_m_takesYard (l : lt_L) (d : Nat) (σ : lt_S) {n p : Nat} {tx : Nat → Nat} (hT : TX σ n tx) (hp : σ 76 6 = nI p) (hp2 : p ≤ 200) : lt_R l (d + 5) 0 0 mX8_takesYard lt_SA σ [.ref 76] (itQ σ (itK tx n (σ 78) 0 p)) := by
  refine lt_R.of [some (.ref 76), none] rfl rfl (Nat.le_of_ble_eq_true rfl) ?_
  have e0 : nI 0 = 0 := nI_0
  have fin : σ 78 0 = 0 → ∀ σ1, PN σ σ1 → (∀ q, numsAt tx n 6 (p + 5) = some q → 2 ≤ q.1.length → q.1.length ≤ 2 → Told σ1 q.1 q.2) → lt_G l (d + 5) 0 0 mX8_takesYard 0 0 lt_SA σ1 15 [some (.ref 76), none] [.int (bI (lenB (numsAt tx n 6 (p + 5)) 2 2))] (itQ σ (itK tx n (σ 78) 0 p)) := by
    intro h0 σ1 hP hTold
    cases hq : numsAt tx n 6 (p + 5) with
    | none =>
      have hb : itK tx n (σ 78) 0 p = none := itK_bad (fun q hq2 => by rw [hq] at hq2; cases hq2)
      refine g_if_eqB 50 18 dX8_takesYard_15 rfl rfl (fun h15 => ?_) (fun h15 => ?_)
      · refine g_iconst (pc2 := 51) dX8_takesYard_50 k_iconst_0 rfl ?_
        refine g_is1 (pc2 := 52) dX8_takesYard_51 (by decide) rfl ?_
        refine g_il1 (pc2 := 53) dX8_takesYard_52 rfl ?_
        refine g_if_eq 80 56 dX8_takesYard_53 rfl rfl (fun _ => ?_) (fun h => absurd nI_0 h)
        refine g_il1 (pc2 := 81) dX8_takesYard_80 rfl ?_
        exact g_zret dX8_takesYard_81 rfl (nz true) (Nat.le_refl _) (Nat.le_refl _) (itQ_bad hb hP.pr)
      · cases h15
    | some q =>
      have hle := (numsAt_le hq).1
      have g0 := getD_le hle 0
      have g1 := getD_le hle 1
      by_cases hlen : q.1.length = 2
      · obtain ⟨t1, t2, t3⟩ := hTold q hq (by omega) (by omega)
        have v0 := t3 0 (by omega)
        have v1 := t3 1 (by omega)
        have e78 : σ1 78 = σ 78 := hP.1 78 (by decide) (by decide)
        by_cases hok : okYard (σ 78) q.1 = true
        · have hI : itemR (σ 78) 0 q.1 = some (rowYard (σ 78) q.1) := by unfold itemR; rw [if_pos rfl, if_pos hok]
          have hc := hok
          simp only [okYard, Bool.and_eq_true, decide_eq_true_eq] at hc
          refine g_if_eqB 50 18 dX8_takesYard_15 rfl rfl (fun h15 => ?_) (fun h15 => ?_)
          · simp [lenB, hlen] at h15
          · refine g_al0 (pc2 := 19) dX8_takesYard_18 rfl ?_
            refine g_getr (pc2 := 22) (by rfl) (by rfl) flX8_22 dX8_takesYard_19 rfl ?_
            refine g_iconst (pc2 := 23) dX8_takesYard_22 k_iconst_0 rfl ?_
            refine g_iald (pc2 := 24) (by rfl) (by omega) (by decide) dX8_takesYard_23 rfl ?_
            rw [v0]
            refine g_iconst (pc2 := 25) dX8_takesYard_24 k_iconst_1 rfl ?_
            refine g_iconst (pc2 := 26) dX8_takesYard_25 k_iconst_3 rfl ?_
            refine g_cSi (pc2 := 29) (R_m_in l (d + 3) _ _ _ _ _) meX8_in mlX8_58 rfl rfl (by simp) ⟨Nat.le_refl _, Nat.le_refl _⟩ dX8_takesYard_26 rfl ?_
            rw [inB_N (by omega) (by decide) (by decide)]
            refine g_if_eqB 50 32 dX8_takesYard_29 rfl rfl (fun h29 => ?_) (fun h29 => ?_)
            · simp only [Bool.and_eq_false_iff, decide_eq_false_iff_not] at h29; omega
            · refine g_al0 (pc2 := 33) dX8_takesYard_32 rfl ?_
              refine g_getr (pc2 := 36) (by rfl) (by rfl) flX8_22 dX8_takesYard_33 rfl ?_
              refine g_iconst (pc2 := 37) dX8_takesYard_36 k_iconst_1 rfl ?_
              refine g_iald (pc2 := 38) (by rfl) (by omega) (by decide) dX8_takesYard_37 rfl ?_
              rw [v1]
              refine g_iconst (pc2 := 39) dX8_takesYard_38 k_iconst_1 rfl ?_
              refine g_iconst (pc2 := 40) dX8_takesYard_39 k_iconst_4 rfl ?_
              refine g_cSi (pc2 := 43) (R_m_in l (d + 3) _ _ _ _ _) meX8_in mlX8_58 rfl rfl (by simp) ⟨Nat.le_refl _, Nat.le_refl _⟩ dX8_takesYard_40 rfl ?_
              rw [inB_N (by omega) (by decide) (by decide)]
              refine g_if_eqB 50 46 dX8_takesYard_43 rfl rfl (fun h43 => ?_) (fun h43 => ?_)
              · simp only [Bool.and_eq_false_iff, decide_eq_false_iff_not] at h43; omega
              · refine g_iconst (pc2 := 47) dX8_takesYard_46 k_iconst_1 rfl ?_
                refine g_goto 51 dX8_takesYard_47 rfl ?_
                refine g_is1 (pc2 := 52) dX8_takesYard_51 (by decide) rfl ?_
                refine g_il1 (pc2 := 53) dX8_takesYard_52 rfl ?_
                refine g_if_eq 80 56 dX8_takesYard_53 rfl rfl (fun h => absurd h (nI_ne0 (by decide) (by decide))) (fun _ => ?_)
                refine g_al0 (pc2 := 57) dX8_takesYard_56 rfl ?_
                refine g_getr (pc2 := 60) (by rfl) (by rfl) flX8_13 dX8_takesYard_57 rfl ?_
                refine g_iconst (pc2 := 61) dX8_takesYard_60 k_iconst_0 rfl ?_
                refine g_al0 (pc2 := 62) dX8_takesYard_61 rfl ?_
                refine g_getr (pc2 := 65) (by rfl) (by rfl) flX8_22 dX8_takesYard_62 rfl ?_
                refine g_iconst (pc2 := 66) dX8_takesYard_65 k_iconst_0 rfl ?_
                refine g_iald (pc2 := 67) (by rfl) (by omega) (by decide) dX8_takesYard_66 rfl ?_
                rw [v0]
                refine g_iast (pc2 := 68) (by rfl) (by omega) (by decide) dX8_takesYard_67 rfl ?_
                refine g_al0 (pc2 := 69) dX8_takesYard_68 rfl ?_
                refine g_getr (pc2 := 72) (by rfl) (by rfl) flX8_13 dX8_takesYard_69 rfl ?_
                refine g_iconst (pc2 := 73) dX8_takesYard_72 k_iconst_1 rfl ?_
                refine g_al0 (pc2 := 74) dX8_takesYard_73 rfl ?_
                refine g_getr (pc2 := 77) (by rfl) (by rfl) flX8_22 dX8_takesYard_74 rfl ?_
                refine g_iconst (pc2 := 78) dX8_takesYard_77 k_iconst_1 rfl ?_
                refine g_iald (pc2 := 79) (by rfl) (by omega) (by decide) dX8_takesYard_78 rfl ?_
                rw [show lt_up σ1 78 0 (nI (q.1.getD 0 0)) 81 1 = σ1 81 1 from rfl, v1]
                refine g_iast (pc2 := 80) (by rfl) (by omega) (by decide) dX8_takesYard_79 rfl ?_
                refine g_il1 (pc2 := 81) dX8_takesYard_80 rfl ?_
                exact g_zret dX8_takesYard_81 rfl (no true) (Nat.le_refl _) (Nat.le_refl _) (itQ_ok (itK_ok hq hI) ((hP.pr.read _ _).read _ _) (by rw [lt_up_row, lt_up_row, e78]; rfl) t1)
        · have hb : itK tx n (σ 78) 0 p = none := itK_bad (fun q2 hq2 => by rw [hq] at hq2; cases hq2; unfold itemR; rw [if_pos rfl, if_neg hok])
          refine g_if_eqB 50 18 dX8_takesYard_15 rfl rfl (fun h15 => ?_) (fun h15 => ?_)
          · refine g_iconst (pc2 := 51) dX8_takesYard_50 k_iconst_0 rfl ?_
            refine g_is1 (pc2 := 52) dX8_takesYard_51 (by decide) rfl ?_
            refine g_il1 (pc2 := 53) dX8_takesYard_52 rfl ?_
            refine g_if_eq 80 56 dX8_takesYard_53 rfl rfl (fun _ => ?_) (fun h => absurd nI_0 h)
            refine g_il1 (pc2 := 81) dX8_takesYard_80 rfl ?_
            exact g_zret dX8_takesYard_81 rfl (nz true) (Nat.le_refl _) (Nat.le_refl _) (itQ_bad hb hP.pr)
          · refine g_al0 (pc2 := 19) dX8_takesYard_18 rfl ?_
            refine g_getr (pc2 := 22) (by rfl) (by rfl) flX8_22 dX8_takesYard_19 rfl ?_
            refine g_iconst (pc2 := 23) dX8_takesYard_22 k_iconst_0 rfl ?_
            refine g_iald (pc2 := 24) (by rfl) (by omega) (by decide) dX8_takesYard_23 rfl ?_
            rw [v0]
            refine g_iconst (pc2 := 25) dX8_takesYard_24 k_iconst_1 rfl ?_
            refine g_iconst (pc2 := 26) dX8_takesYard_25 k_iconst_3 rfl ?_
            refine g_cSi (pc2 := 29) (R_m_in l (d + 3) _ _ _ _ _) meX8_in mlX8_58 rfl rfl (by simp) ⟨Nat.le_refl _, Nat.le_refl _⟩ dX8_takesYard_26 rfl ?_
            rw [inB_N (by omega) (by decide) (by decide)]
            refine g_if_eqB 50 32 dX8_takesYard_29 rfl rfl (fun h29 => ?_) (fun h29 => ?_)
            · refine g_iconst (pc2 := 51) dX8_takesYard_50 k_iconst_0 rfl ?_
              refine g_is1 (pc2 := 52) dX8_takesYard_51 (by decide) rfl ?_
              refine g_il1 (pc2 := 53) dX8_takesYard_52 rfl ?_
              refine g_if_eq 80 56 dX8_takesYard_53 rfl rfl (fun _ => ?_) (fun h => absurd nI_0 h)
              refine g_il1 (pc2 := 81) dX8_takesYard_80 rfl ?_
              exact g_zret dX8_takesYard_81 rfl (nz true) (Nat.le_refl _) (Nat.le_refl _) (itQ_bad hb hP.pr)
            · refine g_al0 (pc2 := 33) dX8_takesYard_32 rfl ?_
              refine g_getr (pc2 := 36) (by rfl) (by rfl) flX8_22 dX8_takesYard_33 rfl ?_
              refine g_iconst (pc2 := 37) dX8_takesYard_36 k_iconst_1 rfl ?_
              refine g_iald (pc2 := 38) (by rfl) (by omega) (by decide) dX8_takesYard_37 rfl ?_
              rw [v1]
              refine g_iconst (pc2 := 39) dX8_takesYard_38 k_iconst_1 rfl ?_
              refine g_iconst (pc2 := 40) dX8_takesYard_39 k_iconst_4 rfl ?_
              refine g_cSi (pc2 := 43) (R_m_in l (d + 3) _ _ _ _ _) meX8_in mlX8_58 rfl rfl (by simp) ⟨Nat.le_refl _, Nat.le_refl _⟩ dX8_takesYard_40 rfl ?_
              rw [inB_N (by omega) (by decide) (by decide)]
              refine g_if_eqB 50 46 dX8_takesYard_43 rfl rfl (fun h43 => ?_) (fun h43 => ?_)
              · refine g_iconst (pc2 := 51) dX8_takesYard_50 k_iconst_0 rfl ?_
                refine g_is1 (pc2 := 52) dX8_takesYard_51 (by decide) rfl ?_
                refine g_il1 (pc2 := 53) dX8_takesYard_52 rfl ?_
                refine g_if_eq 80 56 dX8_takesYard_53 rfl rfl (fun _ => ?_) (fun h => absurd nI_0 h)
                refine g_il1 (pc2 := 81) dX8_takesYard_80 rfl ?_
                exact g_zret dX8_takesYard_81 rfl (nz true) (Nat.le_refl _) (Nat.le_refl _) (itQ_bad hb hP.pr)
              · exact absurd (show okYard (σ 78) q.1 = true from by simp only [Bool.and_eq_true, decide_eq_true_eq] at h29 h43; simp only [okYard, Bool.and_eq_true, decide_eq_true_eq]; exact ⟨by rw [e0]; exact h0, hlen, by omega, by omega, by omega, by omega⟩) hok
      · have hb : itK tx n (σ 78) 0 p = none := itK_bad (fun q2 hq2 => by rw [hq] at hq2; cases hq2; simp [itemR, okYard, hlen])
        refine g_if_eqB 50 18 dX8_takesYard_15 rfl rfl (fun h15 => ?_) (fun h15 => ?_)
        · refine g_iconst (pc2 := 51) dX8_takesYard_50 k_iconst_0 rfl ?_
          refine g_is1 (pc2 := 52) dX8_takesYard_51 (by decide) rfl ?_
          refine g_il1 (pc2 := 53) dX8_takesYard_52 rfl ?_
          refine g_if_eq 80 56 dX8_takesYard_53 rfl rfl (fun _ => ?_) (fun h => absurd nI_0 h)
          refine g_il1 (pc2 := 81) dX8_takesYard_80 rfl ?_
          exact g_zret dX8_takesYard_81 rfl (nz true) (Nat.le_refl _) (Nat.le_refl _) (itQ_bad hb hP.pr)
        · simp [lenB] at h15; omega
  refine g_al0 (pc2 := 1) dX8_takesYard_0 rfl ?_
  refine g_getr (pc2 := 4) (by rfl) (by rfl) flX8_13 dX8_takesYard_1 rfl ?_
  refine g_iconst (pc2 := 5) dX8_takesYard_4 k_iconst_0 rfl ?_
  refine g_iald (pc2 := 6) (by rfl) (by omega) (by decide) dX8_takesYard_5 rfl ?_
  refine g_if_ne 50 9 dX8_takesYard_6 rfl rfl (fun h6 => ?_) (fun h6 => ?_)
  · refine g_iconst (pc2 := 51) dX8_takesYard_50 k_iconst_0 rfl ?_
    refine g_is1 (pc2 := 52) dX8_takesYard_51 (by decide) rfl ?_
    refine g_il1 (pc2 := 53) dX8_takesYard_52 rfl ?_
    refine g_if_eq 80 56 dX8_takesYard_53 rfl rfl (fun _ => ?_) (fun h => absurd nI_0 h)
    refine g_il1 (pc2 := 81) dX8_takesYard_80 rfl ?_
    exact g_zret dX8_takesYard_81 rfl (nz true) (Nat.le_refl _) (Nat.le_refl _) (itQ_bad (itK_bad (fun q hq => by simp [itemR, okYard, e0, h6])) (PR.rf σ))
  · refine g_al0 (pc2 := 10) dX8_takesYard_9 rfl ?_
    refine g_iconst (pc2 := 11) dX8_takesYard_10 k_iconst_2 rfl ?_
    refine g_iconst (pc2 := 12) dX8_takesYard_11 k_iconst_2 rfl ?_
    refine g_callV (pc2 := 15) (R_m_tn l d σ hT hp hp2 2 2 (by decide) (by decide)) meX8_takesNumbers mlX8_73 (by rfl) ⟨_, rfl, rfl⟩ rfl rfl (by simp) ⟨Nat.le_refl _, Nat.le_refl _⟩ dX8_takesYard_12 rfl ?_
    rintro r sh2 σ1 ⟨rfl, rfl, hP, hTold⟩
    exact fin h6 σ1 hP hTold
theorem R_m_takesGap (l : lt_L) (d : Nat) (σ : lt_S) {n p : Nat} {tx : Nat → Nat} (hT : TX σ n tx) (hp : σ 76 6 = nI p) (hp2 : p ≤ 200) (h0 : ¬ σ 78 0 = nI 0) : lt_R l (d + 5) 0 0 mX8_takesGap lt_SA σ [.ref 76] (itQ σ (itK tx n (σ 78) 4 p)) := by
  refine lt_R.of [some (.ref 76), none] rfl rfl (Nat.le_of_ble_eq_true rfl) ?_
  have hI9 : ∀ ns, itemR (σ 78) 4 ns = if okGap ns then some (rowGap (σ 78) ns) else none := by
    intro ns
    unfold itemR
    rw [if_neg (by decide), if_neg h0, if_neg (by decide), if_neg (by decide), if_neg (by decide)]
  have fin : ∀ σ1, PN σ σ1 → (∀ q, numsAt tx n 6 (p + 5) = some q → 1 ≤ q.1.length → q.1.length ≤ 1 → Told σ1 q.1 q.2) → lt_G l (d + 5) 0 0 mX8_takesGap 0 0 lt_SA σ1 6 [some (.ref 76), none] [.int (bI (lenB (numsAt tx n 6 (p + 5)) 1 1))] (itQ σ (itK tx n (σ 78) 4 p)) := by
    intro σ1 hP hTold
    cases hq : numsAt tx n 6 (p + 5) with
    | none =>
      have hb : itK tx n (σ 78) 4 p = none := itK_bad (fun q hq2 => by rw [hq] at hq2; cases hq2)
      refine g_if_eqB 24 9 dX8_takesGap_6 rfl rfl (fun h6 => ?_) (fun h6 => ?_)
      · refine g_iconst (pc2 := 25) dX8_takesGap_24 k_iconst_0 rfl ?_
        refine g_is1 (pc2 := 26) dX8_takesGap_25 (by decide) rfl ?_
        refine g_al0 (pc2 := 27) dX8_takesGap_26 rfl ?_
        refine g_getr (pc2 := 30) (by rfl) (by rfl) flX8_13 dX8_takesGap_27 rfl ?_
        refine g_iconst (pc2 := 31) dX8_takesGap_30 k_iconst_3 rfl ?_
        refine g_al0 (pc2 := 32) dX8_takesGap_31 rfl ?_
        refine g_getr (pc2 := 35) (by rfl) (by rfl) flX8_22 dX8_takesGap_32 rfl ?_
        refine g_iconst (pc2 := 36) dX8_takesGap_35 k_iconst_0 rfl ?_
        refine g_iald (pc2 := 37) (by rfl) (by omega) (by decide) dX8_takesGap_36 rfl ?_
        refine g_iast (pc2 := 38) (by rfl) (by omega) (by decide) dX8_takesGap_37 rfl ?_
        refine g_il1 (pc2 := 39) dX8_takesGap_38 rfl ?_
        exact g_zret dX8_takesGap_39 rfl (nz true) (Nat.le_refl _) (Nat.le_refl _) (itQ_bad hb (hP.pr.read _ _))
      · cases h6
    | some q =>
      have g0 := getD_le (numsAt_le hq).1 0
      by_cases hlen : q.1.length = 1
      · obtain ⟨t1, t2, t3⟩ := hTold q hq (by omega) (by omega)
        have v0 := t3 0 (by omega)
        have e78 : σ1 78 = σ 78 := hP.1 78 (by decide) (by decide)
        by_cases hok : okGap q.1 = true
        · have hc := hok
          simp only [okGap, Bool.and_eq_true, decide_eq_true_eq] at hc
          have hI : itemR (σ 78) 4 q.1 = some (rowGap (σ 78) q.1) := by rw [hI9, if_pos hok]
          refine g_if_eqB 24 9 dX8_takesGap_6 rfl rfl (fun h6 => ?_) (fun h6 => ?_)
          · simp [lenB, hlen] at h6
          · refine g_al0 (pc2 := 10) dX8_takesGap_9 rfl ?_
            refine g_getr (pc2 := 13) (by rfl) (by rfl) flX8_22 dX8_takesGap_10 rfl ?_
            refine g_iconst (pc2 := 14) dX8_takesGap_13 k_iconst_0 rfl ?_
            refine g_iald (pc2 := 15) (by rfl) (by omega) (by decide) dX8_takesGap_14 rfl ?_
            rw [v0]
            refine g_bipush (pc2 := 17) dX8_takesGap_15 k_bipush_10 rfl ?_
            refine g_icmpN_ge 24 20 dX8_takesGap_17 rfl rfl (by omega) (by omega) (fun h17 => ?_) (fun h17 => ?_)
            · omega
            · refine g_iconst (pc2 := 21) dX8_takesGap_20 k_iconst_1 rfl ?_
              refine g_goto 25 dX8_takesGap_21 rfl ?_
              refine g_is1 (pc2 := 26) dX8_takesGap_25 (by decide) rfl ?_
              refine g_al0 (pc2 := 27) dX8_takesGap_26 rfl ?_
              refine g_getr (pc2 := 30) (by rfl) (by rfl) flX8_13 dX8_takesGap_27 rfl ?_
              refine g_iconst (pc2 := 31) dX8_takesGap_30 k_iconst_3 rfl ?_
              refine g_al0 (pc2 := 32) dX8_takesGap_31 rfl ?_
              refine g_getr (pc2 := 35) (by rfl) (by rfl) flX8_22 dX8_takesGap_32 rfl ?_
              refine g_iconst (pc2 := 36) dX8_takesGap_35 k_iconst_0 rfl ?_
              refine g_iald (pc2 := 37) (by rfl) (by omega) (by decide) dX8_takesGap_36 rfl ?_
              rw [v0]
              refine g_iast (pc2 := 38) (by rfl) (by omega) (by decide) dX8_takesGap_37 rfl ?_
              refine g_il1 (pc2 := 39) dX8_takesGap_38 rfl ?_
              exact g_zret dX8_takesGap_39 rfl (no true) (Nat.le_refl _) (Nat.le_refl _) (itQ_ok (itK_ok hq hI) (hP.pr.read _ _) (by rw [lt_up_row, e78]; rfl) t1)
        · have hb : itK tx n (σ 78) 4 p = none := itK_bad (fun q2 hq2 => by rw [hq] at hq2; cases hq2; rw [hI9, if_neg hok])
          refine g_if_eqB 24 9 dX8_takesGap_6 rfl rfl (fun h6 => ?_) (fun h6 => ?_)
          · simp [lenB, hlen] at h6
          · refine g_al0 (pc2 := 10) dX8_takesGap_9 rfl ?_
            refine g_getr (pc2 := 13) (by rfl) (by rfl) flX8_22 dX8_takesGap_10 rfl ?_
            refine g_iconst (pc2 := 14) dX8_takesGap_13 k_iconst_0 rfl ?_
            refine g_iald (pc2 := 15) (by rfl) (by omega) (by decide) dX8_takesGap_14 rfl ?_
            rw [v0]
            refine g_bipush (pc2 := 17) dX8_takesGap_15 k_bipush_10 rfl ?_
            refine g_icmpN_ge 24 20 dX8_takesGap_17 rfl rfl (by omega) (by omega) (fun h17 => ?_) (fun h17 => ?_)
            · refine g_iconst (pc2 := 25) dX8_takesGap_24 k_iconst_0 rfl ?_
              refine g_is1 (pc2 := 26) dX8_takesGap_25 (by decide) rfl ?_
              refine g_al0 (pc2 := 27) dX8_takesGap_26 rfl ?_
              refine g_getr (pc2 := 30) (by rfl) (by rfl) flX8_13 dX8_takesGap_27 rfl ?_
              refine g_iconst (pc2 := 31) dX8_takesGap_30 k_iconst_3 rfl ?_
              refine g_al0 (pc2 := 32) dX8_takesGap_31 rfl ?_
              refine g_getr (pc2 := 35) (by rfl) (by rfl) flX8_22 dX8_takesGap_32 rfl ?_
              refine g_iconst (pc2 := 36) dX8_takesGap_35 k_iconst_0 rfl ?_
              refine g_iald (pc2 := 37) (by rfl) (by omega) (by decide) dX8_takesGap_36 rfl ?_
              rw [v0]
              refine g_iast (pc2 := 38) (by rfl) (by omega) (by decide) dX8_takesGap_37 rfl ?_
              refine g_il1 (pc2 := 39) dX8_takesGap_38 rfl ?_
              exact g_zret dX8_takesGap_39 rfl (nz true) (Nat.le_refl _) (Nat.le_refl _) (itQ_bad hb (hP.pr.read _ _))
            · exact absurd (show okGap q.1 = true from by simp only [okGap, Bool.and_eq_true, decide_eq_true_eq]; omega) hok
      · have hb : itK tx n (σ 78) 4 p = none := itK_bad (fun q2 hq2 => by rw [hq] at hq2; cases hq2; rw [hI9]; simp [okGap, hlen])
        refine g_if_eqB 24 9 dX8_takesGap_6 rfl rfl (fun h6 => ?_) (fun h6 => ?_)
        · refine g_iconst (pc2 := 25) dX8_takesGap_24 k_iconst_0 rfl ?_
          refine g_is1 (pc2 := 26) dX8_takesGap_25 (by decide) rfl ?_
          refine g_al0 (pc2 := 27) dX8_takesGap_26 rfl ?_
          refine g_getr (pc2 := 30) (by rfl) (by rfl) flX8_13 dX8_takesGap_27 rfl ?_
          refine g_iconst (pc2 := 31) dX8_takesGap_30 k_iconst_3 rfl ?_
          refine g_al0 (pc2 := 32) dX8_takesGap_31 rfl ?_
          refine g_getr (pc2 := 35) (by rfl) (by rfl) flX8_22 dX8_takesGap_32 rfl ?_
          refine g_iconst (pc2 := 36) dX8_takesGap_35 k_iconst_0 rfl ?_
          refine g_iald (pc2 := 37) (by rfl) (by omega) (by decide) dX8_takesGap_36 rfl ?_
          refine g_iast (pc2 := 38) (by rfl) (by omega) (by decide) dX8_takesGap_37 rfl ?_
          refine g_il1 (pc2 := 39) dX8_takesGap_38 rfl ?_
          exact g_zret dX8_takesGap_39 rfl (nz true) (Nat.le_refl _) (Nat.le_refl _) (itQ_bad hb (hP.pr.read _ _))
        · simp [lenB] at h6; omega
  refine g_al0 (pc2 := 1) dX8_takesGap_0 rfl ?_
  refine g_iconst (pc2 := 2) dX8_takesGap_1 k_iconst_1 rfl ?_
  refine g_iconst (pc2 := 3) dX8_takesGap_2 k_iconst_1 rfl ?_
  refine g_callV (pc2 := 6) (R_m_tn l d σ hT hp hp2 1 1 (by decide) (by decide)) meX8_takesNumbers mlX8_73 (by rfl) ⟨_, rfl, rfl⟩ rfl rfl (by simp) ⟨Nat.le_refl _, Nat.le_refl _⟩ dX8_takesGap_3 rfl ?_
  rintro r sh2 σ1 ⟨rfl, rfl, hP, hTold⟩
  exact fin σ1 hP hTold
