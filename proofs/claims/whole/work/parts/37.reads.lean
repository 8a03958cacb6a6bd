/-! the class: texts are read -/
theorem digB_l (tx : Nat → Nat) (n p : Nat) : digB tx n p = (decide (48 ≤ ltr tx n p) && decide (ltr tx n p ≤ 57)) := by
  unfold digB ltr
  by_cases h : p < n
  · rw [if_pos h, decide_eq_true h, Bool.true_and]
  · rw [if_neg h, decide_eq_false h]
    rfl
theorem chB_l (tx : Nat → Nat) (n p c : Nat) (hc : 0 < c) : chB tx n p c = decide (ltr tx n p = c) := by
  unfold chB ltr
  by_cases h : p < n
  · rw [if_pos h, decide_eq_true h, Bool.true_and]
  · rw [if_neg h, decide_eq_false h, decide_eq_false (show ¬ 0 = c by omega)]
    rfl
def wmF (tx : Nat → Nat) (n p w k : Nat) : Bool := decide (ltr tx n (p + k) = chN 1 (w * 5 + k))
def wmB (tx : Nat → Nat) (n p w : Nat) : Bool := decide (sumF (wmF tx n p w) 5 = 5)
theorem sum5 (q : Nat → Bool) : sumF q 5 = 5 ↔ (q 0 = true ∧ q 1 = true ∧ q 2 = true ∧ q 3 = true ∧ q 4 = true) := by
  simp only [sumF]
  cases q 0 <;> cases q 1 <;> cases q 2 <;> cases q 3 <;> cases q 4 <;> simp
theorem ltr_eq {tx : Nat → Nat} {n p c : Nat} (hc : 0 < c) : ltr tx n p = c ↔ p < n ∧ tx p = c := by
  unfold ltr
  by_cases h : p < n
  · rw [if_pos h]
    exact ⟨fun e => ⟨h, e⟩, fun e => e.2⟩
  · rw [if_neg h]
    exact ⟨fun e => absurd e (by omega), fun e => absurd e.1 h⟩
theorem wm_eq {tx : Nat → Nat} {n p w a b c d : Nat} (h0 : chN 1 (w * 5 + 0) = a) (h1 : chN 1 (w * 5 + 1) = b) (h2 : chN 1 (w * 5 + 2) = c) (h3 : chN 1 (w * 5 + 3) = d) (h4 : chN 1 (w * 5 + 4) = 32) (ha : 0 < a) (hb : 0 < b) (hc : 0 < c) (hd : 0 < d) : wmB tx n p w = wordB tx n p a b c d := by
  unfold wmB wordB
  rw [Bool.eq_iff_iff, decide_eq_true_eq, sum5]
  unfold wmF
  simp only [decide_eq_true_eq, Bool.and_eq_true]
  rw [h0, h1, h2, h3, h4, ltr_eq ha, ltr_eq hb, ltr_eq hc, ltr_eq hd, ltr_eq (by decide)]
  rw [show p + 0 = p from rfl]
  constructor
  · rintro ⟨a1, a2, a3, a4, a5⟩
    exact ⟨a5.1, a1.2, a2.2, a3.2, a4.2, a5.2⟩
  · rintro ⟨a0, a1, a2, a3, a4, a5⟩
    exact ⟨⟨by omega, a1⟩, ⟨by omega, a2⟩, ⟨by omega, a3⟩, ⟨by omega, a4⟩, a0, a5⟩
theorem kind_fst (tx : Nat → Nat) (n p : Nat) : fstF (wmB tx n p) 5 = kindAt tx n p := by
  unfold kindAt
  simp only [fstF]
  rw [wm_eq (w := 0) (a := 121) (b := 97) (c := 114) (d := 100) rfl rfl rfl rfl rfl (by decide) (by decide) (by decide) (by decide),
    wm_eq (w := 1) (a := 112) (b := 97) (c := 116) (d := 104) rfl rfl rfl rfl rfl (by decide) (by decide) (by decide) (by decide),
    wm_eq (w := 2) (a := 99) (b := 111) (c := 109) (d := 101) rfl rfl rfl rfl rfl (by decide) (by decide) (by decide) (by decide),
    wm_eq (w := 3) (a := 112) (b := 97) (c := 105) (d := 114) rfl rfl rfl rfl rfl (by decide) (by decide) (by decide) (by decide),
    wm_eq (w := 4) (a := 115) (b := 112) (c := 97) (d := 110) rfl rfl rfl rfl rfl (by decide) (by decide) (by decide) (by decide)]
  cases wordB tx n p 121 97 114 100 <;> cases wordB tx n p 112 97 116 104 <;> cases wordB tx n p 99 111 109 101 <;> cases wordB tx n p 112 97 105 114 <;> cases wordB tx n p 115 112 97 110 <;> rfl
theorem kind_lt {tx : Nat → Nat} {n p k : Nat} (h : kindAt tx n p = some k) : k < 5 := by
  rw [← kind_fst] at h
  exact (fstF_lt h).1
def nsV (q : Option (List Nat × Nat)) : Int32 := match q with
  | none => -4
  | some r => nI r.2
def nsC (pre : List Nat) (q : Option (List Nat × Nat)) : Option (List Nat × Nat) := match q with
  | none => none
  | some r => some (pre ++ r.1, r.2)
theorem numAt_1 {tx : Nat → Nat} {n p : Nat} (h1 : digB tx n p = true) (h2 : digB tx n (p + 1) = false) : numAt tx n p = some (ltr tx n p - 48, p + 1) := by
  unfold numAt
  rw [if_pos h1, if_neg (by rw [h2]; decide)]
  have : p < n := by
    unfold digB at h1
    simp only [Bool.and_eq_true, decide_eq_true_eq] at h1
    exact h1.1
  unfold ltr
  rw [if_pos this]
theorem numAt_2 {tx : Nat → Nat} {n p : Nat} (h1 : digB tx n p = true) (h2 : digB tx n (p + 1) = true) : numAt tx n p = some (10 * (ltr tx n p - 48) + (ltr tx n (p + 1) - 48), p + 2) := by
  unfold numAt
  rw [if_pos h1, if_pos h2]
  unfold digB at h1 h2
  simp only [Bool.and_eq_true, decide_eq_true_eq] at h1 h2
  unfold ltr
  rw [if_pos h1.1, if_pos h2.1]
theorem numAt_0 {tx : Nat → Nat} {n p : Nat} (h1 : digB tx n p = false) : numAt tx n p = none := by
  unfold numAt
  rw [if_neg (by rw [h1]; decide)]
theorem numsAt_s {tx : Nat → Nat} {n j p v e : Nat} (h : numAt tx n p = some (v, e)) : numsAt tx n (j + 1) p = if ltr tx n e = 44 then nsC [v] (numsAt tx n j (e + 1)) else if ltr tx n e = 59 then some ([v], e + 1) else none := by
  simp only [numsAt, h]
  rw [chB_l _ _ _ 44 (by decide), chB_l _ _ _ 59 (by decide)]
  simp only [decide_eq_true_eq]
  congr 1
theorem nsC_nil (q : Option (List Nat × Nat)) : nsC [] q = q := by
  cases q <;> rfl
theorem nsC_C (a b : List Nat) (q : Option (List Nat × Nat)) : nsC a (nsC b q) = nsC (a ++ b) q := by
  cases q with
  | none => rfl
  | some r => simp [nsC]
theorem getD_app1 {a b : List Nat} {i : Nat} (h : i < a.length) : (a ++ b).getD i 0 = a.getD i 0 := by
  rw [List.getD_eq_getElem?_getD, List.getD_eq_getElem?_getD, List.getElem?_append_left h]
theorem getD_app2 {a : List Nat} {v : Nat} : (a ++ [v]).getD a.length 0 = v := by
  rw [List.getD_eq_getElem?_getD, List.getElem?_append_right (Nat.le_refl _)]
  simp
theorem item0 (r : Nat → Int32) (ns : List Nat) : itemR r 0 ns = if okYard r ns then some (rowYard r ns) else none := by
  unfold itemR
  rw [if_pos rfl]
theorem item1 {r : Nat → Int32} (h0 : ¬ r 0 = nI 0) (ns : List Nat) : itemR r 1 ns = if okPath r ns then some (rowPath r ns) else none := by
  unfold itemR
  rw [if_neg (by decide), if_neg h0, if_pos rfl]
theorem item2 {r : Nat → Int32} (h0 : ¬ r 0 = nI 0) (ns : List Nat) : itemR r 2 ns = if okCome r ns then some (rowCome r ns) else none := by
  unfold itemR
  rw [if_neg (by decide), if_neg h0, if_neg (by decide), if_pos rfl]
theorem item3 {r : Nat → Int32} (h0 : ¬ r 0 = nI 0) (ns : List Nat) : itemR r 3 ns = if okPair r ns then some (rowPair r ns) else none := by
  unfold itemR
  rw [if_neg (by decide), if_neg h0, if_neg (by decide), if_neg (by decide), if_pos rfl]
theorem item4 {r : Nat → Int32} (h0 : ¬ r 0 = nI 0) (ns : List Nat) : itemR r 4 ns = if okGap ns then some (rowGap r ns) else none := by
  unfold itemR
  rw [if_neg (by decide), if_neg h0, if_neg (by decide), if_neg (by decide), if_neg (by decide)]
theorem itemX {r : Nat → Int32} (h0 : r 0 = nI 0) (k : Nat) (hk : ¬ k = 0) (ns : List Nat) : itemR r k ns = none := by
  unfold itemR
  rw [if_neg hk, if_pos h0]
theorem allB_s {p : Nat → Bool} {k : Nat} (h : allB p k = true) (h2 : p k = true) : allB p (k + 1) = true := by
  simp only [allB, h, h2, Bool.and_self]
theorem allB_f {p : Nat → Bool} {k n : Nat} (hk : k < n) (h : p k = false) : allB p n = false := by
  cases h2 : allB p n with
  | false => rfl
  | true => rw [allB_iff.mp h2 k hk] at h; cases h
/-! reader 23 -/
theorem R_c_isFigure23 (l : lt_L) (d : Nat) (t : lt_H) (σ : lt_S) {n : Nat} {tx : Nat → Nat} (hT : TC σ n tx) (p : Nat) (hp : p < 400) : lt_T l (d + 2) mX3_isFigure (lt_SC ++ t) σ [.ref 23, .int (nI p)] (some (bI (digB tx n p))) σ := by
  refine lt_T.of [some (.ref 23), some (.int (nI p)), none] rfl rfl (Nat.le_of_ble_eq_true rfl) ?_
  have hl := ltr_lt hT p
  rw [digB_l]
  refine g_al0 (pc2 := 1) dX3_isFigure_0 rfl ?_
  refine g_getr (pc2 := 4) (by rfl) (by rfl) flX3_19 dX3_isFigure_1 rfl ?_
  refine g_il1 (pc2 := 5) dX3_isFigure_4 rfl ?_
  refine g_cVi (pc2 := 8) (R_c_letterAt l d _ _ hT _ hp) meX5_letterAt mlX3_52 (by rfl) ⟨_, rfl, rfl⟩ rfl rfl (by simp) ⟨Nat.le_refl _, Nat.le_refl _⟩ dX3_isFigure_5 rfl ?_
  refine g_is2 (pc2 := 9) dX3_isFigure_8 (by decide) rfl ?_
  refine g_il2 (pc2 := 10) dX3_isFigure_9 rfl ?_
  refine g_bipush (pc2 := 12) dX3_isFigure_10 k_bipush_48 rfl ?_
  refine g_icmpN_lt 25 15 dX3_isFigure_12 rfl rfl (by omega) (by omega) (fun h12 => ?_) (fun h12 => ?_)
  · refine g_iconst (pc2 := 26) dX3_isFigure_25 k_iconst_0 rfl ?_
    exact g_zretT dX3_isFigure_26 rfl (Nat.le_refl _) (Nat.le_refl _) (by first | (rw [decide_eq_false (show ¬ 48 ≤ ltr tx n p by omega)]; rfl) | (rw [decide_eq_true (show 48 ≤ ltr tx n p by omega), decide_eq_false (show ¬ ltr tx n p ≤ 57 by omega)]; rfl) | (rw [decide_eq_true (show 48 ≤ ltr tx n p by omega), decide_eq_true (show ltr tx n p ≤ 57 by omega)]; rfl)) (rfl)
  · refine g_il2 (pc2 := 16) dX3_isFigure_15 rfl ?_
    refine g_bipush (pc2 := 18) dX3_isFigure_16 k_bipush_57 rfl ?_
    refine g_icmpN_gt 25 21 dX3_isFigure_18 rfl rfl (by omega) (by omega) (fun h18 => ?_) (fun h18 => ?_)
    · refine g_iconst (pc2 := 26) dX3_isFigure_25 k_iconst_0 rfl ?_
      exact g_zretT dX3_isFigure_26 rfl (Nat.le_refl _) (Nat.le_refl _) (by first | (rw [decide_eq_false (show ¬ 48 ≤ ltr tx n p by omega)]; rfl) | (rw [decide_eq_true (show 48 ≤ ltr tx n p by omega), decide_eq_false (show ¬ ltr tx n p ≤ 57 by omega)]; rfl) | (rw [decide_eq_true (show 48 ≤ ltr tx n p by omega), decide_eq_true (show ltr tx n p ≤ 57 by omega)]; rfl)) (rfl)
    · refine g_iconst (pc2 := 22) dX3_isFigure_21 k_iconst_1 rfl ?_
      refine g_goto 26 dX3_isFigure_22 rfl ?_
      exact g_zretT dX3_isFigure_26 rfl (Nat.le_refl _) (Nat.le_refl _) (by first | (rw [decide_eq_false (show ¬ 48 ≤ ltr tx n p by omega)]; rfl) | (rw [decide_eq_true (show 48 ≤ ltr tx n p by omega), decide_eq_false (show ¬ ltr tx n p ≤ 57 by omega)]; rfl) | (rw [decide_eq_true (show 48 ≤ ltr tx n p by omega), decide_eq_true (show ltr tx n p ≤ 57 by omega)]; rfl)) (rfl)
theorem R_c_wordAt23 (l : lt_L) (d : Nat) (t : lt_H) (σ : lt_S) {n : Nat} {tx : Nat → Nat} (hT : TC σ n tx) (p : Nat) (hp : p < 300) : lt_T l (d + 5) mX3_wordAt (lt_SC ++ t) σ [.ref 23, .int (nI p)] (some (oI (kindAt tx n p))) σ := by
  refine lt_T.of [some (.ref 23), some (.int (nI p)), none, none, none] rfl rfl (Nat.le_of_ble_eq_true rfl) ?_
  rw [← kind_fst]
  have key : ∀ w, w ≤ 5 → ∀ z3 z4 : Option Value, fstF (wmB tx n p) w = none → lt_g l (d + 5) mX3_wordAt (lt_SC ++ t) σ 2 [some (.ref 23), some (.int (nI p)), some (.int (nI w)), z3, z4] [] (some (oI (fstF (wmB tx n p) 5))) σ := by
    refine lt_dn 5 ?_ ?_
    · intro z3 z4 h
      rw [h]
      refine g_il2 (pc2 := 3) dX3_wordAt_2 rfl ?_
      refine g_iconst (pc2 := 4) dX3_wordAt_3 k_iconst_5 rfl ?_
      refine g_icmpN_ge 65 7 dX3_wordAt_4 rfl rfl (by omega) (by omega) (fun h4 => ?_) (fun h4 => ?_)
      · refine g_bipush (pc2 := 67) dX3_wordAt_65 k_bipush_m4 rfl ?_
        exact g_iretT dX3_wordAt_67 rfl (Nat.le_refl _) (Nat.le_refl _) (rfl) (rfl)
      · omega
    · intro w hw ih z3 z4 h
      have key2 : ∀ k, k ≤ 5 → lt_g l (d + 5) mX3_wordAt (lt_SC ++ t) σ 12 [some (.ref 23), some (.int (nI p)), some (.int (nI w)), some (.int (nI (sumF (wmF tx n p w) k))), some (.int (nI k))] [] (some (oI (fstF (wmB tx n p) 5))) σ := by
        refine lt_dn 5 ?_ ?_
        · have hs := sumF_le (wmF tx n p w) 5
          by_cases h5 : sumF (wmF tx n p w) 5 = 5
          · rw [fstF_at h (show wmB tx n p w = true from decide_eq_true h5) 5 hw]
            refine g_il4 (pc2 := 14) dX3_wordAt_12 rfl ?_
            refine g_iconst (pc2 := 15) dX3_wordAt_14 k_iconst_5 rfl ?_
            refine g_icmpN_ge 52 18 dX3_wordAt_15 rfl rfl (by omega) (by omega) (fun h15 => ?_) (fun h15 => ?_)
            · refine g_il3 (pc2 := 53) dX3_wordAt_52 rfl ?_
              refine g_iconst (pc2 := 54) dX3_wordAt_53 k_iconst_5 rfl ?_
              refine g_icmpN_ne 59 57 dX3_wordAt_54 rfl rfl (by omega) (by omega) (fun h54 => ?_) (fun h54 => ?_)
              · exact absurd h5 h54
              · refine g_il2 (pc2 := 58) dX3_wordAt_57 rfl ?_
                exact g_iretT dX3_wordAt_58 rfl (Nat.le_refl _) (Nat.le_refl _) (rfl) (rfl)
            · omega
          · refine g_il4 (pc2 := 14) dX3_wordAt_12 rfl ?_
            refine g_iconst (pc2 := 15) dX3_wordAt_14 k_iconst_5 rfl ?_
            refine g_icmpN_ge 52 18 dX3_wordAt_15 rfl rfl (by omega) (by omega) (fun h15 => ?_) (fun h15 => ?_)
            · refine g_il3 (pc2 := 53) dX3_wordAt_52 rfl ?_
              refine g_iconst (pc2 := 54) dX3_wordAt_53 k_iconst_5 rfl ?_
              refine g_icmpN_ne 59 57 dX3_wordAt_54 rfl rfl (by omega) (by omega) (fun h54 => ?_) (fun h54 => ?_)
              · refine g_in2 (pc2 := 62) dX3_wordAt_59 (nI_inc _) (by decide) rfl ?_
                refine g_goto 2 dX3_wordAt_62 rfl ?_
                refine ih _ _ ?_
                simp only [fstF, h]
                rw [if_neg (show ¬ wmB tx n p w = true from fun q => h5 (of_decide_eq_true q))]
              · exact absurd h54 h5
            · omega
        · intro k hk ih2
          have hl := ltr_lt hT (p + k)
          have hch := chN_1 (w * 5 + k) (by omega)
          have ihT : wmF tx n p w k = true → lt_g l (d + 5) mX3_wordAt (lt_SC ++ t) σ 12 [some (.ref 23), some (.int (nI p)), some (.int (nI w)), some (.int (nI (sumF (wmF tx n p w) k + 1))), some (.int (nI (k + 1)))] [] (some (oI (fstF (wmB tx n p) 5))) σ := fun h => by simp only [sumF, h] at ih2; exact ih2
          have ihF : wmF tx n p w k = false → lt_g l (d + 5) mX3_wordAt (lt_SC ++ t) σ 12 [some (.ref 23), some (.int (nI p)), some (.int (nI w)), some (.int (nI (sumF (wmF tx n p w) k + 0))), some (.int (nI (k + 1)))] [] (some (oI (fstF (wmB tx n p) 5))) σ := fun h => by simp only [sumF, h] at ih2; exact ih2
          refine g_il4 (pc2 := 14) dX3_wordAt_12 rfl ?_
          refine g_iconst (pc2 := 15) dX3_wordAt_14 k_iconst_5 rfl ?_
          refine g_icmpN_ge 52 18 dX3_wordAt_15 rfl rfl (by omega) (by omega) (fun h15 => ?_) (fun h15 => ?_)
          · omega
          · refine g_al0 (pc2 := 19) dX3_wordAt_18 rfl ?_
            refine g_getr (pc2 := 22) (by rfl) (by rfl) flX3_19 dX3_wordAt_19 rfl ?_
            refine g_il1 (pc2 := 23) dX3_wordAt_22 rfl ?_
            refine g_il4 (pc2 := 25) dX3_wordAt_23 rfl ?_
            refine g_iaddN (pc2 := 26) dX3_wordAt_25 rfl ?_
            refine g_cVi (pc2 := 29) (R_c_letterAt l (d + 3) _ _ hT _ (by omega)) meX5_letterAt mlX3_52 (by rfl) ⟨_, rfl, rfl⟩ rfl rfl (by simp) ⟨Nat.le_refl _, Nat.le_refl _⟩ dX3_wordAt_26 rfl ?_
            refine g_ldcS1 (pc2 := 31) rfl dX3_wordAt_29 rfl ?_
            refine g_il2 (pc2 := 32) dX3_wordAt_31 rfl ?_
            refine g_iconst (pc2 := 33) dX3_wordAt_32 k_iconst_5 rfl ?_
            refine g_imulN (pc2 := 34) dX3_wordAt_33 rfl ?_
            refine g_il4 (pc2 := 36) dX3_wordAt_34 rfl ?_
            refine g_iaddN (pc2 := 37) dX3_wordAt_36 rfl ?_
            refine g_cXi (i := 1) (pc2 := 40) (by decide) (R_j_charAt l d _ σ (i := 1) (by decide) (show w * 5 + k < 25 by omega)) meJ0_charAt_5068e mlX3_57 rfl rfl rfl (by simp) ⟨Nat.le_refl _, Nat.le_refl _⟩ dX3_wordAt_37 rfl ?_
            refine g_icmpN_ne 46 43 dX3_wordAt_40 rfl rfl (by omega) (by omega) (fun h40 => ?_) (fun h40 => ?_)
            · refine g_in4 (pc2 := 49) dX3_wordAt_46 (nI_inc _) (by decide) rfl ?_
              refine g_goto 12 dX3_wordAt_49 rfl ?_
              exact ihF (decide_eq_false h40)
            · refine g_in3 (pc2 := 46) dX3_wordAt_43 (nI_inc _) (by decide) rfl ?_
              refine g_in4 (pc2 := 49) dX3_wordAt_46 (nI_inc _) (by decide) rfl ?_
              refine g_goto 12 dX3_wordAt_49 rfl ?_
              exact ihT (decide_eq_true h40)
      refine g_il2 (pc2 := 3) dX3_wordAt_2 rfl ?_
      refine g_iconst (pc2 := 4) dX3_wordAt_3 k_iconst_5 rfl ?_
      refine g_icmpN_ge 65 7 dX3_wordAt_4 rfl rfl (by omega) (by omega) (fun h4 => ?_) (fun h4 => ?_)
      · omega
      · refine g_iconst (pc2 := 8) dX3_wordAt_7 k_iconst_0 rfl ?_
        refine g_is3 (pc2 := 9) dX3_wordAt_8 (by decide) rfl ?_
        refine g_iconst (pc2 := 10) dX3_wordAt_9 k_iconst_0 rfl ?_
        refine g_is4 (pc2 := 12) dX3_wordAt_10 (by decide) rfl ?_
        exact key2 0 (Nat.zero_le _)
  refine g_iconst (pc2 := 1) dX3_wordAt_0 k_iconst_0 rfl ?_
  refine g_is2 (pc2 := 2) dX3_wordAt_1 (by decide) rfl ?_
  exact key 0 (Nat.zero_le _) _ _ rfl
def RN23 (σ σ' : lt_S) : Prop := (∀ a, a ≠ 23 → a ≠ 24 → σ' a = σ a) ∧ ∀ k, k ≠ 4 → σ' 23 k = σ 23 k
theorem RN23.rf (σ : lt_S) : RN23 σ σ := ⟨fun _ _ _ => rfl, fun _ _ => rfl⟩
def NS23 (σ : lt_S) (ns : List Nat) : Prop := σ 23 4 = nI ns.length ∧ ∀ j, j < ns.length → σ 24 j = nI (ns.getD j 0)
theorem RN23.tc {σ σ' : lt_S} (h : RN23 σ σ') {n : Nat} {tx : Nat → Nat} (hT : TC σ n tx) : TC σ' n tx := by
  unfold TC
  rw [h.1 11 (by decide) (by decide), h.1 12 (by decide) (by decide)]
  exact hT
theorem RN23.put {σ σ' : lt_S} (h : RN23 σ σ') (k : Nat) (x y : Int32) : RN23 σ (lt_up (lt_up σ' 24 k x) 23 4 y) := ⟨fun a h1 h2 => by rw [lt_up_nr _ _ _ h1, lt_up_nr _ _ _ h2]; exact h.1 a h1 h2, fun j hj => by rw [lt_up_ne _ _ _ hj, lt_up_nr _ _ _ (by decide)]; exact h.2 j hj⟩
theorem R_c_readNumbers23 (l : lt_L) (d : Nat) (t : lt_H) (σ : lt_S) {n : Nat} {tx : Nat → Nat} (hT : TC σ n tx) (p0 : Nat) (hp0 : p0 < 300) : lt_R l (d + 3) 0 0 mX3_readNumbers (lt_SC ++ t) σ [.ref 23, .int (nI p0)] (fun r sh' σ' => r = some (nsV (numsAt tx n 6 p0)) ∧ sh' = lt_SC ++ t ∧ RN23 σ σ' ∧ ∀ q, numsAt tx n 6 p0 = some q → NS23 σ' q.1) := by
  refine lt_R.of [some (.ref 23), some (.int (nI p0)), none, none, none, none] rfl rfl (Nat.le_of_ble_eq_true rfl) ?_
  generalize hV : numsAt tx n 6 p0 = V
  have key : ∀ k, k ≤ 6 → ∀ (pre : List Nat) (p : Nat) (σ1 : lt_S) (z4 z5 : Option Value), pre.length = k → p ≤ p0 + 3 * k → RN23 σ σ1 → (∀ i, i < k → σ1 24 i = nI (pre.getD i 0)) → V = nsC pre (numsAt tx n (6 - k) p) → lt_G l (d + 3) 0 0 mX3_readNumbers 0 0 (lt_SC ++ t) σ1 4 [some (.ref 23), some (.int (nI p0)), some (.int (nI p)), some (.int (nI k)), z4, z5] [] (fun r sh' σ' => r = some (nsV V) ∧ sh' = lt_SC ++ t ∧ RN23 σ σ' ∧ ∀ q, V = some q → NS23 σ' q.1) := by
    refine lt_dn 6 ?_ ?_
    · intro pre p σ1 z4 z5 h1 h2 h3 h4 h5
      have hN : V = none := h5
      refine g_il3 (pc2 := 5) dX3_readNumbers_4 rfl ?_
      refine g_bipush (pc2 := 7) dX3_readNumbers_5 k_bipush_6 rfl ?_
      refine g_icmpN_ge 120 10 dX3_readNumbers_7 rfl rfl (by omega) (by omega) (fun h7 => ?_) (fun h7 => ?_)
      · refine g_bipush (pc2 := 122) dX3_readNumbers_120 k_bipush_m4 rfl ?_
        exact g_iret dX3_readNumbers_122 rfl (Nat.le_refl _) (Nat.le_refl _) ⟨by rw [hN]; rfl, rfl, h3, fun q hq => by rw [hN] at hq; cases hq⟩
      · omega
    · intro k hk ih pre p σ1 z4 z5 h1 h2 h3 h4 h5
      have hT1 := h3.tc hT
      have hl := ltr_lt hT1 p
      have hl1 := ltr_lt hT1 (p + 1)
      rw [show 6 - k = (5 - k) + 1 by omega] at h5
      cases hd0 : digB tx n p with
      | false =>
        have hN : V = none := by
          rw [h5]
          simp only [numsAt, numAt_0 hd0]
          rfl
        refine g_il3 (pc2 := 5) dX3_readNumbers_4 rfl ?_
        refine g_bipush (pc2 := 7) dX3_readNumbers_5 k_bipush_6 rfl ?_
        refine g_icmpN_ge 120 10 dX3_readNumbers_7 rfl rfl (by omega) (by omega) (fun h7 => ?_) (fun h7 => ?_)
        · omega
        · refine g_al0 (pc2 := 11) dX3_readNumbers_10 rfl ?_
          refine g_il2 (pc2 := 12) dX3_readNumbers_11 rfl ?_
          refine g_cVi (pc2 := 15) (R_c_isFigure23 l d _ _ hT1 _ (by omega)) meX3_isFigure mlX3_63 (by rfl) ⟨_, rfl, rfl⟩ rfl rfl (by simp) ⟨Nat.le_refl _, Nat.le_refl _⟩ dX3_readNumbers_12 rfl ?_
          refine g_if_neB 21 18 dX3_readNumbers_15 rfl rfl (fun h15 => ?_) (fun h15 => ?_)
          · exact absurd (h15.symm.trans hd0) (by decide)
          · refine g_bipush (pc2 := 20) dX3_readNumbers_18 k_bipush_m4 rfl ?_
            exact g_iret dX3_readNumbers_20 rfl (Nat.le_refl _) (Nat.le_refl _) ⟨by rw [hN]; rfl, rfl, h3, fun q hq => by rw [hN] at hq; cases hq⟩
      | true =>
        have hge : 48 ≤ ltr tx n p ∧ ltr tx n p ≤ 57 := by
          rw [digB_l] at hd0
          simpa using hd0
        have fin : ∀ v e, numAt tx n p = some (v, e) → e ≤ p + 2 → lt_G l (d + 3) 0 0 mX3_readNumbers 0 0 (lt_SC ++ t) σ1 67 [some (.ref 23), some (.int (nI p0)), some (.int (nI e)), some (.int (nI k)), some (.int (nI v)), z5] [] (fun r sh' σ' => r = some (nsV V) ∧ sh' = lt_SC ++ t ∧ RN23 σ σ' ∧ ∀ q, V = some q → NS23 σ' q.1) := by
          intro v e hv he
          rw [numsAt_s hv] at h5
          generalize hσ2 : lt_up (lt_up σ1 24 k (nI v)) 23 4 (nI (k + 1)) = σ2
          have r2 : RN23 σ σ2 := by rw [← hσ2]; exact h3.put _ _ _
          have hT2 := r2.tc hT
          have hle := ltr_lt hT2 e
          have n2 : ∀ i, i < k + 1 → σ2 24 i = nI ((pre ++ [v]).getD i 0) := by
            intro i hi
            rw [← hσ2, lt_up_nr _ _ _ (by decide)]
            by_cases e : i = k
            · subst e
              rw [lt_up_at, ← h1, getD_app2]
            · rw [lt_up_ne _ _ _ e, getD_app1 (by omega)]
              exact h4 i (by omega)
          have s2 : σ2 23 4 = nI (pre ++ [v]).length := by rw [← hσ2, lt_up_at, List.length_append, h1]; rfl
          refine g_al0 (pc2 := 68) dX3_readNumbers_67 rfl ?_
          refine g_getr (pc2 := 71) (by rfl) (by rfl) flX3_11 dX3_readNumbers_68 rfl ?_
          refine g_il3 (pc2 := 72) dX3_readNumbers_71 rfl ?_
          refine g_il4 (pc2 := 74) dX3_readNumbers_72 rfl ?_
          refine g_iast (pc2 := 75) (by rfl) (by omega) (by decide) dX3_readNumbers_74 rfl ?_
          refine g_al0 (pc2 := 76) dX3_readNumbers_75 rfl ?_
          refine g_il3 (pc2 := 77) dX3_readNumbers_76 rfl ?_
          refine g_iconst (pc2 := 78) dX3_readNumbers_77 k_iconst_1 rfl ?_
          refine g_iaddN (pc2 := 79) dX3_readNumbers_78 rfl ?_
          refine g_puti (pc2 := 82) (by rfl) (by rfl) flX3_15 (fpX3_4 _) (fun h => by first | cases h | rfl) dX3_readNumbers_79 rfl ?_
          rw [hσ2]
          refine g_al0 (pc2 := 83) dX3_readNumbers_82 rfl ?_
          refine g_getr (pc2 := 86) (by rfl) (by rfl) flX3_19 dX3_readNumbers_83 rfl ?_
          refine g_il2 (pc2 := 87) dX3_readNumbers_86 rfl ?_
          refine g_cVi (pc2 := 90) (R_c_letterAt l (d + 1) _ _ hT2 _ (by omega)) meX5_letterAt mlX3_52 (by rfl) ⟨_, rfl, rfl⟩ rfl rfl (by simp) ⟨Nat.le_refl _, Nat.le_refl _⟩ dX3_readNumbers_87 rfl ?_
          refine g_is5 (pc2 := 92) dX3_readNumbers_90 (by decide) rfl ?_
          refine g_in2 (pc2 := 95) dX3_readNumbers_92 (nI_inc _) (by decide) rfl ?_
          refine g_il5 (pc2 := 97) dX3_readNumbers_95 rfl ?_
          refine g_bipush (pc2 := 99) dX3_readNumbers_97 k_bipush_59 rfl ?_
          refine g_icmpN_ne 104 102 dX3_readNumbers_99 rfl rfl (by omega) (by omega) (fun h99 => ?_) (fun h99 => ?_)
          · refine g_il5 (pc2 := 106) dX3_readNumbers_104 rfl ?_
            refine g_bipush (pc2 := 108) dX3_readNumbers_106 k_bipush_44 rfl ?_
            refine g_icmpN_eq 114 111 dX3_readNumbers_108 rfl rfl (by omega) (by omega) (fun h108 => ?_) (fun h108 => ?_)
            · refine g_in3 (pc2 := 117) dX3_readNumbers_114 (nI_inc _) (by decide) rfl ?_
              refine g_goto 4 dX3_readNumbers_117 rfl ?_
              refine ih (pre ++ [v]) (e + 1) σ2 _ _ (by rw [List.length_append, h1]; rfl) (by omega) r2 n2 ?_
              rw [h5, if_pos h108, nsC_C, show 6 - (k + 1) = 5 - k by omega]
            · refine g_bipush (pc2 := 113) dX3_readNumbers_111 k_bipush_m4 rfl ?_
              have hN : V = none := by rw [h5, if_neg h108, if_neg h99]; rfl
              exact g_iret dX3_readNumbers_113 rfl (Nat.le_refl _) (Nat.le_refl _) ⟨by rw [hN]; rfl, rfl, r2, fun q hq => by rw [hN] at hq; cases hq⟩
          · refine g_il2 (pc2 := 103) dX3_readNumbers_102 rfl ?_
            have hN : V = some (pre ++ [v], e + 1) := by rw [h5, if_neg (by omega), if_pos h99]; rfl
            exact g_iret dX3_readNumbers_103 rfl (Nat.le_refl _) (Nat.le_refl _) ⟨by rw [hN]; rfl, rfl, r2, fun q hq => by rw [hN] at hq; cases hq; exact ⟨s2, fun j hj => n2 j (by rw [List.length_append, h1] at hj; exact hj)⟩⟩
        cases hd1 : digB tx n (p + 1) with
        | false =>
          have f1 := fin _ _ (numAt_1 hd0 hd1) (by omega)
          refine g_il3 (pc2 := 5) dX3_readNumbers_4 rfl ?_
          refine g_bipush (pc2 := 7) dX3_readNumbers_5 k_bipush_6 rfl ?_
          refine g_icmpN_ge 120 10 dX3_readNumbers_7 rfl rfl (by omega) (by omega) (fun h7 => ?_) (fun h7 => ?_)
          · omega
          · refine g_al0 (pc2 := 11) dX3_readNumbers_10 rfl ?_
            refine g_il2 (pc2 := 12) dX3_readNumbers_11 rfl ?_
            refine g_cVi (pc2 := 15) (R_c_isFigure23 l d _ _ hT1 _ (by omega)) meX3_isFigure mlX3_63 (by rfl) ⟨_, rfl, rfl⟩ rfl rfl (by simp) ⟨Nat.le_refl _, Nat.le_refl _⟩ dX3_readNumbers_12 rfl ?_
            refine g_if_neB 21 18 dX3_readNumbers_15 rfl rfl (fun h15 => ?_) (fun h15 => ?_)
            · refine g_al0 (pc2 := 22) dX3_readNumbers_21 rfl ?_
              refine g_getr (pc2 := 25) (by rfl) (by rfl) flX3_19 dX3_readNumbers_22 rfl ?_
              refine g_il2 (pc2 := 26) dX3_readNumbers_25 rfl ?_
              refine g_cVi (pc2 := 29) (R_c_letterAt l (d + 1) _ _ hT1 _ (by omega)) meX5_letterAt mlX3_52 (by rfl) ⟨_, rfl, rfl⟩ rfl rfl (by simp) ⟨Nat.le_refl _, Nat.le_refl _⟩ dX3_readNumbers_26 rfl ?_
              refine g_bipush (pc2 := 31) dX3_readNumbers_29 k_bipush_48 rfl ?_
              refine g_isubN (pc2 := 32) dX3_readNumbers_31 rfl (by omega) ?_
              refine g_is4 (pc2 := 34) dX3_readNumbers_32 (by decide) rfl ?_
              refine g_in2 (pc2 := 37) dX3_readNumbers_34 (nI_inc _) (by decide) rfl ?_
              refine g_al0 (pc2 := 38) dX3_readNumbers_37 rfl ?_
              refine g_il2 (pc2 := 39) dX3_readNumbers_38 rfl ?_
              refine g_cVi (pc2 := 42) (R_c_isFigure23 l d _ _ hT1 _ (by omega)) meX3_isFigure mlX3_63 (by rfl) ⟨_, rfl, rfl⟩ rfl rfl (by simp) ⟨Nat.le_refl _, Nat.le_refl _⟩ dX3_readNumbers_39 rfl ?_
              refine g_if_eqB 67 45 dX3_readNumbers_42 rfl rfl (fun h42 => ?_) (fun h42 => ?_)
              · exact f1
              · exact absurd (h42.symm.trans hd1) (by decide)
            · exact absurd (h15.symm.trans hd0) (by decide)
        | true =>
          have hge1 : 48 ≤ ltr tx n (p + 1) ∧ ltr tx n (p + 1) ≤ 57 := by
            rw [digB_l] at hd1
            simpa using hd1
          have f1 := fin _ _ (numAt_2 hd0 hd1) (by omega)
          rw [show 10 * (ltr tx n p - 48) + (ltr tx n (p + 1) - 48) = (ltr tx n p - 48) * 10 + ltr tx n (p + 1) - 48 by omega] at f1
          refine g_il3 (pc2 := 5) dX3_readNumbers_4 rfl ?_
          refine g_bipush (pc2 := 7) dX3_readNumbers_5 k_bipush_6 rfl ?_
          refine g_icmpN_ge 120 10 dX3_readNumbers_7 rfl rfl (by omega) (by omega) (fun h7 => ?_) (fun h7 => ?_)
          · omega
          · refine g_al0 (pc2 := 11) dX3_readNumbers_10 rfl ?_
            refine g_il2 (pc2 := 12) dX3_readNumbers_11 rfl ?_
            refine g_cVi (pc2 := 15) (R_c_isFigure23 l d _ _ hT1 _ (by omega)) meX3_isFigure mlX3_63 (by rfl) ⟨_, rfl, rfl⟩ rfl rfl (by simp) ⟨Nat.le_refl _, Nat.le_refl _⟩ dX3_readNumbers_12 rfl ?_
            refine g_if_neB 21 18 dX3_readNumbers_15 rfl rfl (fun h15 => ?_) (fun h15 => ?_)
            · refine g_al0 (pc2 := 22) dX3_readNumbers_21 rfl ?_
              refine g_getr (pc2 := 25) (by rfl) (by rfl) flX3_19 dX3_readNumbers_22 rfl ?_
              refine g_il2 (pc2 := 26) dX3_readNumbers_25 rfl ?_
              refine g_cVi (pc2 := 29) (R_c_letterAt l (d + 1) _ _ hT1 _ (by omega)) meX5_letterAt mlX3_52 (by rfl) ⟨_, rfl, rfl⟩ rfl rfl (by simp) ⟨Nat.le_refl _, Nat.le_refl _⟩ dX3_readNumbers_26 rfl ?_
              refine g_bipush (pc2 := 31) dX3_readNumbers_29 k_bipush_48 rfl ?_
              refine g_isubN (pc2 := 32) dX3_readNumbers_31 rfl (by omega) ?_
              refine g_is4 (pc2 := 34) dX3_readNumbers_32 (by decide) rfl ?_
              refine g_in2 (pc2 := 37) dX3_readNumbers_34 (nI_inc _) (by decide) rfl ?_
              refine g_al0 (pc2 := 38) dX3_readNumbers_37 rfl ?_
              refine g_il2 (pc2 := 39) dX3_readNumbers_38 rfl ?_
              refine g_cVi (pc2 := 42) (R_c_isFigure23 l d _ _ hT1 _ (by omega)) meX3_isFigure mlX3_63 (by rfl) ⟨_, rfl, rfl⟩ rfl rfl (by simp) ⟨Nat.le_refl _, Nat.le_refl _⟩ dX3_readNumbers_39 rfl ?_
              refine g_if_eqB 67 45 dX3_readNumbers_42 rfl rfl (fun h42 => ?_) (fun h42 => ?_)
              · exact absurd (h42.symm.trans hd1) (by decide)
              · refine g_il4 (pc2 := 47) dX3_readNumbers_45 rfl ?_
                refine g_bipush (pc2 := 49) dX3_readNumbers_47 k_bipush_10 rfl ?_
                refine g_imulN (pc2 := 50) dX3_readNumbers_49 rfl ?_
                refine g_al0 (pc2 := 51) dX3_readNumbers_50 rfl ?_
                refine g_getr (pc2 := 54) (by rfl) (by rfl) flX3_19 dX3_readNumbers_51 rfl ?_
                refine g_il2 (pc2 := 55) dX3_readNumbers_54 rfl ?_
                refine g_cVi (pc2 := 58) (R_c_letterAt l (d + 1) _ _ hT1 _ (by omega)) meX5_letterAt mlX3_52 (by rfl) ⟨_, rfl, rfl⟩ rfl rfl (by simp) ⟨Nat.le_refl _, Nat.le_refl _⟩ dX3_readNumbers_55 rfl ?_
                refine g_iaddN (pc2 := 59) dX3_readNumbers_58 rfl ?_
                refine g_bipush (pc2 := 61) dX3_readNumbers_59 k_bipush_48 rfl ?_
                refine g_isubN (pc2 := 62) dX3_readNumbers_61 rfl (by omega) ?_
                refine g_is4 (pc2 := 64) dX3_readNumbers_62 (by decide) rfl ?_
                refine g_in2 (pc2 := 67) dX3_readNumbers_64 (nI_inc _) (by decide) rfl ?_
                exact f1
            · exact absurd (h15.symm.trans hd0) (by decide)
  refine g_il1 (pc2 := 1) dX3_readNumbers_0 rfl ?_
  refine g_is2 (pc2 := 2) dX3_readNumbers_1 (by decide) rfl ?_
  refine g_iconst (pc2 := 3) dX3_readNumbers_2 k_iconst_0 rfl ?_
  refine g_is3 (pc2 := 4) dX3_readNumbers_3 (by decide) rfl ?_
  exact key 0 (Nat.zero_le _) [] p0 σ _ _ rfl (by omega) (RN23.rf σ) (fun i hi => by omega) (by rw [← hV, nsC_nil])
/-! reader 25 -/
theorem R_c_isFigure25 (l : lt_L) (d : Nat) (t : lt_H) (σ : lt_S) {n : Nat} {tx : Nat → Nat} (hT : TC σ n tx) (p : Nat) (hp : p < 400) : lt_T l (d + 2) mX3_isFigure (lt_SC ++ t) σ [.ref 25, .int (nI p)] (some (bI (digB tx n p))) σ := by
  refine lt_T.of [some (.ref 25), some (.int (nI p)), none] rfl rfl (Nat.le_of_ble_eq_true rfl) ?_
  have hl := ltr_lt hT p
  rw [digB_l]
  refine g_al0 (pc2 := 1) dX3_isFigure_0 rfl ?_
  refine g_getr (pc2 := 4) (by rfl) (by rfl) flX3_19 dX3_isFigure_1 rfl ?_
  refine g_il1 (pc2 := 5) dX3_isFigure_4 rfl ?_
  refine g_cVi (pc2 := 8) (R_c_letterAt l d _ _ hT _ hp) meX5_letterAt mlX3_52 (by rfl) ⟨_, rfl, rfl⟩ rfl rfl (by simp) ⟨Nat.le_refl _, Nat.le_refl _⟩ dX3_isFigure_5 rfl ?_
  refine g_is2 (pc2 := 9) dX3_isFigure_8 (by decide) rfl ?_
  refine g_il2 (pc2 := 10) dX3_isFigure_9 rfl ?_
  refine g_bipush (pc2 := 12) dX3_isFigure_10 k_bipush_48 rfl ?_
  refine g_icmpN_lt 25 15 dX3_isFigure_12 rfl rfl (by omega) (by omega) (fun h12 => ?_) (fun h12 => ?_)
  · refine g_iconst (pc2 := 26) dX3_isFigure_25 k_iconst_0 rfl ?_
    exact g_zretT dX3_isFigure_26 rfl (Nat.le_refl _) (Nat.le_refl _) (by first | (rw [decide_eq_false (show ¬ 48 ≤ ltr tx n p by omega)]; rfl) | (rw [decide_eq_true (show 48 ≤ ltr tx n p by omega), decide_eq_false (show ¬ ltr tx n p ≤ 57 by omega)]; rfl) | (rw [decide_eq_true (show 48 ≤ ltr tx n p by omega), decide_eq_true (show ltr tx n p ≤ 57 by omega)]; rfl)) (rfl)
  · refine g_il2 (pc2 := 16) dX3_isFigure_15 rfl ?_
    refine g_bipush (pc2 := 18) dX3_isFigure_16 k_bipush_57 rfl ?_
    refine g_icmpN_gt 25 21 dX3_isFigure_18 rfl rfl (by omega) (by omega) (fun h18 => ?_) (fun h18 => ?_)
    · refine g_iconst (pc2 := 26) dX3_isFigure_25 k_iconst_0 rfl ?_
      exact g_zretT dX3_isFigure_26 rfl (Nat.le_refl _) (Nat.le_refl _) (by first | (rw [decide_eq_false (show ¬ 48 ≤ ltr tx n p by omega)]; rfl) | (rw [decide_eq_true (show 48 ≤ ltr tx n p by omega), decide_eq_false (show ¬ ltr tx n p ≤ 57 by omega)]; rfl) | (rw [decide_eq_true (show 48 ≤ ltr tx n p by omega), decide_eq_true (show ltr tx n p ≤ 57 by omega)]; rfl)) (rfl)
    · refine g_iconst (pc2 := 22) dX3_isFigure_21 k_iconst_1 rfl ?_
      refine g_goto 26 dX3_isFigure_22 rfl ?_
      exact g_zretT dX3_isFigure_26 rfl (Nat.le_refl _) (Nat.le_refl _) (by first | (rw [decide_eq_false (show ¬ 48 ≤ ltr tx n p by omega)]; rfl) | (rw [decide_eq_true (show 48 ≤ ltr tx n p by omega), decide_eq_false (show ¬ ltr tx n p ≤ 57 by omega)]; rfl) | (rw [decide_eq_true (show 48 ≤ ltr tx n p by omega), decide_eq_true (show ltr tx n p ≤ 57 by omega)]; rfl)) (rfl)
theorem R_c_wordAt25 (l : lt_L) (d : Nat) (t : lt_H) (σ : lt_S) {n : Nat} {tx : Nat → Nat} (hT : TC σ n tx) (p : Nat) (hp : p < 300) : lt_T l (d + 5) mX3_wordAt (lt_SC ++ t) σ [.ref 25, .int (nI p)] (some (oI (kindAt tx n p))) σ := by
  refine lt_T.of [some (.ref 25), some (.int (nI p)), none, none, none] rfl rfl (Nat.le_of_ble_eq_true rfl) ?_
  rw [← kind_fst]
  have key : ∀ w, w ≤ 5 → ∀ z3 z4 : Option Value, fstF (wmB tx n p) w = none → lt_g l (d + 5) mX3_wordAt (lt_SC ++ t) σ 2 [some (.ref 25), some (.int (nI p)), some (.int (nI w)), z3, z4] [] (some (oI (fstF (wmB tx n p) 5))) σ := by
    refine lt_dn 5 ?_ ?_
    · intro z3 z4 h
      rw [h]
      refine g_il2 (pc2 := 3) dX3_wordAt_2 rfl ?_
      refine g_iconst (pc2 := 4) dX3_wordAt_3 k_iconst_5 rfl ?_
      refine g_icmpN_ge 65 7 dX3_wordAt_4 rfl rfl (by omega) (by omega) (fun h4 => ?_) (fun h4 => ?_)
      · refine g_bipush (pc2 := 67) dX3_wordAt_65 k_bipush_m4 rfl ?_
        exact g_iretT dX3_wordAt_67 rfl (Nat.le_refl _) (Nat.le_refl _) (rfl) (rfl)
      · omega
    · intro w hw ih z3 z4 h
      have key2 : ∀ k, k ≤ 5 → lt_g l (d + 5) mX3_wordAt (lt_SC ++ t) σ 12 [some (.ref 25), some (.int (nI p)), some (.int (nI w)), some (.int (nI (sumF (wmF tx n p w) k))), some (.int (nI k))] [] (some (oI (fstF (wmB tx n p) 5))) σ := by
        refine lt_dn 5 ?_ ?_
        · have hs := sumF_le (wmF tx n p w) 5
          by_cases h5 : sumF (wmF tx n p w) 5 = 5
          · rw [fstF_at h (show wmB tx n p w = true from decide_eq_true h5) 5 hw]
            refine g_il4 (pc2 := 14) dX3_wordAt_12 rfl ?_
            refine g_iconst (pc2 := 15) dX3_wordAt_14 k_iconst_5 rfl ?_
            refine g_icmpN_ge 52 18 dX3_wordAt_15 rfl rfl (by omega) (by omega) (fun h15 => ?_) (fun h15 => ?_)
            · refine g_il3 (pc2 := 53) dX3_wordAt_52 rfl ?_
              refine g_iconst (pc2 := 54) dX3_wordAt_53 k_iconst_5 rfl ?_
              refine g_icmpN_ne 59 57 dX3_wordAt_54 rfl rfl (by omega) (by omega) (fun h54 => ?_) (fun h54 => ?_)
              · exact absurd h5 h54
              · refine g_il2 (pc2 := 58) dX3_wordAt_57 rfl ?_
                exact g_iretT dX3_wordAt_58 rfl (Nat.le_refl _) (Nat.le_refl _) (rfl) (rfl)
            · omega
          · refine g_il4 (pc2 := 14) dX3_wordAt_12 rfl ?_
            refine g_iconst (pc2 := 15) dX3_wordAt_14 k_iconst_5 rfl ?_
            refine g_icmpN_ge 52 18 dX3_wordAt_15 rfl rfl (by omega) (by omega) (fun h15 => ?_) (fun h15 => ?_)
            · refine g_il3 (pc2 := 53) dX3_wordAt_52 rfl ?_
              refine g_iconst (pc2 := 54) dX3_wordAt_53 k_iconst_5 rfl ?_
              refine g_icmpN_ne 59 57 dX3_wordAt_54 rfl rfl (by omega) (by omega) (fun h54 => ?_) (fun h54 => ?_)
              · refine g_in2 (pc2 := 62) dX3_wordAt_59 (nI_inc _) (by decide) rfl ?_
                refine g_goto 2 dX3_wordAt_62 rfl ?_
                refine ih _ _ ?_
                simp only [fstF, h]
                rw [if_neg (show ¬ wmB tx n p w = true from fun q => h5 (of_decide_eq_true q))]
              · exact absurd h54 h5
            · omega
        · intro k hk ih2
          have hl := ltr_lt hT (p + k)
          have hch := chN_1 (w * 5 + k) (by omega)
          have ihT : wmF tx n p w k = true → lt_g l (d + 5) mX3_wordAt (lt_SC ++ t) σ 12 [some (.ref 25), some (.int (nI p)), some (.int (nI w)), some (.int (nI (sumF (wmF tx n p w) k + 1))), some (.int (nI (k + 1)))] [] (some (oI (fstF (wmB tx n p) 5))) σ := fun h => by simp only [sumF, h] at ih2; exact ih2
          have ihF : wmF tx n p w k = false → lt_g l (d + 5) mX3_wordAt (lt_SC ++ t) σ 12 [some (.ref 25), some (.int (nI p)), some (.int (nI w)), some (.int (nI (sumF (wmF tx n p w) k + 0))), some (.int (nI (k + 1)))] [] (some (oI (fstF (wmB tx n p) 5))) σ := fun h => by simp only [sumF, h] at ih2; exact ih2
          refine g_il4 (pc2 := 14) dX3_wordAt_12 rfl ?_
          refine g_iconst (pc2 := 15) dX3_wordAt_14 k_iconst_5 rfl ?_
          refine g_icmpN_ge 52 18 dX3_wordAt_15 rfl rfl (by omega) (by omega) (fun h15 => ?_) (fun h15 => ?_)
          · omega
          · refine g_al0 (pc2 := 19) dX3_wordAt_18 rfl ?_
            refine g_getr (pc2 := 22) (by rfl) (by rfl) flX3_19 dX3_wordAt_19 rfl ?_
            refine g_il1 (pc2 := 23) dX3_wordAt_22 rfl ?_
            refine g_il4 (pc2 := 25) dX3_wordAt_23 rfl ?_
            refine g_iaddN (pc2 := 26) dX3_wordAt_25 rfl ?_
            refine g_cVi (pc2 := 29) (R_c_letterAt l (d + 3) _ _ hT _ (by omega)) meX5_letterAt mlX3_52 (by rfl) ⟨_, rfl, rfl⟩ rfl rfl (by simp) ⟨Nat.le_refl _, Nat.le_refl _⟩ dX3_wordAt_26 rfl ?_
            refine g_ldcS1 (pc2 := 31) rfl dX3_wordAt_29 rfl ?_
            refine g_il2 (pc2 := 32) dX3_wordAt_31 rfl ?_
            refine g_iconst (pc2 := 33) dX3_wordAt_32 k_iconst_5 rfl ?_
            refine g_imulN (pc2 := 34) dX3_wordAt_33 rfl ?_
            refine g_il4 (pc2 := 36) dX3_wordAt_34 rfl ?_
            refine g_iaddN (pc2 := 37) dX3_wordAt_36 rfl ?_
            refine g_cXi (i := 1) (pc2 := 40) (by decide) (R_j_charAt l d _ σ (i := 1) (by decide) (show w * 5 + k < 25 by omega)) meJ0_charAt_5068e mlX3_57 rfl rfl rfl (by simp) ⟨Nat.le_refl _, Nat.le_refl _⟩ dX3_wordAt_37 rfl ?_
            refine g_icmpN_ne 46 43 dX3_wordAt_40 rfl rfl (by omega) (by omega) (fun h40 => ?_) (fun h40 => ?_)
            · refine g_in4 (pc2 := 49) dX3_wordAt_46 (nI_inc _) (by decide) rfl ?_
              refine g_goto 12 dX3_wordAt_49 rfl ?_
              exact ihF (decide_eq_false h40)
            · refine g_in3 (pc2 := 46) dX3_wordAt_43 (nI_inc _) (by decide) rfl ?_
              refine g_in4 (pc2 := 49) dX3_wordAt_46 (nI_inc _) (by decide) rfl ?_
              refine g_goto 12 dX3_wordAt_49 rfl ?_
              exact ihT (decide_eq_true h40)
      refine g_il2 (pc2 := 3) dX3_wordAt_2 rfl ?_
      refine g_iconst (pc2 := 4) dX3_wordAt_3 k_iconst_5 rfl ?_
      refine g_icmpN_ge 65 7 dX3_wordAt_4 rfl rfl (by omega) (by omega) (fun h4 => ?_) (fun h4 => ?_)
      · omega
      · refine g_iconst (pc2 := 8) dX3_wordAt_7 k_iconst_0 rfl ?_
        refine g_is3 (pc2 := 9) dX3_wordAt_8 (by decide) rfl ?_
        refine g_iconst (pc2 := 10) dX3_wordAt_9 k_iconst_0 rfl ?_
        refine g_is4 (pc2 := 12) dX3_wordAt_10 (by decide) rfl ?_
        exact key2 0 (Nat.zero_le _)
  refine g_iconst (pc2 := 1) dX3_wordAt_0 k_iconst_0 rfl ?_
  refine g_is2 (pc2 := 2) dX3_wordAt_1 (by decide) rfl ?_
  exact key 0 (Nat.zero_le _) _ _ rfl
def RN25 (σ σ' : lt_S) : Prop := (∀ a, a ≠ 25 → a ≠ 36 → σ' a = σ a) ∧ ∀ k, k ≠ 4 → σ' 25 k = σ 25 k
theorem RN25.rf (σ : lt_S) : RN25 σ σ := ⟨fun _ _ _ => rfl, fun _ _ => rfl⟩
def NS25 (σ : lt_S) (ns : List Nat) : Prop := σ 25 4 = nI ns.length ∧ ∀ j, j < ns.length → σ 36 j = nI (ns.getD j 0)
theorem RN25.tc {σ σ' : lt_S} (h : RN25 σ σ') {n : Nat} {tx : Nat → Nat} (hT : TC σ n tx) : TC σ' n tx := by
  unfold TC
  rw [h.1 11 (by decide) (by decide), h.1 12 (by decide) (by decide)]
  exact hT
theorem RN25.put {σ σ' : lt_S} (h : RN25 σ σ') (k : Nat) (x y : Int32) : RN25 σ (lt_up (lt_up σ' 36 k x) 25 4 y) := ⟨fun a h1 h2 => by rw [lt_up_nr _ _ _ h1, lt_up_nr _ _ _ h2]; exact h.1 a h1 h2, fun j hj => by rw [lt_up_ne _ _ _ hj, lt_up_nr _ _ _ (by decide)]; exact h.2 j hj⟩
theorem R_c_readNumbers25 (l : lt_L) (d : Nat) (t : lt_H) (σ : lt_S) {n : Nat} {tx : Nat → Nat} (hT : TC σ n tx) (p0 : Nat) (hp0 : p0 < 300) : lt_R l (d + 3) 0 0 mX3_readNumbers (lt_SC ++ t) σ [.ref 25, .int (nI p0)] (fun r sh' σ' => r = some (nsV (numsAt tx n 6 p0)) ∧ sh' = lt_SC ++ t ∧ RN25 σ σ' ∧ ∀ q, numsAt tx n 6 p0 = some q → NS25 σ' q.1) := by
  refine lt_R.of [some (.ref 25), some (.int (nI p0)), none, none, none, none] rfl rfl (Nat.le_of_ble_eq_true rfl) ?_
  generalize hV : numsAt tx n 6 p0 = V
  have key : ∀ k, k ≤ 6 → ∀ (pre : List Nat) (p : Nat) (σ1 : lt_S) (z4 z5 : Option Value), pre.length = k → p ≤ p0 + 3 * k → RN25 σ σ1 → (∀ i, i < k → σ1 36 i = nI (pre.getD i 0)) → V = nsC pre (numsAt tx n (6 - k) p) → lt_G l (d + 3) 0 0 mX3_readNumbers 0 0 (lt_SC ++ t) σ1 4 [some (.ref 25), some (.int (nI p0)), some (.int (nI p)), some (.int (nI k)), z4, z5] [] (fun r sh' σ' => r = some (nsV V) ∧ sh' = lt_SC ++ t ∧ RN25 σ σ' ∧ ∀ q, V = some q → NS25 σ' q.1) := by
    refine lt_dn 6 ?_ ?_
    · intro pre p σ1 z4 z5 h1 h2 h3 h4 h5
      have hN : V = none := h5
      refine g_il3 (pc2 := 5) dX3_readNumbers_4 rfl ?_
      refine g_bipush (pc2 := 7) dX3_readNumbers_5 k_bipush_6 rfl ?_
      refine g_icmpN_ge 120 10 dX3_readNumbers_7 rfl rfl (by omega) (by omega) (fun h7 => ?_) (fun h7 => ?_)
      · refine g_bipush (pc2 := 122) dX3_readNumbers_120 k_bipush_m4 rfl ?_
        exact g_iret dX3_readNumbers_122 rfl (Nat.le_refl _) (Nat.le_refl _) ⟨by rw [hN]; rfl, rfl, h3, fun q hq => by rw [hN] at hq; cases hq⟩
      · omega
    · intro k hk ih pre p σ1 z4 z5 h1 h2 h3 h4 h5
      have hT1 := h3.tc hT
      have hl := ltr_lt hT1 p
      have hl1 := ltr_lt hT1 (p + 1)
      rw [show 6 - k = (5 - k) + 1 by omega] at h5
      cases hd0 : digB tx n p with
      | false =>
        have hN : V = none := by
          rw [h5]
          simp only [numsAt, numAt_0 hd0]
          rfl
        refine g_il3 (pc2 := 5) dX3_readNumbers_4 rfl ?_
        refine g_bipush (pc2 := 7) dX3_readNumbers_5 k_bipush_6 rfl ?_
        refine g_icmpN_ge 120 10 dX3_readNumbers_7 rfl rfl (by omega) (by omega) (fun h7 => ?_) (fun h7 => ?_)
        · omega
        · refine g_al0 (pc2 := 11) dX3_readNumbers_10 rfl ?_
          refine g_il2 (pc2 := 12) dX3_readNumbers_11 rfl ?_
          refine g_cVi (pc2 := 15) (R_c_isFigure25 l d _ _ hT1 _ (by omega)) meX3_isFigure mlX3_63 (by rfl) ⟨_, rfl, rfl⟩ rfl rfl (by simp) ⟨Nat.le_refl _, Nat.le_refl _⟩ dX3_readNumbers_12 rfl ?_
          refine g_if_neB 21 18 dX3_readNumbers_15 rfl rfl (fun h15 => ?_) (fun h15 => ?_)
          · exact absurd (h15.symm.trans hd0) (by decide)
          · refine g_bipush (pc2 := 20) dX3_readNumbers_18 k_bipush_m4 rfl ?_
            exact g_iret dX3_readNumbers_20 rfl (Nat.le_refl _) (Nat.le_refl _) ⟨by rw [hN]; rfl, rfl, h3, fun q hq => by rw [hN] at hq; cases hq⟩
      | true =>
        have hge : 48 ≤ ltr tx n p ∧ ltr tx n p ≤ 57 := by
          rw [digB_l] at hd0
          simpa using hd0
        have fin : ∀ v e, numAt tx n p = some (v, e) → e ≤ p + 2 → lt_G l (d + 3) 0 0 mX3_readNumbers 0 0 (lt_SC ++ t) σ1 67 [some (.ref 25), some (.int (nI p0)), some (.int (nI e)), some (.int (nI k)), some (.int (nI v)), z5] [] (fun r sh' σ' => r = some (nsV V) ∧ sh' = lt_SC ++ t ∧ RN25 σ σ' ∧ ∀ q, V = some q → NS25 σ' q.1) := by
          intro v e hv he
          rw [numsAt_s hv] at h5
          generalize hσ2 : lt_up (lt_up σ1 36 k (nI v)) 25 4 (nI (k + 1)) = σ2
          have r2 : RN25 σ σ2 := by rw [← hσ2]; exact h3.put _ _ _
          have hT2 := r2.tc hT
          have hle := ltr_lt hT2 e
          have n2 : ∀ i, i < k + 1 → σ2 36 i = nI ((pre ++ [v]).getD i 0) := by
            intro i hi
            rw [← hσ2, lt_up_nr _ _ _ (by decide)]
            by_cases e : i = k
            · subst e
              rw [lt_up_at, ← h1, getD_app2]
            · rw [lt_up_ne _ _ _ e, getD_app1 (by omega)]
              exact h4 i (by omega)
          have s2 : σ2 25 4 = nI (pre ++ [v]).length := by rw [← hσ2, lt_up_at, List.length_append, h1]; rfl
          refine g_al0 (pc2 := 68) dX3_readNumbers_67 rfl ?_
          refine g_getr (pc2 := 71) (by rfl) (by rfl) flX3_11 dX3_readNumbers_68 rfl ?_
          refine g_il3 (pc2 := 72) dX3_readNumbers_71 rfl ?_
          refine g_il4 (pc2 := 74) dX3_readNumbers_72 rfl ?_
          refine g_iast (pc2 := 75) (by rfl) (by omega) (by decide) dX3_readNumbers_74 rfl ?_
          refine g_al0 (pc2 := 76) dX3_readNumbers_75 rfl ?_
          refine g_il3 (pc2 := 77) dX3_readNumbers_76 rfl ?_
          refine g_iconst (pc2 := 78) dX3_readNumbers_77 k_iconst_1 rfl ?_
          refine g_iaddN (pc2 := 79) dX3_readNumbers_78 rfl ?_
          refine g_puti (pc2 := 82) (by rfl) (by rfl) flX3_15 (fpX3_4 _) (fun h => by first | cases h | rfl) dX3_readNumbers_79 rfl ?_
          rw [hσ2]
          refine g_al0 (pc2 := 83) dX3_readNumbers_82 rfl ?_
          refine g_getr (pc2 := 86) (by rfl) (by rfl) flX3_19 dX3_readNumbers_83 rfl ?_
          refine g_il2 (pc2 := 87) dX3_readNumbers_86 rfl ?_
          refine g_cVi (pc2 := 90) (R_c_letterAt l (d + 1) _ _ hT2 _ (by omega)) meX5_letterAt mlX3_52 (by rfl) ⟨_, rfl, rfl⟩ rfl rfl (by simp) ⟨Nat.le_refl _, Nat.le_refl _⟩ dX3_readNumbers_87 rfl ?_
          refine g_is5 (pc2 := 92) dX3_readNumbers_90 (by decide) rfl ?_
          refine g_in2 (pc2 := 95) dX3_readNumbers_92 (nI_inc _) (by decide) rfl ?_
          refine g_il5 (pc2 := 97) dX3_readNumbers_95 rfl ?_
          refine g_bipush (pc2 := 99) dX3_readNumbers_97 k_bipush_59 rfl ?_
          refine g_icmpN_ne 104 102 dX3_readNumbers_99 rfl rfl (by omega) (by omega) (fun h99 => ?_) (fun h99 => ?_)
          · refine g_il5 (pc2 := 106) dX3_readNumbers_104 rfl ?_
            refine g_bipush (pc2 := 108) dX3_readNumbers_106 k_bipush_44 rfl ?_
            refine g_icmpN_eq 114 111 dX3_readNumbers_108 rfl rfl (by omega) (by omega) (fun h108 => ?_) (fun h108 => ?_)
            · refine g_in3 (pc2 := 117) dX3_readNumbers_114 (nI_inc _) (by decide) rfl ?_
              refine g_goto 4 dX3_readNumbers_117 rfl ?_
              refine ih (pre ++ [v]) (e + 1) σ2 _ _ (by rw [List.length_append, h1]; rfl) (by omega) r2 n2 ?_
              rw [h5, if_pos h108, nsC_C, show 6 - (k + 1) = 5 - k by omega]
            · refine g_bipush (pc2 := 113) dX3_readNumbers_111 k_bipush_m4 rfl ?_
              have hN : V = none := by rw [h5, if_neg h108, if_neg h99]; rfl
              exact g_iret dX3_readNumbers_113 rfl (Nat.le_refl _) (Nat.le_refl _) ⟨by rw [hN]; rfl, rfl, r2, fun q hq => by rw [hN] at hq; cases hq⟩
          · refine g_il2 (pc2 := 103) dX3_readNumbers_102 rfl ?_
            have hN : V = some (pre ++ [v], e + 1) := by rw [h5, if_neg (by omega), if_pos h99]; rfl
            exact g_iret dX3_readNumbers_103 rfl (Nat.le_refl _) (Nat.le_refl _) ⟨by rw [hN]; rfl, rfl, r2, fun q hq => by rw [hN] at hq; cases hq; exact ⟨s2, fun j hj => n2 j (by rw [List.length_append, h1] at hj; exact hj)⟩⟩
        cases hd1 : digB tx n (p + 1) with
        | false =>
          have f1 := fin _ _ (numAt_1 hd0 hd1) (by omega)
          refine g_il3 (pc2 := 5) dX3_readNumbers_4 rfl ?_
          refine g_bipush (pc2 := 7) dX3_readNumbers_5 k_bipush_6 rfl ?_
          refine g_icmpN_ge 120 10 dX3_readNumbers_7 rfl rfl (by omega) (by omega) (fun h7 => ?_) (fun h7 => ?_)
          · omega
          · refine g_al0 (pc2 := 11) dX3_readNumbers_10 rfl ?_
            refine g_il2 (pc2 := 12) dX3_readNumbers_11 rfl ?_
            refine g_cVi (pc2 := 15) (R_c_isFigure25 l d _ _ hT1 _ (by omega)) meX3_isFigure mlX3_63 (by rfl) ⟨_, rfl, rfl⟩ rfl rfl (by simp) ⟨Nat.le_refl _, Nat.le_refl _⟩ dX3_readNumbers_12 rfl ?_
            refine g_if_neB 21 18 dX3_readNumbers_15 rfl rfl (fun h15 => ?_) (fun h15 => ?_)
            · refine g_al0 (pc2 := 22) dX3_readNumbers_21 rfl ?_
              refine g_getr (pc2 := 25) (by rfl) (by rfl) flX3_19 dX3_readNumbers_22 rfl ?_
              refine g_il2 (pc2 := 26) dX3_readNumbers_25 rfl ?_
              refine g_cVi (pc2 := 29) (R_c_letterAt l (d + 1) _ _ hT1 _ (by omega)) meX5_letterAt mlX3_52 (by rfl) ⟨_, rfl, rfl⟩ rfl rfl (by simp) ⟨Nat.le_refl _, Nat.le_refl _⟩ dX3_readNumbers_26 rfl ?_
              refine g_bipush (pc2 := 31) dX3_readNumbers_29 k_bipush_48 rfl ?_
              refine g_isubN (pc2 := 32) dX3_readNumbers_31 rfl (by omega) ?_
              refine g_is4 (pc2 := 34) dX3_readNumbers_32 (by decide) rfl ?_
              refine g_in2 (pc2 := 37) dX3_readNumbers_34 (nI_inc _) (by decide) rfl ?_
              refine g_al0 (pc2 := 38) dX3_readNumbers_37 rfl ?_
              refine g_il2 (pc2 := 39) dX3_readNumbers_38 rfl ?_
              refine g_cVi (pc2 := 42) (R_c_isFigure25 l d _ _ hT1 _ (by omega)) meX3_isFigure mlX3_63 (by rfl) ⟨_, rfl, rfl⟩ rfl rfl (by simp) ⟨Nat.le_refl _, Nat.le_refl _⟩ dX3_readNumbers_39 rfl ?_
              refine g_if_eqB 67 45 dX3_readNumbers_42 rfl rfl (fun h42 => ?_) (fun h42 => ?_)
              · exact f1
              · exact absurd (h42.symm.trans hd1) (by decide)
            · exact absurd (h15.symm.trans hd0) (by decide)
        | true =>
          have hge1 : 48 ≤ ltr tx n (p + 1) ∧ ltr tx n (p + 1) ≤ 57 := by
            rw [digB_l] at hd1
            simpa using hd1
          have f1 := fin _ _ (numAt_2 hd0 hd1) (by omega)
          rw [show 10 * (ltr tx n p - 48) + (ltr tx n (p + 1) - 48) = (ltr tx n p - 48) * 10 + ltr tx n (p + 1) - 48 by omega] at f1
          refine g_il3 (pc2 := 5) dX3_readNumbers_4 rfl ?_
          refine g_bipush (pc2 := 7) dX3_readNumbers_5 k_bipush_6 rfl ?_
          refine g_icmpN_ge 120 10 dX3_readNumbers_7 rfl rfl (by omega) (by omega) (fun h7 => ?_) (fun h7 => ?_)
          · omega
          · refine g_al0 (pc2 := 11) dX3_readNumbers_10 rfl ?_
            refine g_il2 (pc2 := 12) dX3_readNumbers_11 rfl ?_
            refine g_cVi (pc2 := 15) (R_c_isFigure25 l d _ _ hT1 _ (by omega)) meX3_isFigure mlX3_63 (by rfl) ⟨_, rfl, rfl⟩ rfl rfl (by simp) ⟨Nat.le_refl _, Nat.le_refl _⟩ dX3_readNumbers_12 rfl ?_
            refine g_if_neB 21 18 dX3_readNumbers_15 rfl rfl (fun h15 => ?_) (fun h15 => ?_)
            · refine g_al0 (pc2 := 22) dX3_readNumbers_21 rfl ?_
              refine g_getr (pc2 := 25) (by rfl) (by rfl) flX3_19 dX3_readNumbers_22 rfl ?_
              refine g_il2 (pc2 := 26) dX3_readNumbers_25 rfl ?_
              refine g_cVi (pc2 := 29) (R_c_letterAt l (d + 1) _ _ hT1 _ (by omega)) meX5_letterAt mlX3_52 (by rfl) ⟨_, rfl, rfl⟩ rfl rfl (by simp) ⟨Nat.le_refl _, Nat.le_refl _⟩ dX3_readNumbers_26 rfl ?_
              refine g_bipush (pc2 := 31) dX3_readNumbers_29 k_bipush_48 rfl ?_
              refine g_isubN (pc2 := 32) dX3_readNumbers_31 rfl (by omega) ?_
              refine g_is4 (pc2 := 34) dX3_readNumbers_32 (by decide) rfl ?_
              refine g_in2 (pc2 := 37) dX3_readNumbers_34 (nI_inc _) (by decide) rfl ?_
              refine g_al0 (pc2 := 38) dX3_readNumbers_37 rfl ?_
              refine g_il2 (pc2 := 39) dX3_readNumbers_38 rfl ?_
              refine g_cVi (pc2 := 42) (R_c_isFigure25 l d _ _ hT1 _ (by omega)) meX3_isFigure mlX3_63 (by rfl) ⟨_, rfl, rfl⟩ rfl rfl (by simp) ⟨Nat.le_refl _, Nat.le_refl _⟩ dX3_readNumbers_39 rfl ?_
              refine g_if_eqB 67 45 dX3_readNumbers_42 rfl rfl (fun h42 => ?_) (fun h42 => ?_)
              · exact absurd (h42.symm.trans hd1) (by decide)
              · refine g_il4 (pc2 := 47) dX3_readNumbers_45 rfl ?_
                refine g_bipush (pc2 := 49) dX3_readNumbers_47 k_bipush_10 rfl ?_
                refine g_imulN (pc2 := 50) dX3_readNumbers_49 rfl ?_
                refine g_al0 (pc2 := 51) dX3_readNumbers_50 rfl ?_
                refine g_getr (pc2 := 54) (by rfl) (by rfl) flX3_19 dX3_readNumbers_51 rfl ?_
                refine g_il2 (pc2 := 55) dX3_readNumbers_54 rfl ?_
                refine g_cVi (pc2 := 58) (R_c_letterAt l (d + 1) _ _ hT1 _ (by omega)) meX5_letterAt mlX3_52 (by rfl) ⟨_, rfl, rfl⟩ rfl rfl (by simp) ⟨Nat.le_refl _, Nat.le_refl _⟩ dX3_readNumbers_55 rfl ?_
                refine g_iaddN (pc2 := 59) dX3_readNumbers_58 rfl ?_
                refine g_bipush (pc2 := 61) dX3_readNumbers_59 k_bipush_48 rfl ?_
                refine g_isubN (pc2 := 62) dX3_readNumbers_61 rfl (by omega) ?_
                refine g_is4 (pc2 := 64) dX3_readNumbers_62 (by decide) rfl ?_
                refine g_in2 (pc2 := 67) dX3_readNumbers_64 (nI_inc _) (by decide) rfl ?_
                exact f1
            · exact absurd (h15.symm.trans hd0) (by decide)
  refine g_il1 (pc2 := 1) dX3_readNumbers_0 rfl ?_
  refine g_is2 (pc2 := 2) dX3_readNumbers_1 (by decide) rfl ?_
  refine g_iconst (pc2 := 3) dX3_readNumbers_2 k_iconst_0 rfl ?_
  refine g_is3 (pc2 := 4) dX3_readNumbers_3 (by decide) rfl ?_
  exact key 0 (Nat.zero_le _) [] p0 σ _ _ rfl (by omega) (RN25.rf σ) (fun i hi => by omega) (by rw [← hV, nsC_nil])
