/-! the class: the past, changes -/
def S_copy (σ : lt_S) (a b : Nat) : lt_S :=
  let σ1 := lt_ur σ (a + 1) (va_cpy (σ (b + 1)) (σ (a + 1)) 0 0 7)
  let σ2 := lt_ur σ1 (a + 2) (va_cpy (σ1 (b + 2)) (σ1 (a + 2)) 0 0 7)
  let σ3 := lt_ur σ2 (a + 3) (va_cpy (σ2 (b + 3)) (σ2 (a + 3)) 0 0 7)
  lt_ur σ3 (a + 4) (va_cpy (σ3 (b + 4)) (σ3 (a + 4)) 0 0 7)
theorem S_copy_ne (σ : lt_S) (a b : Nat) {x : Nat} (h : x < a + 1 ∨ a + 4 < x) : S_copy σ a b x = σ x := by
  unfold S_copy
  rw [lt_ur_ne _ _ (by omega), lt_ur_ne _ _ (by omega), lt_ur_ne _ _ (by omega), lt_ur_ne _ _ (by omega)]
theorem S_copy_eq (σ : lt_S) (a b : Nat) (hab : a + 5 ≤ b ∨ b + 5 ≤ a) {k j : Nat} (hk : 1 ≤ k) (hk4 : k ≤ 4) (hj : j < 7) : S_copy σ a b (a + k) j = σ (b + k) j := by
  unfold S_copy
  rcases (show k = 1 ∨ k = 2 ∨ k = 3 ∨ k = 4 by omega) with rfl | rfl | rfl | rfl
  · rw [lt_ur_ne _ _ (by omega), lt_ur_ne _ _ (by omega), lt_ur_ne _ _ (by omega), lt_ur_eq, pk_cpy_in (by omega) (by omega), show 0 + (j - 0) = j by omega]
  · rw [lt_ur_ne _ _ (by omega), lt_ur_ne _ _ (by omega), lt_ur_eq, pk_cpy_in (by omega) (by omega), show 0 + (j - 0) = j by omega, lt_ur_ne _ _ (by omega)]
  · rw [lt_ur_ne _ _ (by omega), lt_ur_eq, pk_cpy_in (by omega) (by omega), show 0 + (j - 0) = j by omega, lt_ur_ne _ _ (by omega), lt_ur_ne _ _ (by omega)]
  · rw [lt_ur_eq, pk_cpy_in (by omega) (by omega), show 0 + (j - 0) = j by omega, lt_ur_ne _ _ (by omega), lt_ur_ne _ _ (by omega), lt_ur_ne _ _ (by omega)]
theorem CP.copy {σ : lt_S} {a b N : Nat} {w : Nat → Int32} (hab : a + 5 ≤ b ∨ b + 5 ≤ a) (hN : N ≤ 7) (h : CP b σ w N) : CP a (S_copy σ a b) w N := by
  intro i hi
  rw [S_copy_eq σ a b hab (k := 1) (by decide) (by decide) (by omega), S_copy_eq σ a b hab (k := 2) (by decide) (by decide) (by omega), S_copy_eq σ a b hab (k := 3) (by decide) (by decide) (by omega), S_copy_eq σ a b hab (k := 4) (by decide) (by decide) (by omega)]
  exact h i hi
def KP (σ : lt_S) (nx c : Nat) : Prop := σ 44 1 = nI nx ∧ nx < 6 ∧ σ 44 2 = nI c ∧ c ≤ 6
def S_ckeep (σ : lt_S) (nx c : Nat) : lt_S := lt_up (lt_up (S_copy σ (46 + 5 * nx) 18) 44 1 (nI (if nx = 5 then 0 else nx + 1))) 44 2 (nI (if c = 6 then 6 else c + 1))
def S_cback (σ : lt_S) (nx c : Nat) : lt_S := S_copy (lt_up (lt_up σ 44 1 (nI (if nx = 0 then 5 else nx - 1))) 44 2 (nI (c - 1))) 18 (46 + 5 * (if nx = 0 then 5 else nx - 1))
theorem R_c_copyK0 (l : lt_L) (d : Nat) (t : lt_H) (σ : lt_S) : lt_T l (d + 1) mX2_copy (lt_SC ++ t) σ [.ref 46, .ref 18] none (S_copy σ 46 18) := by
  refine lt_T.of [some (.ref 46), some (.ref 18)] rfl rfl (Nat.le_of_ble_eq_true rfl) ?_
  refine g_al1 (pc2 := 1) dX2_copy_0 rfl ?_
  refine g_getr (pc2 := 4) (by rfl) (by rfl) flX2_9 dX2_copy_1 rfl ?_
  refine g_iconst (pc2 := 5) dX2_copy_4 k_iconst_0 rfl ?_
  refine g_al0 (pc2 := 6) dX2_copy_5 rfl ?_
  refine g_getr (pc2 := 9) (by rfl) (by rfl) flX2_9 dX2_copy_6 rfl ?_
  refine g_iconst (pc2 := 10) dX2_copy_9 k_iconst_0 rfl ?_
  refine g_bipush (pc2 := 12) dX2_copy_10 k_bipush_7 rfl ?_
  refine g_copy (pc2 := 15) (by rfl) (by rfl) (by decide) (by decide) (by decide) (by decide) mlX2_24 ac_1 ac_2 ac_3 (by simp) (by omega) dX2_copy_12 rfl ?_
  refine g_al1 (pc2 := 16) dX2_copy_15 rfl ?_
  refine g_getr (pc2 := 19) (by rfl) (by rfl) flX2_15 dX2_copy_16 rfl ?_
  refine g_iconst (pc2 := 20) dX2_copy_19 k_iconst_0 rfl ?_
  refine g_al0 (pc2 := 21) dX2_copy_20 rfl ?_
  refine g_getr (pc2 := 24) (by rfl) (by rfl) flX2_15 dX2_copy_21 rfl ?_
  refine g_iconst (pc2 := 25) dX2_copy_24 k_iconst_0 rfl ?_
  refine g_bipush (pc2 := 27) dX2_copy_25 k_bipush_7 rfl ?_
  refine g_copy (pc2 := 30) (by rfl) (by rfl) (by decide) (by decide) (by decide) (by decide) mlX2_24 ac_1 ac_2 ac_3 (by simp) (by omega) dX2_copy_27 rfl ?_
  refine g_al1 (pc2 := 31) dX2_copy_30 rfl ?_
  refine g_getr (pc2 := 34) (by rfl) (by rfl) flX2_18 dX2_copy_31 rfl ?_
  refine g_iconst (pc2 := 35) dX2_copy_34 k_iconst_0 rfl ?_
  refine g_al0 (pc2 := 36) dX2_copy_35 rfl ?_
  refine g_getr (pc2 := 39) (by rfl) (by rfl) flX2_18 dX2_copy_36 rfl ?_
  refine g_iconst (pc2 := 40) dX2_copy_39 k_iconst_0 rfl ?_
  refine g_bipush (pc2 := 42) dX2_copy_40 k_bipush_7 rfl ?_
  refine g_copy (pc2 := 45) (by rfl) (by rfl) (by decide) (by decide) (by decide) (by decide) mlX2_24 ac_1 ac_2 ac_3 (by simp) (by omega) dX2_copy_42 rfl ?_
  refine g_al1 (pc2 := 46) dX2_copy_45 rfl ?_
  refine g_getr (pc2 := 49) (by rfl) (by rfl) flX2_21 dX2_copy_46 rfl ?_
  refine g_iconst (pc2 := 50) dX2_copy_49 k_iconst_0 rfl ?_
  refine g_al0 (pc2 := 51) dX2_copy_50 rfl ?_
  refine g_getr (pc2 := 54) (by rfl) (by rfl) flX2_21 dX2_copy_51 rfl ?_
  refine g_iconst (pc2 := 55) dX2_copy_54 k_iconst_0 rfl ?_
  refine g_bipush (pc2 := 57) dX2_copy_55 k_bipush_7 rfl ?_
  refine g_copy (pc2 := 60) (by rfl) (by rfl) (by decide) (by decide) (by decide) (by decide) mlX2_24 ac_1 ac_2 ac_3 (by simp) (by omega) dX2_copy_57 rfl ?_
  exact g_retT dX2_copy_60 rfl (Nat.le_refl _) (Nat.le_refl _) (rfl)
theorem R_c_copyB0 (l : lt_L) (d : Nat) (t : lt_H) (σ : lt_S) : lt_T l (d + 1) mX2_copy (lt_SC ++ t) σ [.ref 18, .ref 46] none (S_copy σ 18 46) := by
  refine lt_T.of [some (.ref 18), some (.ref 46)] rfl rfl (Nat.le_of_ble_eq_true rfl) ?_
  refine g_al1 (pc2 := 1) dX2_copy_0 rfl ?_
  refine g_getr (pc2 := 4) (by rfl) (by rfl) flX2_9 dX2_copy_1 rfl ?_
  refine g_iconst (pc2 := 5) dX2_copy_4 k_iconst_0 rfl ?_
  refine g_al0 (pc2 := 6) dX2_copy_5 rfl ?_
  refine g_getr (pc2 := 9) (by rfl) (by rfl) flX2_9 dX2_copy_6 rfl ?_
  refine g_iconst (pc2 := 10) dX2_copy_9 k_iconst_0 rfl ?_
  refine g_bipush (pc2 := 12) dX2_copy_10 k_bipush_7 rfl ?_
  refine g_copy (pc2 := 15) (by rfl) (by rfl) (by decide) (by decide) (by decide) (by decide) mlX2_24 ac_1 ac_2 ac_3 (by simp) (by omega) dX2_copy_12 rfl ?_
  refine g_al1 (pc2 := 16) dX2_copy_15 rfl ?_
  refine g_getr (pc2 := 19) (by rfl) (by rfl) flX2_15 dX2_copy_16 rfl ?_
  refine g_iconst (pc2 := 20) dX2_copy_19 k_iconst_0 rfl ?_
  refine g_al0 (pc2 := 21) dX2_copy_20 rfl ?_
  refine g_getr (pc2 := 24) (by rfl) (by rfl) flX2_15 dX2_copy_21 rfl ?_
  refine g_iconst (pc2 := 25) dX2_copy_24 k_iconst_0 rfl ?_
  refine g_bipush (pc2 := 27) dX2_copy_25 k_bipush_7 rfl ?_
  refine g_copy (pc2 := 30) (by rfl) (by rfl) (by decide) (by decide) (by decide) (by decide) mlX2_24 ac_1 ac_2 ac_3 (by simp) (by omega) dX2_copy_27 rfl ?_
  refine g_al1 (pc2 := 31) dX2_copy_30 rfl ?_
  refine g_getr (pc2 := 34) (by rfl) (by rfl) flX2_18 dX2_copy_31 rfl ?_
  refine g_iconst (pc2 := 35) dX2_copy_34 k_iconst_0 rfl ?_
  refine g_al0 (pc2 := 36) dX2_copy_35 rfl ?_
  refine g_getr (pc2 := 39) (by rfl) (by rfl) flX2_18 dX2_copy_36 rfl ?_
  refine g_iconst (pc2 := 40) dX2_copy_39 k_iconst_0 rfl ?_
  refine g_bipush (pc2 := 42) dX2_copy_40 k_bipush_7 rfl ?_
  refine g_copy (pc2 := 45) (by rfl) (by rfl) (by decide) (by decide) (by decide) (by decide) mlX2_24 ac_1 ac_2 ac_3 (by simp) (by omega) dX2_copy_42 rfl ?_
  refine g_al1 (pc2 := 46) dX2_copy_45 rfl ?_
  refine g_getr (pc2 := 49) (by rfl) (by rfl) flX2_21 dX2_copy_46 rfl ?_
  refine g_iconst (pc2 := 50) dX2_copy_49 k_iconst_0 rfl ?_
  refine g_al0 (pc2 := 51) dX2_copy_50 rfl ?_
  refine g_getr (pc2 := 54) (by rfl) (by rfl) flX2_21 dX2_copy_51 rfl ?_
  refine g_iconst (pc2 := 55) dX2_copy_54 k_iconst_0 rfl ?_
  refine g_bipush (pc2 := 57) dX2_copy_55 k_bipush_7 rfl ?_
  refine g_copy (pc2 := 60) (by rfl) (by rfl) (by decide) (by decide) (by decide) (by decide) mlX2_24 ac_1 ac_2 ac_3 (by simp) (by omega) dX2_copy_57 rfl ?_
  exact g_retT dX2_copy_60 rfl (Nat.le_refl _) (Nat.le_refl _) (rfl)
theorem R_c_copyK1 (l : lt_L) (d : Nat) (t : lt_H) (σ : lt_S) : lt_T l (d + 1) mX2_copy (lt_SC ++ t) σ [.ref 51, .ref 18] none (S_copy σ 51 18) := by
  refine lt_T.of [some (.ref 51), some (.ref 18)] rfl rfl (Nat.le_of_ble_eq_true rfl) ?_
  refine g_al1 (pc2 := 1) dX2_copy_0 rfl ?_
  refine g_getr (pc2 := 4) (by rfl) (by rfl) flX2_9 dX2_copy_1 rfl ?_
  refine g_iconst (pc2 := 5) dX2_copy_4 k_iconst_0 rfl ?_
  refine g_al0 (pc2 := 6) dX2_copy_5 rfl ?_
  refine g_getr (pc2 := 9) (by rfl) (by rfl) flX2_9 dX2_copy_6 rfl ?_
  refine g_iconst (pc2 := 10) dX2_copy_9 k_iconst_0 rfl ?_
  refine g_bipush (pc2 := 12) dX2_copy_10 k_bipush_7 rfl ?_
  refine g_copy (pc2 := 15) (by rfl) (by rfl) (by decide) (by decide) (by decide) (by decide) mlX2_24 ac_1 ac_2 ac_3 (by simp) (by omega) dX2_copy_12 rfl ?_
  refine g_al1 (pc2 := 16) dX2_copy_15 rfl ?_
  refine g_getr (pc2 := 19) (by rfl) (by rfl) flX2_15 dX2_copy_16 rfl ?_
  refine g_iconst (pc2 := 20) dX2_copy_19 k_iconst_0 rfl ?_
  refine g_al0 (pc2 := 21) dX2_copy_20 rfl ?_
  refine g_getr (pc2 := 24) (by rfl) (by rfl) flX2_15 dX2_copy_21 rfl ?_
  refine g_iconst (pc2 := 25) dX2_copy_24 k_iconst_0 rfl ?_
  refine g_bipush (pc2 := 27) dX2_copy_25 k_bipush_7 rfl ?_
  refine g_copy (pc2 := 30) (by rfl) (by rfl) (by decide) (by decide) (by decide) (by decide) mlX2_24 ac_1 ac_2 ac_3 (by simp) (by omega) dX2_copy_27 rfl ?_
  refine g_al1 (pc2 := 31) dX2_copy_30 rfl ?_
  refine g_getr (pc2 := 34) (by rfl) (by rfl) flX2_18 dX2_copy_31 rfl ?_
  refine g_iconst (pc2 := 35) dX2_copy_34 k_iconst_0 rfl ?_
  refine g_al0 (pc2 := 36) dX2_copy_35 rfl ?_
  refine g_getr (pc2 := 39) (by rfl) (by rfl) flX2_18 dX2_copy_36 rfl ?_
  refine g_iconst (pc2 := 40) dX2_copy_39 k_iconst_0 rfl ?_
  refine g_bipush (pc2 := 42) dX2_copy_40 k_bipush_7 rfl ?_
  refine g_copy (pc2 := 45) (by rfl) (by rfl) (by decide) (by decide) (by decide) (by decide) mlX2_24 ac_1 ac_2 ac_3 (by simp) (by omega) dX2_copy_42 rfl ?_
  refine g_al1 (pc2 := 46) dX2_copy_45 rfl ?_
  refine g_getr (pc2 := 49) (by rfl) (by rfl) flX2_21 dX2_copy_46 rfl ?_
  refine g_iconst (pc2 := 50) dX2_copy_49 k_iconst_0 rfl ?_
  refine g_al0 (pc2 := 51) dX2_copy_50 rfl ?_
  refine g_getr (pc2 := 54) (by rfl) (by rfl) flX2_21 dX2_copy_51 rfl ?_
  refine g_iconst (pc2 := 55) dX2_copy_54 k_iconst_0 rfl ?_
  refine g_bipush (pc2 := 57) dX2_copy_55 k_bipush_7 rfl ?_
  refine g_copy (pc2 := 60) (by rfl) (by rfl) (by decide) (by decide) (by decide) (by decide) mlX2_24 ac_1 ac_2 ac_3 (by simp) (by omega) dX2_copy_57 rfl ?_
  exact g_retT dX2_copy_60 rfl (Nat.le_refl _) (Nat.le_refl _) (rfl)
theorem R_c_copyB1 (l : lt_L) (d : Nat) (t : lt_H) (σ : lt_S) : lt_T l (d + 1) mX2_copy (lt_SC ++ t) σ [.ref 18, .ref 51] none (S_copy σ 18 51) := by
  refine lt_T.of [some (.ref 18), some (.ref 51)] rfl rfl (Nat.le_of_ble_eq_true rfl) ?_
  refine g_al1 (pc2 := 1) dX2_copy_0 rfl ?_
  refine g_getr (pc2 := 4) (by rfl) (by rfl) flX2_9 dX2_copy_1 rfl ?_
  refine g_iconst (pc2 := 5) dX2_copy_4 k_iconst_0 rfl ?_
  refine g_al0 (pc2 := 6) dX2_copy_5 rfl ?_
  refine g_getr (pc2 := 9) (by rfl) (by rfl) flX2_9 dX2_copy_6 rfl ?_
  refine g_iconst (pc2 := 10) dX2_copy_9 k_iconst_0 rfl ?_
  refine g_bipush (pc2 := 12) dX2_copy_10 k_bipush_7 rfl ?_
  refine g_copy (pc2 := 15) (by rfl) (by rfl) (by decide) (by decide) (by decide) (by decide) mlX2_24 ac_1 ac_2 ac_3 (by simp) (by omega) dX2_copy_12 rfl ?_
  refine g_al1 (pc2 := 16) dX2_copy_15 rfl ?_
  refine g_getr (pc2 := 19) (by rfl) (by rfl) flX2_15 dX2_copy_16 rfl ?_
  refine g_iconst (pc2 := 20) dX2_copy_19 k_iconst_0 rfl ?_
  refine g_al0 (pc2 := 21) dX2_copy_20 rfl ?_
  refine g_getr (pc2 := 24) (by rfl) (by rfl) flX2_15 dX2_copy_21 rfl ?_
  refine g_iconst (pc2 := 25) dX2_copy_24 k_iconst_0 rfl ?_
  refine g_bipush (pc2 := 27) dX2_copy_25 k_bipush_7 rfl ?_
  refine g_copy (pc2 := 30) (by rfl) (by rfl) (by decide) (by decide) (by decide) (by decide) mlX2_24 ac_1 ac_2 ac_3 (by simp) (by omega) dX2_copy_27 rfl ?_
  refine g_al1 (pc2 := 31) dX2_copy_30 rfl ?_
  refine g_getr (pc2 := 34) (by rfl) (by rfl) flX2_18 dX2_copy_31 rfl ?_
  refine g_iconst (pc2 := 35) dX2_copy_34 k_iconst_0 rfl ?_
  refine g_al0 (pc2 := 36) dX2_copy_35 rfl ?_
  refine g_getr (pc2 := 39) (by rfl) (by rfl) flX2_18 dX2_copy_36 rfl ?_
  refine g_iconst (pc2 := 40) dX2_copy_39 k_iconst_0 rfl ?_
  refine g_bipush (pc2 := 42) dX2_copy_40 k_bipush_7 rfl ?_
  refine g_copy (pc2 := 45) (by rfl) (by rfl) (by decide) (by decide) (by decide) (by decide) mlX2_24 ac_1 ac_2 ac_3 (by simp) (by omega) dX2_copy_42 rfl ?_
  refine g_al1 (pc2 := 46) dX2_copy_45 rfl ?_
  refine g_getr (pc2 := 49) (by rfl) (by rfl) flX2_21 dX2_copy_46 rfl ?_
  refine g_iconst (pc2 := 50) dX2_copy_49 k_iconst_0 rfl ?_
  refine g_al0 (pc2 := 51) dX2_copy_50 rfl ?_
  refine g_getr (pc2 := 54) (by rfl) (by rfl) flX2_21 dX2_copy_51 rfl ?_
  refine g_iconst (pc2 := 55) dX2_copy_54 k_iconst_0 rfl ?_
  refine g_bipush (pc2 := 57) dX2_copy_55 k_bipush_7 rfl ?_
  refine g_copy (pc2 := 60) (by rfl) (by rfl) (by decide) (by decide) (by decide) (by decide) mlX2_24 ac_1 ac_2 ac_3 (by simp) (by omega) dX2_copy_57 rfl ?_
  exact g_retT dX2_copy_60 rfl (Nat.le_refl _) (Nat.le_refl _) (rfl)
theorem R_c_copyK2 (l : lt_L) (d : Nat) (t : lt_H) (σ : lt_S) : lt_T l (d + 1) mX2_copy (lt_SC ++ t) σ [.ref 56, .ref 18] none (S_copy σ 56 18) := by
  refine lt_T.of [some (.ref 56), some (.ref 18)] rfl rfl (Nat.le_of_ble_eq_true rfl) ?_
  refine g_al1 (pc2 := 1) dX2_copy_0 rfl ?_
  refine g_getr (pc2 := 4) (by rfl) (by rfl) flX2_9 dX2_copy_1 rfl ?_
  refine g_iconst (pc2 := 5) dX2_copy_4 k_iconst_0 rfl ?_
  refine g_al0 (pc2 := 6) dX2_copy_5 rfl ?_
  refine g_getr (pc2 := 9) (by rfl) (by rfl) flX2_9 dX2_copy_6 rfl ?_
  refine g_iconst (pc2 := 10) dX2_copy_9 k_iconst_0 rfl ?_
  refine g_bipush (pc2 := 12) dX2_copy_10 k_bipush_7 rfl ?_
  refine g_copy (pc2 := 15) (by rfl) (by rfl) (by decide) (by decide) (by decide) (by decide) mlX2_24 ac_1 ac_2 ac_3 (by simp) (by omega) dX2_copy_12 rfl ?_
  refine g_al1 (pc2 := 16) dX2_copy_15 rfl ?_
  refine g_getr (pc2 := 19) (by rfl) (by rfl) flX2_15 dX2_copy_16 rfl ?_
  refine g_iconst (pc2 := 20) dX2_copy_19 k_iconst_0 rfl ?_
  refine g_al0 (pc2 := 21) dX2_copy_20 rfl ?_
  refine g_getr (pc2 := 24) (by rfl) (by rfl) flX2_15 dX2_copy_21 rfl ?_
  refine g_iconst (pc2 := 25) dX2_copy_24 k_iconst_0 rfl ?_
  refine g_bipush (pc2 := 27) dX2_copy_25 k_bipush_7 rfl ?_
  refine g_copy (pc2 := 30) (by rfl) (by rfl) (by decide) (by decide) (by decide) (by decide) mlX2_24 ac_1 ac_2 ac_3 (by simp) (by omega) dX2_copy_27 rfl ?_
  refine g_al1 (pc2 := 31) dX2_copy_30 rfl ?_
  refine g_getr (pc2 := 34) (by rfl) (by rfl) flX2_18 dX2_copy_31 rfl ?_
  refine g_iconst (pc2 := 35) dX2_copy_34 k_iconst_0 rfl ?_
  refine g_al0 (pc2 := 36) dX2_copy_35 rfl ?_
  refine g_getr (pc2 := 39) (by rfl) (by rfl) flX2_18 dX2_copy_36 rfl ?_
  refine g_iconst (pc2 := 40) dX2_copy_39 k_iconst_0 rfl ?_
  refine g_bipush (pc2 := 42) dX2_copy_40 k_bipush_7 rfl ?_
  refine g_copy (pc2 := 45) (by rfl) (by rfl) (by decide) (by decide) (by decide) (by decide) mlX2_24 ac_1 ac_2 ac_3 (by simp) (by omega) dX2_copy_42 rfl ?_
  refine g_al1 (pc2 := 46) dX2_copy_45 rfl ?_
  refine g_getr (pc2 := 49) (by rfl) (by rfl) flX2_21 dX2_copy_46 rfl ?_
  refine g_iconst (pc2 := 50) dX2_copy_49 k_iconst_0 rfl ?_
  refine g_al0 (pc2 := 51) dX2_copy_50 rfl ?_
  refine g_getr (pc2 := 54) (by rfl) (by rfl) flX2_21 dX2_copy_51 rfl ?_
  refine g_iconst (pc2 := 55) dX2_copy_54 k_iconst_0 rfl ?_
  refine g_bipush (pc2 := 57) dX2_copy_55 k_bipush_7 rfl ?_
  refine g_copy (pc2 := 60) (by rfl) (by rfl) (by decide) (by decide) (by decide) (by decide) mlX2_24 ac_1 ac_2 ac_3 (by simp) (by omega) dX2_copy_57 rfl ?_
  exact g_retT dX2_copy_60 rfl (Nat.le_refl _) (Nat.le_refl _) (rfl)
theorem R_c_copyB2 (l : lt_L) (d : Nat) (t : lt_H) (σ : lt_S) : lt_T l (d + 1) mX2_copy (lt_SC ++ t) σ [.ref 18, .ref 56] none (S_copy σ 18 56) := by
  refine lt_T.of [some (.ref 18), some (.ref 56)] rfl rfl (Nat.le_of_ble_eq_true rfl) ?_
  refine g_al1 (pc2 := 1) dX2_copy_0 rfl ?_
  refine g_getr (pc2 := 4) (by rfl) (by rfl) flX2_9 dX2_copy_1 rfl ?_
  refine g_iconst (pc2 := 5) dX2_copy_4 k_iconst_0 rfl ?_
  refine g_al0 (pc2 := 6) dX2_copy_5 rfl ?_
  refine g_getr (pc2 := 9) (by rfl) (by rfl) flX2_9 dX2_copy_6 rfl ?_
  refine g_iconst (pc2 := 10) dX2_copy_9 k_iconst_0 rfl ?_
  refine g_bipush (pc2 := 12) dX2_copy_10 k_bipush_7 rfl ?_
  refine g_copy (pc2 := 15) (by rfl) (by rfl) (by decide) (by decide) (by decide) (by decide) mlX2_24 ac_1 ac_2 ac_3 (by simp) (by omega) dX2_copy_12 rfl ?_
  refine g_al1 (pc2 := 16) dX2_copy_15 rfl ?_
  refine g_getr (pc2 := 19) (by rfl) (by rfl) flX2_15 dX2_copy_16 rfl ?_
  refine g_iconst (pc2 := 20) dX2_copy_19 k_iconst_0 rfl ?_
  refine g_al0 (pc2 := 21) dX2_copy_20 rfl ?_
  refine g_getr (pc2 := 24) (by rfl) (by rfl) flX2_15 dX2_copy_21 rfl ?_
  refine g_iconst (pc2 := 25) dX2_copy_24 k_iconst_0 rfl ?_
  refine g_bipush (pc2 := 27) dX2_copy_25 k_bipush_7 rfl ?_
  refine g_copy (pc2 := 30) (by rfl) (by rfl) (by decide) (by decide) (by decide) (by decide) mlX2_24 ac_1 ac_2 ac_3 (by simp) (by omega) dX2_copy_27 rfl ?_
  refine g_al1 (pc2 := 31) dX2_copy_30 rfl ?_
  refine g_getr (pc2 := 34) (by rfl) (by rfl) flX2_18 dX2_copy_31 rfl ?_
  refine g_iconst (pc2 := 35) dX2_copy_34 k_iconst_0 rfl ?_
  refine g_al0 (pc2 := 36) dX2_copy_35 rfl ?_
  refine g_getr (pc2 := 39) (by rfl) (by rfl) flX2_18 dX2_copy_36 rfl ?_
  refine g_iconst (pc2 := 40) dX2_copy_39 k_iconst_0 rfl ?_
  refine g_bipush (pc2 := 42) dX2_copy_40 k_bipush_7 rfl ?_
  refine g_copy (pc2 := 45) (by rfl) (by rfl) (by decide) (by decide) (by decide) (by decide) mlX2_24 ac_1 ac_2 ac_3 (by simp) (by omega) dX2_copy_42 rfl ?_
  refine g_al1 (pc2 := 46) dX2_copy_45 rfl ?_
  refine g_getr (pc2 := 49) (by rfl) (by rfl) flX2_21 dX2_copy_46 rfl ?_
  refine g_iconst (pc2 := 50) dX2_copy_49 k_iconst_0 rfl ?_
  refine g_al0 (pc2 := 51) dX2_copy_50 rfl ?_
  refine g_getr (pc2 := 54) (by rfl) (by rfl) flX2_21 dX2_copy_51 rfl ?_
  refine g_iconst (pc2 := 55) dX2_copy_54 k_iconst_0 rfl ?_
  refine g_bipush (pc2 := 57) dX2_copy_55 k_bipush_7 rfl ?_
  refine g_copy (pc2 := 60) (by rfl) (by rfl) (by decide) (by decide) (by decide) (by decide) mlX2_24 ac_1 ac_2 ac_3 (by simp) (by omega) dX2_copy_57 rfl ?_
  exact g_retT dX2_copy_60 rfl (Nat.le_refl _) (Nat.le_refl _) (rfl)
theorem R_c_copyK3 (l : lt_L) (d : Nat) (t : lt_H) (σ : lt_S) : lt_T l (d + 1) mX2_copy (lt_SC ++ t) σ [.ref 61, .ref 18] none (S_copy σ 61 18) := by
  refine lt_T.of [some (.ref 61), some (.ref 18)] rfl rfl (Nat.le_of_ble_eq_true rfl) ?_
  refine g_al1 (pc2 := 1) dX2_copy_0 rfl ?_
  refine g_getr (pc2 := 4) (by rfl) (by rfl) flX2_9 dX2_copy_1 rfl ?_
  refine g_iconst (pc2 := 5) dX2_copy_4 k_iconst_0 rfl ?_
  refine g_al0 (pc2 := 6) dX2_copy_5 rfl ?_
  refine g_getr (pc2 := 9) (by rfl) (by rfl) flX2_9 dX2_copy_6 rfl ?_
  refine g_iconst (pc2 := 10) dX2_copy_9 k_iconst_0 rfl ?_
  refine g_bipush (pc2 := 12) dX2_copy_10 k_bipush_7 rfl ?_
  refine g_copy (pc2 := 15) (by rfl) (by rfl) (by decide) (by decide) (by decide) (by decide) mlX2_24 ac_1 ac_2 ac_3 (by simp) (by omega) dX2_copy_12 rfl ?_
  refine g_al1 (pc2 := 16) dX2_copy_15 rfl ?_
  refine g_getr (pc2 := 19) (by rfl) (by rfl) flX2_15 dX2_copy_16 rfl ?_
  refine g_iconst (pc2 := 20) dX2_copy_19 k_iconst_0 rfl ?_
  refine g_al0 (pc2 := 21) dX2_copy_20 rfl ?_
  refine g_getr (pc2 := 24) (by rfl) (by rfl) flX2_15 dX2_copy_21 rfl ?_
  refine g_iconst (pc2 := 25) dX2_copy_24 k_iconst_0 rfl ?_
  refine g_bipush (pc2 := 27) dX2_copy_25 k_bipush_7 rfl ?_
  refine g_copy (pc2 := 30) (by rfl) (by rfl) (by decide) (by decide) (by decide) (by decide) mlX2_24 ac_1 ac_2 ac_3 (by simp) (by omega) dX2_copy_27 rfl ?_
  refine g_al1 (pc2 := 31) dX2_copy_30 rfl ?_
  refine g_getr (pc2 := 34) (by rfl) (by rfl) flX2_18 dX2_copy_31 rfl ?_
  refine g_iconst (pc2 := 35) dX2_copy_34 k_iconst_0 rfl ?_
  refine g_al0 (pc2 := 36) dX2_copy_35 rfl ?_
  refine g_getr (pc2 := 39) (by rfl) (by rfl) flX2_18 dX2_copy_36 rfl ?_
  refine g_iconst (pc2 := 40) dX2_copy_39 k_iconst_0 rfl ?_
  refine g_bipush (pc2 := 42) dX2_copy_40 k_bipush_7 rfl ?_
  refine g_copy (pc2 := 45) (by rfl) (by rfl) (by decide) (by decide) (by decide) (by decide) mlX2_24 ac_1 ac_2 ac_3 (by simp) (by omega) dX2_copy_42 rfl ?_
  refine g_al1 (pc2 := 46) dX2_copy_45 rfl ?_
  refine g_getr (pc2 := 49) (by rfl) (by rfl) flX2_21 dX2_copy_46 rfl ?_
  refine g_iconst (pc2 := 50) dX2_copy_49 k_iconst_0 rfl ?_
  refine g_al0 (pc2 := 51) dX2_copy_50 rfl ?_
  refine g_getr (pc2 := 54) (by rfl) (by rfl) flX2_21 dX2_copy_51 rfl ?_
  refine g_iconst (pc2 := 55) dX2_copy_54 k_iconst_0 rfl ?_
  refine g_bipush (pc2 := 57) dX2_copy_55 k_bipush_7 rfl ?_
  refine g_copy (pc2 := 60) (by rfl) (by rfl) (by decide) (by decide) (by decide) (by decide) mlX2_24 ac_1 ac_2 ac_3 (by simp) (by omega) dX2_copy_57 rfl ?_
  exact g_retT dX2_copy_60 rfl (Nat.le_refl _) (Nat.le_refl _) (rfl)
theorem R_c_copyB3 (l : lt_L) (d : Nat) (t : lt_H) (σ : lt_S) : lt_T l (d + 1) mX2_copy (lt_SC ++ t) σ [.ref 18, .ref 61] none (S_copy σ 18 61) := by
  refine lt_T.of [some (.ref 18), some (.ref 61)] rfl rfl (Nat.le_of_ble_eq_true rfl) ?_
  refine g_al1 (pc2 := 1) dX2_copy_0 rfl ?_
  refine g_getr (pc2 := 4) (by rfl) (by rfl) flX2_9 dX2_copy_1 rfl ?_
  refine g_iconst (pc2 := 5) dX2_copy_4 k_iconst_0 rfl ?_
  refine g_al0 (pc2 := 6) dX2_copy_5 rfl ?_
  refine g_getr (pc2 := 9) (by rfl) (by rfl) flX2_9 dX2_copy_6 rfl ?_
  refine g_iconst (pc2 := 10) dX2_copy_9 k_iconst_0 rfl ?_
  refine g_bipush (pc2 := 12) dX2_copy_10 k_bipush_7 rfl ?_
  refine g_copy (pc2 := 15) (by rfl) (by rfl) (by decide) (by decide) (by decide) (by decide) mlX2_24 ac_1 ac_2 ac_3 (by simp) (by omega) dX2_copy_12 rfl ?_
  refine g_al1 (pc2 := 16) dX2_copy_15 rfl ?_
  refine g_getr (pc2 := 19) (by rfl) (by rfl) flX2_15 dX2_copy_16 rfl ?_
  refine g_iconst (pc2 := 20) dX2_copy_19 k_iconst_0 rfl ?_
  refine g_al0 (pc2 := 21) dX2_copy_20 rfl ?_
  refine g_getr (pc2 := 24) (by rfl) (by rfl) flX2_15 dX2_copy_21 rfl ?_
  refine g_iconst (pc2 := 25) dX2_copy_24 k_iconst_0 rfl ?_
  refine g_bipush (pc2 := 27) dX2_copy_25 k_bipush_7 rfl ?_
  refine g_copy (pc2 := 30) (by rfl) (by rfl) (by decide) (by decide) (by decide) (by decide) mlX2_24 ac_1 ac_2 ac_3 (by simp) (by omega) dX2_copy_27 rfl ?_
  refine g_al1 (pc2 := 31) dX2_copy_30 rfl ?_
  refine g_getr (pc2 := 34) (by rfl) (by rfl) flX2_18 dX2_copy_31 rfl ?_
  refine g_iconst (pc2 := 35) dX2_copy_34 k_iconst_0 rfl ?_
  refine g_al0 (pc2 := 36) dX2_copy_35 rfl ?_
  refine g_getr (pc2 := 39) (by rfl) (by rfl) flX2_18 dX2_copy_36 rfl ?_
  refine g_iconst (pc2 := 40) dX2_copy_39 k_iconst_0 rfl ?_
  refine g_bipush (pc2 := 42) dX2_copy_40 k_bipush_7 rfl ?_
  refine g_copy (pc2 := 45) (by rfl) (by rfl) (by decide) (by decide) (by decide) (by decide) mlX2_24 ac_1 ac_2 ac_3 (by simp) (by omega) dX2_copy_42 rfl ?_
  refine g_al1 (pc2 := 46) dX2_copy_45 rfl ?_
  refine g_getr (pc2 := 49) (by rfl) (by rfl) flX2_21 dX2_copy_46 rfl ?_
  refine g_iconst (pc2 := 50) dX2_copy_49 k_iconst_0 rfl ?_
  refine g_al0 (pc2 := 51) dX2_copy_50 rfl ?_
  refine g_getr (pc2 := 54) (by rfl) (by rfl) flX2_21 dX2_copy_51 rfl ?_
  refine g_iconst (pc2 := 55) dX2_copy_54 k_iconst_0 rfl ?_
  refine g_bipush (pc2 := 57) dX2_copy_55 k_bipush_7 rfl ?_
  refine g_copy (pc2 := 60) (by rfl) (by rfl) (by decide) (by decide) (by decide) (by decide) mlX2_24 ac_1 ac_2 ac_3 (by simp) (by omega) dX2_copy_57 rfl ?_
  exact g_retT dX2_copy_60 rfl (Nat.le_refl _) (Nat.le_refl _) (rfl)
theorem R_c_copyK4 (l : lt_L) (d : Nat) (t : lt_H) (σ : lt_S) : lt_T l (d + 1) mX2_copy (lt_SC ++ t) σ [.ref 66, .ref 18] none (S_copy σ 66 18) := by
  refine lt_T.of [some (.ref 66), some (.ref 18)] rfl rfl (Nat.le_of_ble_eq_true rfl) ?_
  refine g_al1 (pc2 := 1) dX2_copy_0 rfl ?_
  refine g_getr (pc2 := 4) (by rfl) (by rfl) flX2_9 dX2_copy_1 rfl ?_
  refine g_iconst (pc2 := 5) dX2_copy_4 k_iconst_0 rfl ?_
  refine g_al0 (pc2 := 6) dX2_copy_5 rfl ?_
  refine g_getr (pc2 := 9) (by rfl) (by rfl) flX2_9 dX2_copy_6 rfl ?_
  refine g_iconst (pc2 := 10) dX2_copy_9 k_iconst_0 rfl ?_
  refine g_bipush (pc2 := 12) dX2_copy_10 k_bipush_7 rfl ?_
  refine g_copy (pc2 := 15) (by rfl) (by rfl) (by decide) (by decide) (by decide) (by decide) mlX2_24 ac_1 ac_2 ac_3 (by simp) (by omega) dX2_copy_12 rfl ?_
  refine g_al1 (pc2 := 16) dX2_copy_15 rfl ?_
  refine g_getr (pc2 := 19) (by rfl) (by rfl) flX2_15 dX2_copy_16 rfl ?_
  refine g_iconst (pc2 := 20) dX2_copy_19 k_iconst_0 rfl ?_
  refine g_al0 (pc2 := 21) dX2_copy_20 rfl ?_
  refine g_getr (pc2 := 24) (by rfl) (by rfl) flX2_15 dX2_copy_21 rfl ?_
  refine g_iconst (pc2 := 25) dX2_copy_24 k_iconst_0 rfl ?_
  refine g_bipush (pc2 := 27) dX2_copy_25 k_bipush_7 rfl ?_
  refine g_copy (pc2 := 30) (by rfl) (by rfl) (by decide) (by decide) (by decide) (by decide) mlX2_24 ac_1 ac_2 ac_3 (by simp) (by omega) dX2_copy_27 rfl ?_
  refine g_al1 (pc2 := 31) dX2_copy_30 rfl ?_
  refine g_getr (pc2 := 34) (by rfl) (by rfl) flX2_18 dX2_copy_31 rfl ?_
  refine g_iconst (pc2 := 35) dX2_copy_34 k_iconst_0 rfl ?_
  refine g_al0 (pc2 := 36) dX2_copy_35 rfl ?_
  refine g_getr (pc2 := 39) (by rfl) (by rfl) flX2_18 dX2_copy_36 rfl ?_
  refine g_iconst (pc2 := 40) dX2_copy_39 k_iconst_0 rfl ?_
  refine g_bipush (pc2 := 42) dX2_copy_40 k_bipush_7 rfl ?_
  refine g_copy (pc2 := 45) (by rfl) (by rfl) (by decide) (by decide) (by decide) (by decide) mlX2_24 ac_1 ac_2 ac_3 (by simp) (by omega) dX2_copy_42 rfl ?_
  refine g_al1 (pc2 := 46) dX2_copy_45 rfl ?_
  refine g_getr (pc2 := 49) (by rfl) (by rfl) flX2_21 dX2_copy_46 rfl ?_
  refine g_iconst (pc2 := 50) dX2_copy_49 k_iconst_0 rfl ?_
  refine g_al0 (pc2 := 51) dX2_copy_50 rfl ?_
  refine g_getr (pc2 := 54) (by rfl) (by rfl) flX2_21 dX2_copy_51 rfl ?_
  refine g_iconst (pc2 := 55) dX2_copy_54 k_iconst_0 rfl ?_
  refine g_bipush (pc2 := 57) dX2_copy_55 k_bipush_7 rfl ?_
  refine g_copy (pc2 := 60) (by rfl) (by rfl) (by decide) (by decide) (by decide) (by decide) mlX2_24 ac_1 ac_2 ac_3 (by simp) (by omega) dX2_copy_57 rfl ?_
  exact g_retT dX2_copy_60 rfl (Nat.le_refl _) (Nat.le_refl _) (rfl)
theorem R_c_copyB4 (l : lt_L) (d : Nat) (t : lt_H) (σ : lt_S) : lt_T l (d + 1) mX2_copy (lt_SC ++ t) σ [.ref 18, .ref 66] none (S_copy σ 18 66) := by
  refine lt_T.of [some (.ref 18), some (.ref 66)] rfl rfl (Nat.le_of_ble_eq_true rfl) ?_
  refine g_al1 (pc2 := 1) dX2_copy_0 rfl ?_
  refine g_getr (pc2 := 4) (by rfl) (by rfl) flX2_9 dX2_copy_1 rfl ?_
  refine g_iconst (pc2 := 5) dX2_copy_4 k_iconst_0 rfl ?_
  refine g_al0 (pc2 := 6) dX2_copy_5 rfl ?_
  refine g_getr (pc2 := 9) (by rfl) (by rfl) flX2_9 dX2_copy_6 rfl ?_
  refine g_iconst (pc2 := 10) dX2_copy_9 k_iconst_0 rfl ?_
  refine g_bipush (pc2 := 12) dX2_copy_10 k_bipush_7 rfl ?_
  refine g_copy (pc2 := 15) (by rfl) (by rfl) (by decide) (by decide) (by decide) (by decide) mlX2_24 ac_1 ac_2 ac_3 (by simp) (by omega) dX2_copy_12 rfl ?_
  refine g_al1 (pc2 := 16) dX2_copy_15 rfl ?_
  refine g_getr (pc2 := 19) (by rfl) (by rfl) flX2_15 dX2_copy_16 rfl ?_
  refine g_iconst (pc2 := 20) dX2_copy_19 k_iconst_0 rfl ?_
  refine g_al0 (pc2 := 21) dX2_copy_20 rfl ?_
  refine g_getr (pc2 := 24) (by rfl) (by rfl) flX2_15 dX2_copy_21 rfl ?_
  refine g_iconst (pc2 := 25) dX2_copy_24 k_iconst_0 rfl ?_
  refine g_bipush (pc2 := 27) dX2_copy_25 k_bipush_7 rfl ?_
  refine g_copy (pc2 := 30) (by rfl) (by rfl) (by decide) (by decide) (by decide) (by decide) mlX2_24 ac_1 ac_2 ac_3 (by simp) (by omega) dX2_copy_27 rfl ?_
  refine g_al1 (pc2 := 31) dX2_copy_30 rfl ?_
  refine g_getr (pc2 := 34) (by rfl) (by rfl) flX2_18 dX2_copy_31 rfl ?_
  refine g_iconst (pc2 := 35) dX2_copy_34 k_iconst_0 rfl ?_
  refine g_al0 (pc2 := 36) dX2_copy_35 rfl ?_
  refine g_getr (pc2 := 39) (by rfl) (by rfl) flX2_18 dX2_copy_36 rfl ?_
  refine g_iconst (pc2 := 40) dX2_copy_39 k_iconst_0 rfl ?_
  refine g_bipush (pc2 := 42) dX2_copy_40 k_bipush_7 rfl ?_
  refine g_copy (pc2 := 45) (by rfl) (by rfl) (by decide) (by decide) (by decide) (by decide) mlX2_24 ac_1 ac_2 ac_3 (by simp) (by omega) dX2_copy_42 rfl ?_
  refine g_al1 (pc2 := 46) dX2_copy_45 rfl ?_
  refine g_getr (pc2 := 49) (by rfl) (by rfl) flX2_21 dX2_copy_46 rfl ?_
  refine g_iconst (pc2 := 50) dX2_copy_49 k_iconst_0 rfl ?_
  refine g_al0 (pc2 := 51) dX2_copy_50 rfl ?_
  refine g_getr (pc2 := 54) (by rfl) (by rfl) flX2_21 dX2_copy_51 rfl ?_
  refine g_iconst (pc2 := 55) dX2_copy_54 k_iconst_0 rfl ?_
  refine g_bipush (pc2 := 57) dX2_copy_55 k_bipush_7 rfl ?_
  refine g_copy (pc2 := 60) (by rfl) (by rfl) (by decide) (by decide) (by decide) (by decide) mlX2_24 ac_1 ac_2 ac_3 (by simp) (by omega) dX2_copy_57 rfl ?_
  exact g_retT dX2_copy_60 rfl (Nat.le_refl _) (Nat.le_refl _) (rfl)
theorem R_c_copyK5 (l : lt_L) (d : Nat) (t : lt_H) (σ : lt_S) : lt_T l (d + 1) mX2_copy (lt_SC ++ t) σ [.ref 71, .ref 18] none (S_copy σ 71 18) := by
  refine lt_T.of [some (.ref 71), some (.ref 18)] rfl rfl (Nat.le_of_ble_eq_true rfl) ?_
  refine g_al1 (pc2 := 1) dX2_copy_0 rfl ?_
  refine g_getr (pc2 := 4) (by rfl) (by rfl) flX2_9 dX2_copy_1 rfl ?_
  refine g_iconst (pc2 := 5) dX2_copy_4 k_iconst_0 rfl ?_
  refine g_al0 (pc2 := 6) dX2_copy_5 rfl ?_
  refine g_getr (pc2 := 9) (by rfl) (by rfl) flX2_9 dX2_copy_6 rfl ?_
  refine g_iconst (pc2 := 10) dX2_copy_9 k_iconst_0 rfl ?_
  refine g_bipush (pc2 := 12) dX2_copy_10 k_bipush_7 rfl ?_
  refine g_copy (pc2 := 15) (by rfl) (by rfl) (by decide) (by decide) (by decide) (by decide) mlX2_24 ac_1 ac_2 ac_3 (by simp) (by omega) dX2_copy_12 rfl ?_
  refine g_al1 (pc2 := 16) dX2_copy_15 rfl ?_
  refine g_getr (pc2 := 19) (by rfl) (by rfl) flX2_15 dX2_copy_16 rfl ?_
  refine g_iconst (pc2 := 20) dX2_copy_19 k_iconst_0 rfl ?_
  refine g_al0 (pc2 := 21) dX2_copy_20 rfl ?_
  refine g_getr (pc2 := 24) (by rfl) (by rfl) flX2_15 dX2_copy_21 rfl ?_
  refine g_iconst (pc2 := 25) dX2_copy_24 k_iconst_0 rfl ?_
  refine g_bipush (pc2 := 27) dX2_copy_25 k_bipush_7 rfl ?_
  refine g_copy (pc2 := 30) (by rfl) (by rfl) (by decide) (by decide) (by decide) (by decide) mlX2_24 ac_1 ac_2 ac_3 (by simp) (by omega) dX2_copy_27 rfl ?_
  refine g_al1 (pc2 := 31) dX2_copy_30 rfl ?_
  refine g_getr (pc2 := 34) (by rfl) (by rfl) flX2_18 dX2_copy_31 rfl ?_
  refine g_iconst (pc2 := 35) dX2_copy_34 k_iconst_0 rfl ?_
  refine g_al0 (pc2 := 36) dX2_copy_35 rfl ?_
  refine g_getr (pc2 := 39) (by rfl) (by rfl) flX2_18 dX2_copy_36 rfl ?_
  refine g_iconst (pc2 := 40) dX2_copy_39 k_iconst_0 rfl ?_
  refine g_bipush (pc2 := 42) dX2_copy_40 k_bipush_7 rfl ?_
  refine g_copy (pc2 := 45) (by rfl) (by rfl) (by decide) (by decide) (by decide) (by decide) mlX2_24 ac_1 ac_2 ac_3 (by simp) (by omega) dX2_copy_42 rfl ?_
  refine g_al1 (pc2 := 46) dX2_copy_45 rfl ?_
  refine g_getr (pc2 := 49) (by rfl) (by rfl) flX2_21 dX2_copy_46 rfl ?_
  refine g_iconst (pc2 := 50) dX2_copy_49 k_iconst_0 rfl ?_
  refine g_al0 (pc2 := 51) dX2_copy_50 rfl ?_
  refine g_getr (pc2 := 54) (by rfl) (by rfl) flX2_21 dX2_copy_51 rfl ?_
  refine g_iconst (pc2 := 55) dX2_copy_54 k_iconst_0 rfl ?_
  refine g_bipush (pc2 := 57) dX2_copy_55 k_bipush_7 rfl ?_
  refine g_copy (pc2 := 60) (by rfl) (by rfl) (by decide) (by decide) (by decide) (by decide) mlX2_24 ac_1 ac_2 ac_3 (by simp) (by omega) dX2_copy_57 rfl ?_
  exact g_retT dX2_copy_60 rfl (Nat.le_refl _) (Nat.le_refl _) (rfl)
theorem R_c_copyB5 (l : lt_L) (d : Nat) (t : lt_H) (σ : lt_S) : lt_T l (d + 1) mX2_copy (lt_SC ++ t) σ [.ref 18, .ref 71] none (S_copy σ 18 71) := by
  refine lt_T.of [some (.ref 18), some (.ref 71)] rfl rfl (Nat.le_of_ble_eq_true rfl) ?_
  refine g_al1 (pc2 := 1) dX2_copy_0 rfl ?_
  refine g_getr (pc2 := 4) (by rfl) (by rfl) flX2_9 dX2_copy_1 rfl ?_
  refine g_iconst (pc2 := 5) dX2_copy_4 k_iconst_0 rfl ?_
  refine g_al0 (pc2 := 6) dX2_copy_5 rfl ?_
  refine g_getr (pc2 := 9) (by rfl) (by rfl) flX2_9 dX2_copy_6 rfl ?_
  refine g_iconst (pc2 := 10) dX2_copy_9 k_iconst_0 rfl ?_
  refine g_bipush (pc2 := 12) dX2_copy_10 k_bipush_7 rfl ?_
  refine g_copy (pc2 := 15) (by rfl) (by rfl) (by decide) (by decide) (by decide) (by decide) mlX2_24 ac_1 ac_2 ac_3 (by simp) (by omega) dX2_copy_12 rfl ?_
  refine g_al1 (pc2 := 16) dX2_copy_15 rfl ?_
  refine g_getr (pc2 := 19) (by rfl) (by rfl) flX2_15 dX2_copy_16 rfl ?_
  refine g_iconst (pc2 := 20) dX2_copy_19 k_iconst_0 rfl ?_
  refine g_al0 (pc2 := 21) dX2_copy_20 rfl ?_
  refine g_getr (pc2 := 24) (by rfl) (by rfl) flX2_15 dX2_copy_21 rfl ?_
  refine g_iconst (pc2 := 25) dX2_copy_24 k_iconst_0 rfl ?_
  refine g_bipush (pc2 := 27) dX2_copy_25 k_bipush_7 rfl ?_
  refine g_copy (pc2 := 30) (by rfl) (by rfl) (by decide) (by decide) (by decide) (by decide) mlX2_24 ac_1 ac_2 ac_3 (by simp) (by omega) dX2_copy_27 rfl ?_
  refine g_al1 (pc2 := 31) dX2_copy_30 rfl ?_
  refine g_getr (pc2 := 34) (by rfl) (by rfl) flX2_18 dX2_copy_31 rfl ?_
  refine g_iconst (pc2 := 35) dX2_copy_34 k_iconst_0 rfl ?_
  refine g_al0 (pc2 := 36) dX2_copy_35 rfl ?_
  refine g_getr (pc2 := 39) (by rfl) (by rfl) flX2_18 dX2_copy_36 rfl ?_
  refine g_iconst (pc2 := 40) dX2_copy_39 k_iconst_0 rfl ?_
  refine g_bipush (pc2 := 42) dX2_copy_40 k_bipush_7 rfl ?_
  refine g_copy (pc2 := 45) (by rfl) (by rfl) (by decide) (by decide) (by decide) (by decide) mlX2_24 ac_1 ac_2 ac_3 (by simp) (by omega) dX2_copy_42 rfl ?_
  refine g_al1 (pc2 := 46) dX2_copy_45 rfl ?_
  refine g_getr (pc2 := 49) (by rfl) (by rfl) flX2_21 dX2_copy_46 rfl ?_
  refine g_iconst (pc2 := 50) dX2_copy_49 k_iconst_0 rfl ?_
  refine g_al0 (pc2 := 51) dX2_copy_50 rfl ?_
  refine g_getr (pc2 := 54) (by rfl) (by rfl) flX2_21 dX2_copy_51 rfl ?_
  refine g_iconst (pc2 := 55) dX2_copy_54 k_iconst_0 rfl ?_
  refine g_bipush (pc2 := 57) dX2_copy_55 k_bipush_7 rfl ?_
  refine g_copy (pc2 := 60) (by rfl) (by rfl) (by decide) (by decide) (by decide) (by decide) mlX2_24 ac_1 ac_2 ac_3 (by simp) (by omega) dX2_copy_57 rfl ?_
  exact g_retT dX2_copy_60 rfl (Nat.le_refl _) (Nat.le_refl _) (rfl)
theorem R_c_keep0 (l : lt_L) (d : Nat) (t : lt_H) (σ : lt_S) {c : Nat} (h : KP σ 0 c) : lt_T l (d + 2) mX1_keep (lt_SC ++ t) σ [.ref 44, .ref 18] none (S_ckeep σ 0 c) := by
  refine lt_T.of [some (.ref 44), some (.ref 18)] rfl rfl (Nat.le_of_ble_eq_true rfl) ?_
  have e1 : σ 44 1 = nI 0 := h.1
  have e2 : σ 44 2 = nI c := h.2.2.1
  have hc := h.2.2.2
  have f1 : S_copy σ 46 18 44 1 = nI 0 := e1
  have f2 : lt_up (S_copy σ 46 18) 44 1 (nI 1) 44 2 = nI c := e2
  have fin : lt_g l (d + 2) mX1_keep (lt_SC ++ t) (lt_up (S_copy σ 46 18) 44 1 (nI 1)) 35 [some (.ref 44), some (.ref 18)] [] none (S_ckeep σ 0 c) := by
    refine g_al0 (pc2 := 36) dX1_keep_35 rfl ?_
    refine g_al0 (pc2 := 37) dX1_keep_36 rfl ?_
    refine g_geti (pc2 := 40) (by rfl) (by rfl) flX1_21 dX1_keep_37 rfl ?_
    rw [f2]
    refine g_iconst (pc2 := 41) dX1_keep_40 k_iconst_1 rfl ?_
    refine g_iaddN (pc2 := 42) dX1_keep_41 rfl ?_
    refine g_bipush (pc2 := 44) dX1_keep_42 k_bipush_6 rfl ?_
    refine g_min (pc2 := 47) mlX1_29 mm_min1 mm_2 mm_min3 (by simp) (by omega) (Nat.le_refl _) (Nat.le_refl _) dX1_keep_44 rfl ?_
    rw [show (if nI 6 < nI (c + 1) then nI 6 else nI (c + 1)) = nI (if c = 6 then 6 else c + 1) from (by by_cases h6 : c = 6; rw [if_pos h6, if_pos ((nI_ltI (by decide) (by omega)).mpr (by omega))]; rw [if_neg h6, if_neg (fun q => absurd ((nI_ltI (by decide) (by omega)).mp q) (by omega))])]
    refine g_puti (pc2 := 50) (by rfl) (by rfl) flX1_21 (fpX1_2 _) (fun h => by first | cases h | rfl) dX1_keep_47 rfl ?_
    exact g_retT dX1_keep_50 rfl (Nat.le_refl _) (Nat.le_refl _) (rfl)
  refine g_al0 (pc2 := 1) dX1_keep_0 rfl ?_
  refine g_getr (pc2 := 4) (by rfl) (by rfl) flX1_11 dX1_keep_1 rfl ?_
  refine g_al0 (pc2 := 5) dX1_keep_4 rfl ?_
  refine g_geti (pc2 := 8) (by rfl) (by rfl) flX1_17 dX1_keep_5 rfl ?_
  rw [e1]
  refine g_aald (pc2 := 9) (b := 46) (by rfl) (by rfl) (by decide) dX1_keep_8 rfl ?_
  refine g_al1 (pc2 := 10) dX1_keep_9 rfl ?_
  refine g_cVv (pc2 := 13) (R_c_copyK0 l d _ _) meX2_copy mlX1_25 (by rfl) ⟨_, rfl, rfl⟩ rfl rfl (by simp) ⟨Nat.le_refl _, Nat.le_refl _⟩ dX1_keep_10 rfl ?_
  refine g_al0 (pc2 := 14) dX1_keep_13 rfl ?_
  refine g_al0 (pc2 := 15) dX1_keep_14 rfl ?_
  refine g_geti (pc2 := 18) (by rfl) (by rfl) flX1_17 dX1_keep_15 rfl ?_
  rw [f1]
  refine g_iconst (pc2 := 19) dX1_keep_18 k_iconst_5 rfl ?_
  refine g_icmpN_ne 26 22 dX1_keep_19 rfl rfl (by omega) (by omega) (fun h19 => ?_) (fun h19 => ?_)
  · refine g_al0 (pc2 := 27) dX1_keep_26 rfl ?_
    refine g_geti (pc2 := 30) (by rfl) (by rfl) flX1_17 dX1_keep_27 rfl ?_
    rw [f1]
    refine g_iconst (pc2 := 31) dX1_keep_30 k_iconst_1 rfl ?_
    refine g_iaddN (pc2 := 32) dX1_keep_31 rfl ?_
    refine g_puti (pc2 := 35) (by rfl) (by rfl) flX1_17 (fpX1_1 _) (fun h => by first | cases h | rfl) dX1_keep_32 rfl ?_
    exact fin
  · omega
theorem R_c_back0 (l : lt_L) (d : Nat) (t : lt_H) (σ : lt_S) {c : Nat} (h : KP σ 0 c) (hc1 : 1 ≤ c) : lt_T l (d + 2) mX1_bringBack (lt_SC ++ t) σ [.ref 44, .ref 18] none (S_cback σ 0 c) := by
  refine lt_T.of [some (.ref 44), some (.ref 18)] rfl rfl (Nat.le_of_ble_eq_true rfl) ?_
  have e1 : σ 44 1 = nI 0 := h.1
  have e2 : σ 44 2 = nI c := h.2.2.1
  have f2 : lt_up σ 44 1 (nI 5) 44 2 = nI c := e2
  have f3 : lt_up (lt_up σ 44 1 (nI 5)) 44 2 (nI (c - 1)) 44 1 = nI 5 := by rw [lt_up_ne _ _ _ (by decide), lt_up_at]
  have fin : lt_g l (d + 2) mX1_bringBack (lt_SC ++ t) (lt_up σ 44 1 (nI 5)) 21 [some (.ref 44), some (.ref 18)] [] none (S_cback σ 0 c) := by
    refine g_al0 (pc2 := 22) dX1_bringBack_21 rfl ?_
    refine g_dup (pc2 := 23) dX1_bringBack_22 rfl ?_
    refine g_geti (pc2 := 26) (by rfl) (by rfl) flX1_21 dX1_bringBack_23 rfl ?_
    rw [f2]
    refine g_iconst (pc2 := 27) dX1_bringBack_26 k_iconst_1 rfl ?_
    refine g_isubN (pc2 := 28) dX1_bringBack_27 rfl (by omega) ?_
    refine g_puti (pc2 := 31) (by rfl) (by rfl) flX1_21 (fpX1_2 _) (fun h => by first | cases h | rfl) dX1_bringBack_28 rfl ?_
    refine g_al1 (pc2 := 32) dX1_bringBack_31 rfl ?_
    refine g_al0 (pc2 := 33) dX1_bringBack_32 rfl ?_
    refine g_getr (pc2 := 36) (by rfl) (by rfl) flX1_11 dX1_bringBack_33 rfl ?_
    refine g_al0 (pc2 := 37) dX1_bringBack_36 rfl ?_
    refine g_geti (pc2 := 40) (by rfl) (by rfl) flX1_17 dX1_bringBack_37 rfl ?_
    rw [f3]
    refine g_aald (pc2 := 41) (b := 71) (by rfl) (by rfl) (by decide) dX1_bringBack_40 rfl ?_
    refine g_cVv (pc2 := 44) (R_c_copyB5 l d _ _) meX2_copy mlX1_25 (by rfl) ⟨_, rfl, rfl⟩ rfl rfl (by simp) ⟨Nat.le_refl _, Nat.le_refl _⟩ dX1_bringBack_41 rfl ?_
    exact g_retT dX1_bringBack_44 rfl (Nat.le_refl _) (Nat.le_refl _) (rfl)
  refine g_al0 (pc2 := 1) dX1_bringBack_0 rfl ?_
  refine g_al0 (pc2 := 2) dX1_bringBack_1 rfl ?_
  refine g_geti (pc2 := 5) (by rfl) (by rfl) flX1_17 dX1_bringBack_2 rfl ?_
  rw [e1]
  refine g_if_ne 12 8 dX1_bringBack_5 rfl rfl (fun h => absurd nI_0 h) (fun _ => ?_)
  refine g_iconst (pc2 := 9) dX1_bringBack_8 k_iconst_5 rfl ?_
  refine g_goto 18 dX1_bringBack_9 rfl ?_
  refine g_puti (pc2 := 21) (by rfl) (by rfl) flX1_17 (fpX1_1 _) (fun h => by first | cases h | rfl) dX1_bringBack_18 rfl ?_
  exact fin
theorem R_c_keep1 (l : lt_L) (d : Nat) (t : lt_H) (σ : lt_S) {c : Nat} (h : KP σ 1 c) : lt_T l (d + 2) mX1_keep (lt_SC ++ t) σ [.ref 44, .ref 18] none (S_ckeep σ 1 c) := by
  refine lt_T.of [some (.ref 44), some (.ref 18)] rfl rfl (Nat.le_of_ble_eq_true rfl) ?_
  have e1 : σ 44 1 = nI 1 := h.1
  have e2 : σ 44 2 = nI c := h.2.2.1
  have hc := h.2.2.2
  have f1 : S_copy σ 51 18 44 1 = nI 1 := e1
  have f2 : lt_up (S_copy σ 51 18) 44 1 (nI 2) 44 2 = nI c := e2
  have fin : lt_g l (d + 2) mX1_keep (lt_SC ++ t) (lt_up (S_copy σ 51 18) 44 1 (nI 2)) 35 [some (.ref 44), some (.ref 18)] [] none (S_ckeep σ 1 c) := by
    refine g_al0 (pc2 := 36) dX1_keep_35 rfl ?_
    refine g_al0 (pc2 := 37) dX1_keep_36 rfl ?_
    refine g_geti (pc2 := 40) (by rfl) (by rfl) flX1_21 dX1_keep_37 rfl ?_
    rw [f2]
    refine g_iconst (pc2 := 41) dX1_keep_40 k_iconst_1 rfl ?_
    refine g_iaddN (pc2 := 42) dX1_keep_41 rfl ?_
    refine g_bipush (pc2 := 44) dX1_keep_42 k_bipush_6 rfl ?_
    refine g_min (pc2 := 47) mlX1_29 mm_min1 mm_2 mm_min3 (by simp) (by omega) (Nat.le_refl _) (Nat.le_refl _) dX1_keep_44 rfl ?_
    rw [show (if nI 6 < nI (c + 1) then nI 6 else nI (c + 1)) = nI (if c = 6 then 6 else c + 1) from (by by_cases h6 : c = 6; rw [if_pos h6, if_pos ((nI_ltI (by decide) (by omega)).mpr (by omega))]; rw [if_neg h6, if_neg (fun q => absurd ((nI_ltI (by decide) (by omega)).mp q) (by omega))])]
    refine g_puti (pc2 := 50) (by rfl) (by rfl) flX1_21 (fpX1_2 _) (fun h => by first | cases h | rfl) dX1_keep_47 rfl ?_
    exact g_retT dX1_keep_50 rfl (Nat.le_refl _) (Nat.le_refl _) (rfl)
  refine g_al0 (pc2 := 1) dX1_keep_0 rfl ?_
  refine g_getr (pc2 := 4) (by rfl) (by rfl) flX1_11 dX1_keep_1 rfl ?_
  refine g_al0 (pc2 := 5) dX1_keep_4 rfl ?_
  refine g_geti (pc2 := 8) (by rfl) (by rfl) flX1_17 dX1_keep_5 rfl ?_
  rw [e1]
  refine g_aald (pc2 := 9) (b := 51) (by rfl) (by rfl) (by decide) dX1_keep_8 rfl ?_
  refine g_al1 (pc2 := 10) dX1_keep_9 rfl ?_
  refine g_cVv (pc2 := 13) (R_c_copyK1 l d _ _) meX2_copy mlX1_25 (by rfl) ⟨_, rfl, rfl⟩ rfl rfl (by simp) ⟨Nat.le_refl _, Nat.le_refl _⟩ dX1_keep_10 rfl ?_
  refine g_al0 (pc2 := 14) dX1_keep_13 rfl ?_
  refine g_al0 (pc2 := 15) dX1_keep_14 rfl ?_
  refine g_geti (pc2 := 18) (by rfl) (by rfl) flX1_17 dX1_keep_15 rfl ?_
  rw [f1]
  refine g_iconst (pc2 := 19) dX1_keep_18 k_iconst_5 rfl ?_
  refine g_icmpN_ne 26 22 dX1_keep_19 rfl rfl (by omega) (by omega) (fun h19 => ?_) (fun h19 => ?_)
  · refine g_al0 (pc2 := 27) dX1_keep_26 rfl ?_
    refine g_geti (pc2 := 30) (by rfl) (by rfl) flX1_17 dX1_keep_27 rfl ?_
    rw [f1]
    refine g_iconst (pc2 := 31) dX1_keep_30 k_iconst_1 rfl ?_
    refine g_iaddN (pc2 := 32) dX1_keep_31 rfl ?_
    refine g_puti (pc2 := 35) (by rfl) (by rfl) flX1_17 (fpX1_1 _) (fun h => by first | cases h | rfl) dX1_keep_32 rfl ?_
    exact fin
  · omega
theorem R_c_back1 (l : lt_L) (d : Nat) (t : lt_H) (σ : lt_S) {c : Nat} (h : KP σ 1 c) (hc1 : 1 ≤ c) : lt_T l (d + 2) mX1_bringBack (lt_SC ++ t) σ [.ref 44, .ref 18] none (S_cback σ 1 c) := by
  refine lt_T.of [some (.ref 44), some (.ref 18)] rfl rfl (Nat.le_of_ble_eq_true rfl) ?_
  have e1 : σ 44 1 = nI 1 := h.1
  have e2 : σ 44 2 = nI c := h.2.2.1
  have f2 : lt_up σ 44 1 (nI 0) 44 2 = nI c := e2
  have f3 : lt_up (lt_up σ 44 1 (nI 0)) 44 2 (nI (c - 1)) 44 1 = nI 0 := by rw [lt_up_ne _ _ _ (by decide), lt_up_at]
  have fin : lt_g l (d + 2) mX1_bringBack (lt_SC ++ t) (lt_up σ 44 1 (nI 0)) 21 [some (.ref 44), some (.ref 18)] [] none (S_cback σ 1 c) := by
    refine g_al0 (pc2 := 22) dX1_bringBack_21 rfl ?_
    refine g_dup (pc2 := 23) dX1_bringBack_22 rfl ?_
    refine g_geti (pc2 := 26) (by rfl) (by rfl) flX1_21 dX1_bringBack_23 rfl ?_
    rw [f2]
    refine g_iconst (pc2 := 27) dX1_bringBack_26 k_iconst_1 rfl ?_
    refine g_isubN (pc2 := 28) dX1_bringBack_27 rfl (by omega) ?_
    refine g_puti (pc2 := 31) (by rfl) (by rfl) flX1_21 (fpX1_2 _) (fun h => by first | cases h | rfl) dX1_bringBack_28 rfl ?_
    refine g_al1 (pc2 := 32) dX1_bringBack_31 rfl ?_
    refine g_al0 (pc2 := 33) dX1_bringBack_32 rfl ?_
    refine g_getr (pc2 := 36) (by rfl) (by rfl) flX1_11 dX1_bringBack_33 rfl ?_
    refine g_al0 (pc2 := 37) dX1_bringBack_36 rfl ?_
    refine g_geti (pc2 := 40) (by rfl) (by rfl) flX1_17 dX1_bringBack_37 rfl ?_
    rw [f3]
    refine g_aald (pc2 := 41) (b := 46) (by rfl) (by rfl) (by decide) dX1_bringBack_40 rfl ?_
    refine g_cVv (pc2 := 44) (R_c_copyB0 l d _ _) meX2_copy mlX1_25 (by rfl) ⟨_, rfl, rfl⟩ rfl rfl (by simp) ⟨Nat.le_refl _, Nat.le_refl _⟩ dX1_bringBack_41 rfl ?_
    exact g_retT dX1_bringBack_44 rfl (Nat.le_refl _) (Nat.le_refl _) (rfl)
  refine g_al0 (pc2 := 1) dX1_bringBack_0 rfl ?_
  refine g_al0 (pc2 := 2) dX1_bringBack_1 rfl ?_
  refine g_geti (pc2 := 5) (by rfl) (by rfl) flX1_17 dX1_bringBack_2 rfl ?_
  rw [e1]
  refine g_if_ne 12 8 dX1_bringBack_5 rfl rfl (fun _ => ?_) (fun h => absurd h (nI_ne0 (by decide) (by decide)))
  refine g_al0 (pc2 := 13) dX1_bringBack_12 rfl ?_
  refine g_geti (pc2 := 16) (by rfl) (by rfl) flX1_17 dX1_bringBack_13 rfl ?_
  rw [e1]
  refine g_iconst (pc2 := 17) dX1_bringBack_16 k_iconst_1 rfl ?_
  refine g_isubN (pc2 := 18) dX1_bringBack_17 rfl (by omega) ?_
  refine g_puti (pc2 := 21) (by rfl) (by rfl) flX1_17 (fpX1_1 _) (fun h => by first | cases h | rfl) dX1_bringBack_18 rfl ?_
  exact fin
theorem R_c_keep2 (l : lt_L) (d : Nat) (t : lt_H) (σ : lt_S) {c : Nat} (h : KP σ 2 c) : lt_T l (d + 2) mX1_keep (lt_SC ++ t) σ [.ref 44, .ref 18] none (S_ckeep σ 2 c) := by
  refine lt_T.of [some (.ref 44), some (.ref 18)] rfl rfl (Nat.le_of_ble_eq_true rfl) ?_
  have e1 : σ 44 1 = nI 2 := h.1
  have e2 : σ 44 2 = nI c := h.2.2.1
  have hc := h.2.2.2
  have f1 : S_copy σ 56 18 44 1 = nI 2 := e1
  have f2 : lt_up (S_copy σ 56 18) 44 1 (nI 3) 44 2 = nI c := e2
  have fin : lt_g l (d + 2) mX1_keep (lt_SC ++ t) (lt_up (S_copy σ 56 18) 44 1 (nI 3)) 35 [some (.ref 44), some (.ref 18)] [] none (S_ckeep σ 2 c) := by
    refine g_al0 (pc2 := 36) dX1_keep_35 rfl ?_
    refine g_al0 (pc2 := 37) dX1_keep_36 rfl ?_
    refine g_geti (pc2 := 40) (by rfl) (by rfl) flX1_21 dX1_keep_37 rfl ?_
    rw [f2]
    refine g_iconst (pc2 := 41) dX1_keep_40 k_iconst_1 rfl ?_
    refine g_iaddN (pc2 := 42) dX1_keep_41 rfl ?_
    refine g_bipush (pc2 := 44) dX1_keep_42 k_bipush_6 rfl ?_
    refine g_min (pc2 := 47) mlX1_29 mm_min1 mm_2 mm_min3 (by simp) (by omega) (Nat.le_refl _) (Nat.le_refl _) dX1_keep_44 rfl ?_
    rw [show (if nI 6 < nI (c + 1) then nI 6 else nI (c + 1)) = nI (if c = 6 then 6 else c + 1) from (by by_cases h6 : c = 6; rw [if_pos h6, if_pos ((nI_ltI (by decide) (by omega)).mpr (by omega))]; rw [if_neg h6, if_neg (fun q => absurd ((nI_ltI (by decide) (by omega)).mp q) (by omega))])]
    refine g_puti (pc2 := 50) (by rfl) (by rfl) flX1_21 (fpX1_2 _) (fun h => by first | cases h | rfl) dX1_keep_47 rfl ?_
    exact g_retT dX1_keep_50 rfl (Nat.le_refl _) (Nat.le_refl _) (rfl)
  refine g_al0 (pc2 := 1) dX1_keep_0 rfl ?_
  refine g_getr (pc2 := 4) (by rfl) (by rfl) flX1_11 dX1_keep_1 rfl ?_
  refine g_al0 (pc2 := 5) dX1_keep_4 rfl ?_
  refine g_geti (pc2 := 8) (by rfl) (by rfl) flX1_17 dX1_keep_5 rfl ?_
  rw [e1]
  refine g_aald (pc2 := 9) (b := 56) (by rfl) (by rfl) (by decide) dX1_keep_8 rfl ?_
  refine g_al1 (pc2 := 10) dX1_keep_9 rfl ?_
  refine g_cVv (pc2 := 13) (R_c_copyK2 l d _ _) meX2_copy mlX1_25 (by rfl) ⟨_, rfl, rfl⟩ rfl rfl (by simp) ⟨Nat.le_refl _, Nat.le_refl _⟩ dX1_keep_10 rfl ?_
  refine g_al0 (pc2 := 14) dX1_keep_13 rfl ?_
  refine g_al0 (pc2 := 15) dX1_keep_14 rfl ?_
  refine g_geti (pc2 := 18) (by rfl) (by rfl) flX1_17 dX1_keep_15 rfl ?_
  rw [f1]
  refine g_iconst (pc2 := 19) dX1_keep_18 k_iconst_5 rfl ?_
  refine g_icmpN_ne 26 22 dX1_keep_19 rfl rfl (by omega) (by omega) (fun h19 => ?_) (fun h19 => ?_)
  · refine g_al0 (pc2 := 27) dX1_keep_26 rfl ?_
    refine g_geti (pc2 := 30) (by rfl) (by rfl) flX1_17 dX1_keep_27 rfl ?_
    rw [f1]
    refine g_iconst (pc2 := 31) dX1_keep_30 k_iconst_1 rfl ?_
    refine g_iaddN (pc2 := 32) dX1_keep_31 rfl ?_
    refine g_puti (pc2 := 35) (by rfl) (by rfl) flX1_17 (fpX1_1 _) (fun h => by first | cases h | rfl) dX1_keep_32 rfl ?_
    exact fin
  · omega
theorem R_c_back2 (l : lt_L) (d : Nat) (t : lt_H) (σ : lt_S) {c : Nat} (h : KP σ 2 c) (hc1 : 1 ≤ c) : lt_T l (d + 2) mX1_bringBack (lt_SC ++ t) σ [.ref 44, .ref 18] none (S_cback σ 2 c) := by
  refine lt_T.of [some (.ref 44), some (.ref 18)] rfl rfl (Nat.le_of_ble_eq_true rfl) ?_
  have e1 : σ 44 1 = nI 2 := h.1
  have e2 : σ 44 2 = nI c := h.2.2.1
  have f2 : lt_up σ 44 1 (nI 1) 44 2 = nI c := e2
  have f3 : lt_up (lt_up σ 44 1 (nI 1)) 44 2 (nI (c - 1)) 44 1 = nI 1 := by rw [lt_up_ne _ _ _ (by decide), lt_up_at]
  have fin : lt_g l (d + 2) mX1_bringBack (lt_SC ++ t) (lt_up σ 44 1 (nI 1)) 21 [some (.ref 44), some (.ref 18)] [] none (S_cback σ 2 c) := by
    refine g_al0 (pc2 := 22) dX1_bringBack_21 rfl ?_
    refine g_dup (pc2 := 23) dX1_bringBack_22 rfl ?_
    refine g_geti (pc2 := 26) (by rfl) (by rfl) flX1_21 dX1_bringBack_23 rfl ?_
    rw [f2]
    refine g_iconst (pc2 := 27) dX1_bringBack_26 k_iconst_1 rfl ?_
    refine g_isubN (pc2 := 28) dX1_bringBack_27 rfl (by omega) ?_
    refine g_puti (pc2 := 31) (by rfl) (by rfl) flX1_21 (fpX1_2 _) (fun h => by first | cases h | rfl) dX1_bringBack_28 rfl ?_
    refine g_al1 (pc2 := 32) dX1_bringBack_31 rfl ?_
    refine g_al0 (pc2 := 33) dX1_bringBack_32 rfl ?_
    refine g_getr (pc2 := 36) (by rfl) (by rfl) flX1_11 dX1_bringBack_33 rfl ?_
    refine g_al0 (pc2 := 37) dX1_bringBack_36 rfl ?_
    refine g_geti (pc2 := 40) (by rfl) (by rfl) flX1_17 dX1_bringBack_37 rfl ?_
    rw [f3]
    refine g_aald (pc2 := 41) (b := 51) (by rfl) (by rfl) (by decide) dX1_bringBack_40 rfl ?_
    refine g_cVv (pc2 := 44) (R_c_copyB1 l d _ _) meX2_copy mlX1_25 (by rfl) ⟨_, rfl, rfl⟩ rfl rfl (by simp) ⟨Nat.le_refl _, Nat.le_refl _⟩ dX1_bringBack_41 rfl ?_
    exact g_retT dX1_bringBack_44 rfl (Nat.le_refl _) (Nat.le_refl _) (rfl)
  refine g_al0 (pc2 := 1) dX1_bringBack_0 rfl ?_
  refine g_al0 (pc2 := 2) dX1_bringBack_1 rfl ?_
  refine g_geti (pc2 := 5) (by rfl) (by rfl) flX1_17 dX1_bringBack_2 rfl ?_
  rw [e1]
  refine g_if_ne 12 8 dX1_bringBack_5 rfl rfl (fun _ => ?_) (fun h => absurd h (nI_ne0 (by decide) (by decide)))
  refine g_al0 (pc2 := 13) dX1_bringBack_12 rfl ?_
  refine g_geti (pc2 := 16) (by rfl) (by rfl) flX1_17 dX1_bringBack_13 rfl ?_
  rw [e1]
  refine g_iconst (pc2 := 17) dX1_bringBack_16 k_iconst_1 rfl ?_
  refine g_isubN (pc2 := 18) dX1_bringBack_17 rfl (by omega) ?_
  refine g_puti (pc2 := 21) (by rfl) (by rfl) flX1_17 (fpX1_1 _) (fun h => by first | cases h | rfl) dX1_bringBack_18 rfl ?_
  exact fin
theorem R_c_keep3 (l : lt_L) (d : Nat) (t : lt_H) (σ : lt_S) {c : Nat} (h : KP σ 3 c) : lt_T l (d + 2) mX1_keep (lt_SC ++ t) σ [.ref 44, .ref 18] none (S_ckeep σ 3 c) := by
  refine lt_T.of [some (.ref 44), some (.ref 18)] rfl rfl (Nat.le_of_ble_eq_true rfl) ?_
  have e1 : σ 44 1 = nI 3 := h.1
  have e2 : σ 44 2 = nI c := h.2.2.1
  have hc := h.2.2.2
  have f1 : S_copy σ 61 18 44 1 = nI 3 := e1
  have f2 : lt_up (S_copy σ 61 18) 44 1 (nI 4) 44 2 = nI c := e2
  have fin : lt_g l (d + 2) mX1_keep (lt_SC ++ t) (lt_up (S_copy σ 61 18) 44 1 (nI 4)) 35 [some (.ref 44), some (.ref 18)] [] none (S_ckeep σ 3 c) := by
    refine g_al0 (pc2 := 36) dX1_keep_35 rfl ?_
    refine g_al0 (pc2 := 37) dX1_keep_36 rfl ?_
    refine g_geti (pc2 := 40) (by rfl) (by rfl) flX1_21 dX1_keep_37 rfl ?_
    rw [f2]
    refine g_iconst (pc2 := 41) dX1_keep_40 k_iconst_1 rfl ?_
    refine g_iaddN (pc2 := 42) dX1_keep_41 rfl ?_
    refine g_bipush (pc2 := 44) dX1_keep_42 k_bipush_6 rfl ?_
    refine g_min (pc2 := 47) mlX1_29 mm_min1 mm_2 mm_min3 (by simp) (by omega) (Nat.le_refl _) (Nat.le_refl _) dX1_keep_44 rfl ?_
    rw [show (if nI 6 < nI (c + 1) then nI 6 else nI (c + 1)) = nI (if c = 6 then 6 else c + 1) from (by by_cases h6 : c = 6; rw [if_pos h6, if_pos ((nI_ltI (by decide) (by omega)).mpr (by omega))]; rw [if_neg h6, if_neg (fun q => absurd ((nI_ltI (by decide) (by omega)).mp q) (by omega))])]
    refine g_puti (pc2 := 50) (by rfl) (by rfl) flX1_21 (fpX1_2 _) (fun h => by first | cases h | rfl) dX1_keep_47 rfl ?_
    exact g_retT dX1_keep_50 rfl (Nat.le_refl _) (Nat.le_refl _) (rfl)
  refine g_al0 (pc2 := 1) dX1_keep_0 rfl ?_
  refine g_getr (pc2 := 4) (by rfl) (by rfl) flX1_11 dX1_keep_1 rfl ?_
  refine g_al0 (pc2 := 5) dX1_keep_4 rfl ?_
  refine g_geti (pc2 := 8) (by rfl) (by rfl) flX1_17 dX1_keep_5 rfl ?_
  rw [e1]
  refine g_aald (pc2 := 9) (b := 61) (by rfl) (by rfl) (by decide) dX1_keep_8 rfl ?_
  refine g_al1 (pc2 := 10) dX1_keep_9 rfl ?_
  refine g_cVv (pc2 := 13) (R_c_copyK3 l d _ _) meX2_copy mlX1_25 (by rfl) ⟨_, rfl, rfl⟩ rfl rfl (by simp) ⟨Nat.le_refl _, Nat.le_refl _⟩ dX1_keep_10 rfl ?_
  refine g_al0 (pc2 := 14) dX1_keep_13 rfl ?_
  refine g_al0 (pc2 := 15) dX1_keep_14 rfl ?_
  refine g_geti (pc2 := 18) (by rfl) (by rfl) flX1_17 dX1_keep_15 rfl ?_
  rw [f1]
  refine g_iconst (pc2 := 19) dX1_keep_18 k_iconst_5 rfl ?_
  refine g_icmpN_ne 26 22 dX1_keep_19 rfl rfl (by omega) (by omega) (fun h19 => ?_) (fun h19 => ?_)
  · refine g_al0 (pc2 := 27) dX1_keep_26 rfl ?_
    refine g_geti (pc2 := 30) (by rfl) (by rfl) flX1_17 dX1_keep_27 rfl ?_
    rw [f1]
    refine g_iconst (pc2 := 31) dX1_keep_30 k_iconst_1 rfl ?_
    refine g_iaddN (pc2 := 32) dX1_keep_31 rfl ?_
    refine g_puti (pc2 := 35) (by rfl) (by rfl) flX1_17 (fpX1_1 _) (fun h => by first | cases h | rfl) dX1_keep_32 rfl ?_
    exact fin
  · omega
theorem R_c_back3 (l : lt_L) (d : Nat) (t : lt_H) (σ : lt_S) {c : Nat} (h : KP σ 3 c) (hc1 : 1 ≤ c) : lt_T l (d + 2) mX1_bringBack (lt_SC ++ t) σ [.ref 44, .ref 18] none (S_cback σ 3 c) := by
  refine lt_T.of [some (.ref 44), some (.ref 18)] rfl rfl (Nat.le_of_ble_eq_true rfl) ?_
  have e1 : σ 44 1 = nI 3 := h.1
  have e2 : σ 44 2 = nI c := h.2.2.1
  have f2 : lt_up σ 44 1 (nI 2) 44 2 = nI c := e2
  have f3 : lt_up (lt_up σ 44 1 (nI 2)) 44 2 (nI (c - 1)) 44 1 = nI 2 := by rw [lt_up_ne _ _ _ (by decide), lt_up_at]
  have fin : lt_g l (d + 2) mX1_bringBack (lt_SC ++ t) (lt_up σ 44 1 (nI 2)) 21 [some (.ref 44), some (.ref 18)] [] none (S_cback σ 3 c) := by
    refine g_al0 (pc2 := 22) dX1_bringBack_21 rfl ?_
    refine g_dup (pc2 := 23) dX1_bringBack_22 rfl ?_
    refine g_geti (pc2 := 26) (by rfl) (by rfl) flX1_21 dX1_bringBack_23 rfl ?_
    rw [f2]
    refine g_iconst (pc2 := 27) dX1_bringBack_26 k_iconst_1 rfl ?_
    refine g_isubN (pc2 := 28) dX1_bringBack_27 rfl (by omega) ?_
    refine g_puti (pc2 := 31) (by rfl) (by rfl) flX1_21 (fpX1_2 _) (fun h => by first | cases h | rfl) dX1_bringBack_28 rfl ?_
    refine g_al1 (pc2 := 32) dX1_bringBack_31 rfl ?_
    refine g_al0 (pc2 := 33) dX1_bringBack_32 rfl ?_
    refine g_getr (pc2 := 36) (by rfl) (by rfl) flX1_11 dX1_bringBack_33 rfl ?_
    refine g_al0 (pc2 := 37) dX1_bringBack_36 rfl ?_
    refine g_geti (pc2 := 40) (by rfl) (by rfl) flX1_17 dX1_bringBack_37 rfl ?_
    rw [f3]
    refine g_aald (pc2 := 41) (b := 56) (by rfl) (by rfl) (by decide) dX1_bringBack_40 rfl ?_
    refine g_cVv (pc2 := 44) (R_c_copyB2 l d _ _) meX2_copy mlX1_25 (by rfl) ⟨_, rfl, rfl⟩ rfl rfl (by simp) ⟨Nat.le_refl _, Nat.le_refl _⟩ dX1_bringBack_41 rfl ?_
    exact g_retT dX1_bringBack_44 rfl (Nat.le_refl _) (Nat.le_refl _) (rfl)
  refine g_al0 (pc2 := 1) dX1_bringBack_0 rfl ?_
  refine g_al0 (pc2 := 2) dX1_bringBack_1 rfl ?_
  refine g_geti (pc2 := 5) (by rfl) (by rfl) flX1_17 dX1_bringBack_2 rfl ?_
  rw [e1]
  refine g_if_ne 12 8 dX1_bringBack_5 rfl rfl (fun _ => ?_) (fun h => absurd h (nI_ne0 (by decide) (by decide)))
  refine g_al0 (pc2 := 13) dX1_bringBack_12 rfl ?_
  refine g_geti (pc2 := 16) (by rfl) (by rfl) flX1_17 dX1_bringBack_13 rfl ?_
  rw [e1]
  refine g_iconst (pc2 := 17) dX1_bringBack_16 k_iconst_1 rfl ?_
  refine g_isubN (pc2 := 18) dX1_bringBack_17 rfl (by omega) ?_
  refine g_puti (pc2 := 21) (by rfl) (by rfl) flX1_17 (fpX1_1 _) (fun h => by first | cases h | rfl) dX1_bringBack_18 rfl ?_
  exact fin
theorem R_c_keep4 (l : lt_L) (d : Nat) (t : lt_H) (σ : lt_S) {c : Nat} (h : KP σ 4 c) : lt_T l (d + 2) mX1_keep (lt_SC ++ t) σ [.ref 44, .ref 18] none (S_ckeep σ 4 c) := by
  refine lt_T.of [some (.ref 44), some (.ref 18)] rfl rfl (Nat.le_of_ble_eq_true rfl) ?_
  have e1 : σ 44 1 = nI 4 := h.1
  have e2 : σ 44 2 = nI c := h.2.2.1
  have hc := h.2.2.2
  have f1 : S_copy σ 66 18 44 1 = nI 4 := e1
  have f2 : lt_up (S_copy σ 66 18) 44 1 (nI 5) 44 2 = nI c := e2
  have fin : lt_g l (d + 2) mX1_keep (lt_SC ++ t) (lt_up (S_copy σ 66 18) 44 1 (nI 5)) 35 [some (.ref 44), some (.ref 18)] [] none (S_ckeep σ 4 c) := by
    refine g_al0 (pc2 := 36) dX1_keep_35 rfl ?_
    refine g_al0 (pc2 := 37) dX1_keep_36 rfl ?_
    refine g_geti (pc2 := 40) (by rfl) (by rfl) flX1_21 dX1_keep_37 rfl ?_
    rw [f2]
    refine g_iconst (pc2 := 41) dX1_keep_40 k_iconst_1 rfl ?_
    refine g_iaddN (pc2 := 42) dX1_keep_41 rfl ?_
    refine g_bipush (pc2 := 44) dX1_keep_42 k_bipush_6 rfl ?_
    refine g_min (pc2 := 47) mlX1_29 mm_min1 mm_2 mm_min3 (by simp) (by omega) (Nat.le_refl _) (Nat.le_refl _) dX1_keep_44 rfl ?_
    rw [show (if nI 6 < nI (c + 1) then nI 6 else nI (c + 1)) = nI (if c = 6 then 6 else c + 1) from (by by_cases h6 : c = 6; rw [if_pos h6, if_pos ((nI_ltI (by decide) (by omega)).mpr (by omega))]; rw [if_neg h6, if_neg (fun q => absurd ((nI_ltI (by decide) (by omega)).mp q) (by omega))])]
    refine g_puti (pc2 := 50) (by rfl) (by rfl) flX1_21 (fpX1_2 _) (fun h => by first | cases h | rfl) dX1_keep_47 rfl ?_
    exact g_retT dX1_keep_50 rfl (Nat.le_refl _) (Nat.le_refl _) (rfl)
  refine g_al0 (pc2 := 1) dX1_keep_0 rfl ?_
  refine g_getr (pc2 := 4) (by rfl) (by rfl) flX1_11 dX1_keep_1 rfl ?_
  refine g_al0 (pc2 := 5) dX1_keep_4 rfl ?_
  refine g_geti (pc2 := 8) (by rfl) (by rfl) flX1_17 dX1_keep_5 rfl ?_
  rw [e1]
  refine g_aald (pc2 := 9) (b := 66) (by rfl) (by rfl) (by decide) dX1_keep_8 rfl ?_
  refine g_al1 (pc2 := 10) dX1_keep_9 rfl ?_
  refine g_cVv (pc2 := 13) (R_c_copyK4 l d _ _) meX2_copy mlX1_25 (by rfl) ⟨_, rfl, rfl⟩ rfl rfl (by simp) ⟨Nat.le_refl _, Nat.le_refl _⟩ dX1_keep_10 rfl ?_
  refine g_al0 (pc2 := 14) dX1_keep_13 rfl ?_
  refine g_al0 (pc2 := 15) dX1_keep_14 rfl ?_
  refine g_geti (pc2 := 18) (by rfl) (by rfl) flX1_17 dX1_keep_15 rfl ?_
  rw [f1]
  refine g_iconst (pc2 := 19) dX1_keep_18 k_iconst_5 rfl ?_
  refine g_icmpN_ne 26 22 dX1_keep_19 rfl rfl (by omega) (by omega) (fun h19 => ?_) (fun h19 => ?_)
  · refine g_al0 (pc2 := 27) dX1_keep_26 rfl ?_
    refine g_geti (pc2 := 30) (by rfl) (by rfl) flX1_17 dX1_keep_27 rfl ?_
    rw [f1]
    refine g_iconst (pc2 := 31) dX1_keep_30 k_iconst_1 rfl ?_
    refine g_iaddN (pc2 := 32) dX1_keep_31 rfl ?_
    refine g_puti (pc2 := 35) (by rfl) (by rfl) flX1_17 (fpX1_1 _) (fun h => by first | cases h | rfl) dX1_keep_32 rfl ?_
    exact fin
  · omega
theorem R_c_back4 (l : lt_L) (d : Nat) (t : lt_H) (σ : lt_S) {c : Nat} (h : KP σ 4 c) (hc1 : 1 ≤ c) : lt_T l (d + 2) mX1_bringBack (lt_SC ++ t) σ [.ref 44, .ref 18] none (S_cback σ 4 c) := by
  refine lt_T.of [some (.ref 44), some (.ref 18)] rfl rfl (Nat.le_of_ble_eq_true rfl) ?_
  have e1 : σ 44 1 = nI 4 := h.1
  have e2 : σ 44 2 = nI c := h.2.2.1
  have f2 : lt_up σ 44 1 (nI 3) 44 2 = nI c := e2
  have f3 : lt_up (lt_up σ 44 1 (nI 3)) 44 2 (nI (c - 1)) 44 1 = nI 3 := by rw [lt_up_ne _ _ _ (by decide), lt_up_at]
  have fin : lt_g l (d + 2) mX1_bringBack (lt_SC ++ t) (lt_up σ 44 1 (nI 3)) 21 [some (.ref 44), some (.ref 18)] [] none (S_cback σ 4 c) := by
    refine g_al0 (pc2 := 22) dX1_bringBack_21 rfl ?_
    refine g_dup (pc2 := 23) dX1_bringBack_22 rfl ?_
    refine g_geti (pc2 := 26) (by rfl) (by rfl) flX1_21 dX1_bringBack_23 rfl ?_
    rw [f2]
    refine g_iconst (pc2 := 27) dX1_bringBack_26 k_iconst_1 rfl ?_
    refine g_isubN (pc2 := 28) dX1_bringBack_27 rfl (by omega) ?_
    refine g_puti (pc2 := 31) (by rfl) (by rfl) flX1_21 (fpX1_2 _) (fun h => by first | cases h | rfl) dX1_bringBack_28 rfl ?_
    refine g_al1 (pc2 := 32) dX1_bringBack_31 rfl ?_
    refine g_al0 (pc2 := 33) dX1_bringBack_32 rfl ?_
    refine g_getr (pc2 := 36) (by rfl) (by rfl) flX1_11 dX1_bringBack_33 rfl ?_
    refine g_al0 (pc2 := 37) dX1_bringBack_36 rfl ?_
    refine g_geti (pc2 := 40) (by rfl) (by rfl) flX1_17 dX1_bringBack_37 rfl ?_
    rw [f3]
    refine g_aald (pc2 := 41) (b := 61) (by rfl) (by rfl) (by decide) dX1_bringBack_40 rfl ?_
    refine g_cVv (pc2 := 44) (R_c_copyB3 l d _ _) meX2_copy mlX1_25 (by rfl) ⟨_, rfl, rfl⟩ rfl rfl (by simp) ⟨Nat.le_refl _, Nat.le_refl _⟩ dX1_bringBack_41 rfl ?_
    exact g_retT dX1_bringBack_44 rfl (Nat.le_refl _) (Nat.le_refl _) (rfl)
  refine g_al0 (pc2 := 1) dX1_bringBack_0 rfl ?_
  refine g_al0 (pc2 := 2) dX1_bringBack_1 rfl ?_
  refine g_geti (pc2 := 5) (by rfl) (by rfl) flX1_17 dX1_bringBack_2 rfl ?_
  rw [e1]
  refine g_if_ne 12 8 dX1_bringBack_5 rfl rfl (fun _ => ?_) (fun h => absurd h (nI_ne0 (by decide) (by decide)))
  refine g_al0 (pc2 := 13) dX1_bringBack_12 rfl ?_
  refine g_geti (pc2 := 16) (by rfl) (by rfl) flX1_17 dX1_bringBack_13 rfl ?_
  rw [e1]
  refine g_iconst (pc2 := 17) dX1_bringBack_16 k_iconst_1 rfl ?_
  refine g_isubN (pc2 := 18) dX1_bringBack_17 rfl (by omega) ?_
  refine g_puti (pc2 := 21) (by rfl) (by rfl) flX1_17 (fpX1_1 _) (fun h => by first | cases h | rfl) dX1_bringBack_18 rfl ?_
  exact fin
theorem R_c_keep5 (l : lt_L) (d : Nat) (t : lt_H) (σ : lt_S) {c : Nat} (h : KP σ 5 c) : lt_T l (d + 2) mX1_keep (lt_SC ++ t) σ [.ref 44, .ref 18] none (S_ckeep σ 5 c) := by
  refine lt_T.of [some (.ref 44), some (.ref 18)] rfl rfl (Nat.le_of_ble_eq_true rfl) ?_
  have e1 : σ 44 1 = nI 5 := h.1
  have e2 : σ 44 2 = nI c := h.2.2.1
  have hc := h.2.2.2
  have f1 : S_copy σ 71 18 44 1 = nI 5 := e1
  have f2 : lt_up (S_copy σ 71 18) 44 1 (nI 0) 44 2 = nI c := e2
  have fin : lt_g l (d + 2) mX1_keep (lt_SC ++ t) (lt_up (S_copy σ 71 18) 44 1 (nI 0)) 35 [some (.ref 44), some (.ref 18)] [] none (S_ckeep σ 5 c) := by
    refine g_al0 (pc2 := 36) dX1_keep_35 rfl ?_
    refine g_al0 (pc2 := 37) dX1_keep_36 rfl ?_
    refine g_geti (pc2 := 40) (by rfl) (by rfl) flX1_21 dX1_keep_37 rfl ?_
    rw [f2]
    refine g_iconst (pc2 := 41) dX1_keep_40 k_iconst_1 rfl ?_
    refine g_iaddN (pc2 := 42) dX1_keep_41 rfl ?_
    refine g_bipush (pc2 := 44) dX1_keep_42 k_bipush_6 rfl ?_
    refine g_min (pc2 := 47) mlX1_29 mm_min1 mm_2 mm_min3 (by simp) (by omega) (Nat.le_refl _) (Nat.le_refl _) dX1_keep_44 rfl ?_
    rw [show (if nI 6 < nI (c + 1) then nI 6 else nI (c + 1)) = nI (if c = 6 then 6 else c + 1) from (by by_cases h6 : c = 6; rw [if_pos h6, if_pos ((nI_ltI (by decide) (by omega)).mpr (by omega))]; rw [if_neg h6, if_neg (fun q => absurd ((nI_ltI (by decide) (by omega)).mp q) (by omega))])]
    refine g_puti (pc2 := 50) (by rfl) (by rfl) flX1_21 (fpX1_2 _) (fun h => by first | cases h | rfl) dX1_keep_47 rfl ?_
    exact g_retT dX1_keep_50 rfl (Nat.le_refl _) (Nat.le_refl _) (rfl)
  refine g_al0 (pc2 := 1) dX1_keep_0 rfl ?_
  refine g_getr (pc2 := 4) (by rfl) (by rfl) flX1_11 dX1_keep_1 rfl ?_
  refine g_al0 (pc2 := 5) dX1_keep_4 rfl ?_
  refine g_geti (pc2 := 8) (by rfl) (by rfl) flX1_17 dX1_keep_5 rfl ?_
  rw [e1]
  refine g_aald (pc2 := 9) (b := 71) (by rfl) (by rfl) (by decide) dX1_keep_8 rfl ?_
  refine g_al1 (pc2 := 10) dX1_keep_9 rfl ?_
  refine g_cVv (pc2 := 13) (R_c_copyK5 l d _ _) meX2_copy mlX1_25 (by rfl) ⟨_, rfl, rfl⟩ rfl rfl (by simp) ⟨Nat.le_refl _, Nat.le_refl _⟩ dX1_keep_10 rfl ?_
  refine g_al0 (pc2 := 14) dX1_keep_13 rfl ?_
  refine g_al0 (pc2 := 15) dX1_keep_14 rfl ?_
  refine g_geti (pc2 := 18) (by rfl) (by rfl) flX1_17 dX1_keep_15 rfl ?_
  rw [f1]
  refine g_iconst (pc2 := 19) dX1_keep_18 k_iconst_5 rfl ?_
  refine g_icmpN_ne 26 22 dX1_keep_19 rfl rfl (by omega) (by omega) (fun h19 => ?_) (fun h19 => ?_)
  · omega
  · refine g_iconst (pc2 := 23) dX1_keep_22 k_iconst_0 rfl ?_
    refine g_goto 32 dX1_keep_23 rfl ?_
    refine g_puti (pc2 := 35) (by rfl) (by rfl) flX1_17 (fpX1_1 _) (fun h => by first | cases h | rfl) dX1_keep_32 rfl ?_
    exact fin
theorem R_c_back5 (l : lt_L) (d : Nat) (t : lt_H) (σ : lt_S) {c : Nat} (h : KP σ 5 c) (hc1 : 1 ≤ c) : lt_T l (d + 2) mX1_bringBack (lt_SC ++ t) σ [.ref 44, .ref 18] none (S_cback σ 5 c) := by
  refine lt_T.of [some (.ref 44), some (.ref 18)] rfl rfl (Nat.le_of_ble_eq_true rfl) ?_
  have e1 : σ 44 1 = nI 5 := h.1
  have e2 : σ 44 2 = nI c := h.2.2.1
  have f2 : lt_up σ 44 1 (nI 4) 44 2 = nI c := e2
  have f3 : lt_up (lt_up σ 44 1 (nI 4)) 44 2 (nI (c - 1)) 44 1 = nI 4 := by rw [lt_up_ne _ _ _ (by decide), lt_up_at]
  have fin : lt_g l (d + 2) mX1_bringBack (lt_SC ++ t) (lt_up σ 44 1 (nI 4)) 21 [some (.ref 44), some (.ref 18)] [] none (S_cback σ 5 c) := by
    refine g_al0 (pc2 := 22) dX1_bringBack_21 rfl ?_
    refine g_dup (pc2 := 23) dX1_bringBack_22 rfl ?_
    refine g_geti (pc2 := 26) (by rfl) (by rfl) flX1_21 dX1_bringBack_23 rfl ?_
    rw [f2]
    refine g_iconst (pc2 := 27) dX1_bringBack_26 k_iconst_1 rfl ?_
    refine g_isubN (pc2 := 28) dX1_bringBack_27 rfl (by omega) ?_
    refine g_puti (pc2 := 31) (by rfl) (by rfl) flX1_21 (fpX1_2 _) (fun h => by first | cases h | rfl) dX1_bringBack_28 rfl ?_
    refine g_al1 (pc2 := 32) dX1_bringBack_31 rfl ?_
    refine g_al0 (pc2 := 33) dX1_bringBack_32 rfl ?_
    refine g_getr (pc2 := 36) (by rfl) (by rfl) flX1_11 dX1_bringBack_33 rfl ?_
    refine g_al0 (pc2 := 37) dX1_bringBack_36 rfl ?_
    refine g_geti (pc2 := 40) (by rfl) (by rfl) flX1_17 dX1_bringBack_37 rfl ?_
    rw [f3]
    refine g_aald (pc2 := 41) (b := 66) (by rfl) (by rfl) (by decide) dX1_bringBack_40 rfl ?_
    refine g_cVv (pc2 := 44) (R_c_copyB4 l d _ _) meX2_copy mlX1_25 (by rfl) ⟨_, rfl, rfl⟩ rfl rfl (by simp) ⟨Nat.le_refl _, Nat.le_refl _⟩ dX1_bringBack_41 rfl ?_
    exact g_retT dX1_bringBack_44 rfl (Nat.le_refl _) (Nat.le_refl _) (rfl)
  refine g_al0 (pc2 := 1) dX1_bringBack_0 rfl ?_
  refine g_al0 (pc2 := 2) dX1_bringBack_1 rfl ?_
  refine g_geti (pc2 := 5) (by rfl) (by rfl) flX1_17 dX1_bringBack_2 rfl ?_
  rw [e1]
  refine g_if_ne 12 8 dX1_bringBack_5 rfl rfl (fun _ => ?_) (fun h => absurd h (nI_ne0 (by decide) (by decide)))
  refine g_al0 (pc2 := 13) dX1_bringBack_12 rfl ?_
  refine g_geti (pc2 := 16) (by rfl) (by rfl) flX1_17 dX1_bringBack_13 rfl ?_
  rw [e1]
  refine g_iconst (pc2 := 17) dX1_bringBack_16 k_iconst_1 rfl ?_
  refine g_isubN (pc2 := 18) dX1_bringBack_17 rfl (by omega) ?_
  refine g_puti (pc2 := 21) (by rfl) (by rfl) flX1_17 (fpX1_1 _) (fun h => by first | cases h | rfl) dX1_bringBack_18 rfl ?_
  exact fin
theorem R_c_keep (l : lt_L) (d : Nat) (t : lt_H) (σ : lt_S) {nx c : Nat} (h : KP σ nx c) : lt_T l (d + 2) mX1_keep (lt_SC ++ t) σ [.ref 44, .ref 18] none (S_ckeep σ nx c) := by
  have h6 := h.2.1
  rcases (show nx = 0 ∨ nx = 1 ∨ nx = 2 ∨ nx = 3 ∨ nx = 4 ∨ nx = 5 by omega) with rfl | rfl | rfl | rfl | rfl | rfl
  · exact R_c_keep0 l d t σ h
  · exact R_c_keep1 l d t σ h
  · exact R_c_keep2 l d t σ h
  · exact R_c_keep3 l d t σ h
  · exact R_c_keep4 l d t σ h
  · exact R_c_keep5 l d t σ h
theorem R_c_back (l : lt_L) (d : Nat) (t : lt_H) (σ : lt_S) {nx c : Nat} (h : KP σ nx c) (hc1 : 1 ≤ c) : lt_T l (d + 2) mX1_bringBack (lt_SC ++ t) σ [.ref 44, .ref 18] none (S_cback σ nx c) := by
  have h6 := h.2.1
  rcases (show nx = 0 ∨ nx = 1 ∨ nx = 2 ∨ nx = 3 ∨ nx = 4 ∨ nx = 5 by omega) with rfl | rfl | rfl | rfl | rfl | rfl
  · exact R_c_back0 l d t σ h hc1
  · exact R_c_back1 l d t σ h hc1
  · exact R_c_back2 l d t σ h hc1
  · exact R_c_back3 l d t σ h hc1
  · exact R_c_back4 l d t σ h hc1
  · exact R_c_back5 l d t σ h hc1
theorem S_ckeep_ne (σ : lt_S) {nx c : Nat} {x : Nat} (h : x < 44 ∨ 75 < x) (hx : nx < 6) : S_ckeep σ nx c x = σ x := by
  unfold S_ckeep
  rw [lt_up_nr _ _ _ (by omega), lt_up_nr _ _ _ (by omega), S_copy_ne _ _ _ (by omega)]
theorem CC.far {σ σ' : lt_S} {w : Nat → Int32} {ln T N : Nat} (h : CC σ w ln T N) (he : ∀ x, x < 44 → σ' x = σ x) : CC σ' w ln T N := by
  obtain ⟨h1, h2, h3, h4⟩ := h
  refine ⟨h1, ?_, ?_, ?_⟩
  · unfold CY at h2 ⊢
    simp only [he 13 (by decide), he (13 + 1) (by decide), he (13 + 2) (by decide), he (13 + 3) (by decide), he (13 + 4) (by decide)]
    exact h2
  · unfold CP at h3 ⊢
    simp only [he (18 + 1) (by decide), he (18 + 2) (by decide), he (18 + 3) (by decide), he (18 + 4) (by decide)]
    exact h3
  · unfold CA at h4 ⊢
    simp only [he 38 (by decide)]
    exact h4
theorem R_c_give (l : lt_L) (d : Nat) (t : lt_H) (σ : lt_S) {w : Nat → Int32} {ln T N nx c : Nat} (hc : CC σ w ln T N) (hk : KP σ nx c) (i b : Int32) : lt_T l (d + 4) mX7_give (lt_SC ++ t) σ [.ref 10, .int i, .int b] (some (F_give w i b)) (if ok_give w i b && can_give w (tN i) (tN b) then lt_up (S_ckeep σ nx c) 22 (tN i) b else σ) := by
  refine lt_T.of [some (.ref 10), some (.int i), some (.int b)] rfl rfl (Nat.le_of_ble_eq_true rfl) ?_
  have hw := hc.1
  have hN := hw.2.2.1
  have hT := hw.2.1
  have e2 : σ 13 2 = w 2 := hc.2.1.1.2.2.1
  have e1 : σ 13 1 = w 1 := hc.2.1.1.2.1
  refine g_al0 (pc2 := 1) dX7_give_0 rfl ?_
  refine g_getr (pc2 := 4) (by rfl) (by rfl) flX7_19 dX7_give_1 rfl ?_
  refine g_il1 (pc2 := 5) dX7_give_4 rfl ?_
  refine g_cVi (pc2 := 8) (R_c_hasTrain13 l (d + 2) _ _ _) meX6_hasTrain mlX7_122 (by rfl) ⟨_, rfl, rfl⟩ rfl rfl (by simp) ⟨Nat.le_refl _, Nat.le_refl _⟩ dX7_give_5 rfl ?_
  rw [e2]
  refine g_if_eqB 22 11 dX7_give_8 rfl rfl (fun h8 => ?_) (fun h8 => ?_)
  · refine g_iconst (pc2 := 23) dX7_give_22 k_iconst_m1 rfl ?_
    exact g_iretT dX7_give_23 rfl (Nat.le_refl _) (Nat.le_refl _) (by first | (simp [F_give, ok_give, h8]; done) | (simp [F_give, ok_give, h19]; done)) (by first | (simp [ok_give, h8]; done) | (simp [ok_give, h19]; done))
  · refine g_al0 (pc2 := 12) dX7_give_11 rfl ?_
    refine g_getr (pc2 := 15) (by rfl) (by rfl) flX7_19 dX7_give_12 rfl ?_
    refine g_il2 (pc2 := 16) dX7_give_15 rfl ?_
    refine g_cVi (pc2 := 19) (R_c_hasTrack13 l (d + 2) _ _ _) meX6_hasTrack mlX7_115 (by rfl) ⟨_, rfl, rfl⟩ rfl rfl (by simp) ⟨Nat.le_refl _, Nat.le_refl _⟩ dX7_give_16 rfl ?_
    rw [e1]
    refine g_if_neB 24 22 dX7_give_19 rfl rfl (fun h19 => ?_) (fun h19 => ?_)
    · have hok : ok_give w i b = true := by simp [ok_give, h8, h19]
      rw [hN.1] at h8
      obtain ⟨i, hi, rfl⟩ := hasB_ix (by omega) h8
      rw [hT.1] at h19
      obtain ⟨b, hb, rfl⟩ := hasB_ix (by omega) h19
      have t1 := tN_nI (show i < 2 ^ 31 by omega)
      have t2 := tN_nI (show b < 2 ^ 31 by omega)
      have e22 : σ 22 i = w (16 + 7 * i + 6) := (hc.2.2.1 i hi).2.2.2
      refine g_al0 (pc2 := 25) dX7_give_24 rfl ?_
      refine g_getr (pc2 := 28) (by rfl) (by rfl) flX7_26 dX7_give_25 rfl ?_
      refine g_getr (pc2 := 31) (by rfl) (by rfl) flX7_144 dX7_give_28 rfl ?_
      refine g_il1 (pc2 := 32) dX7_give_31 rfl ?_
      refine g_iald (pc2 := 33) (by rfl) (by omega) (by decide) dX7_give_32 rfl ?_
      rw [e22]
      refine g_bipush (pc2 := 35) dX7_give_33 k_bipush_m4 rfl ?_
      refine g_icmp_ne 50 38 dX7_give_35 rfl rfl (fun h35 => ?_) (fun h35 => ?_)
      · refine g_bipush (pc2 := 52) dX7_give_50 k_bipush_m2 rfl ?_
        exact g_iretT dX7_give_52 rfl (Nat.le_refl _) (Nat.le_refl _) (by first | (simp [F_give, hok, can_give, t1, t2, h35]; done) | (simp only [decide_eq_false_iff_not] at h47; simp [F_give, hok, can_give, t1, t2, h47]; done)) (by first | (simp [can_give, t1, t2, h35]; done) | (simp only [decide_eq_false_iff_not] at h47; simp [can_give, t1, t2, h47]; done))
      · refine g_al0 (pc2 := 39) dX7_give_38 rfl ?_
        refine g_getr (pc2 := 42) (by rfl) (by rfl) flX7_47 dX7_give_39 rfl ?_
        refine g_il1 (pc2 := 43) dX7_give_42 rfl ?_
        refine g_il2 (pc2 := 44) dX7_give_43 rfl ?_
        refine g_cVi (pc2 := 47) (R_c_isFree l d _ _ hc _ _ hi hb) meX0_isFree mlX7_160 (by rfl) ⟨_, rfl, rfl⟩ rfl rfl (by simp) ⟨Nat.le_refl _, Nat.le_refl _⟩ dX7_give_44 rfl ?_
        refine g_if_neB 53 50 dX7_give_47 rfl rfl (fun h47 => ?_) (fun h47 => ?_)
        · have hcan : can_give w i b = true := by simp only [decide_eq_true_eq] at h47; simp [can_give, h35, h47]
          refine g_al0 (pc2 := 54) dX7_give_53 rfl ?_
          refine g_getr (pc2 := 57) (by rfl) (by rfl) flX7_63 dX7_give_54 rfl ?_
          refine g_al0 (pc2 := 58) dX7_give_57 rfl ?_
          refine g_getr (pc2 := 61) (by rfl) (by rfl) flX7_26 dX7_give_58 rfl ?_
          refine g_cVv (pc2 := 64) (R_c_keep l (d + 1) _ _ hk) meX1_keep mlX7_163 (by rfl) ⟨_, rfl, rfl⟩ rfl rfl (by simp) ⟨Nat.le_refl _, Nat.le_refl _⟩ dX7_give_61 rfl ?_
          refine g_al0 (pc2 := 65) dX7_give_64 rfl ?_
          refine g_getr (pc2 := 68) (by rfl) (by rfl) flX7_26 dX7_give_65 rfl ?_
          refine g_getr (pc2 := 71) (by rfl) (by rfl) flX7_144 dX7_give_68 rfl ?_
          refine g_il1 (pc2 := 72) dX7_give_71 rfl ?_
          refine g_il2 (pc2 := 73) dX7_give_72 rfl ?_
          refine g_iast (pc2 := 74) (by rfl) (by omega) (by decide) dX7_give_73 rfl ?_
          have hw2 : Wf (upd w (16 + 7 * i + 6) (nI b)) ln T N := hw.upd6 hi (Or.inr ⟨b, hb, rfl, pf_why_fit (by simpa using h47)⟩)
          have hq2 : lt_up (S_ckeep σ nx c) 22 i (nI b) 13 2 = upd w (16 + 7 * i + 6) (nI b) 2 := by rw [lt_up_nr _ _ _ (by decide), S_ckeep_ne _ (by omega) hk.2.1, pk_un (by omega)]; exact e2
          have hq22 : ∀ j, j < N → lt_up (S_ckeep σ nx c) 22 i (nI b) 22 j = upd w (16 + 7 * i + 6) (nI b) (16 + 7 * j + 6) := by
            intro j hj
            by_cases e : j = i
            · subst e; rw [lt_up_at, pk_us]
            · rw [lt_up_ne _ _ _ e, S_ckeep_ne _ (by omega) hk.2.1, pk_un (by omega)]; exact (hc.2.2.1 j hj).2.2.2
          refine g_al0 (pc2 := 75) dX7_give_74 rfl ?_
          refine g_cVi (pc2 := 78) (R_c_placedTrains l (d + 2) _ _ hw2 hq2 hq22) meX7_placedTrains mlX7_167 (by rfl) ⟨_, rfl, rfl⟩ rfl rfl (by simp) ⟨Nat.le_refl _, Nat.le_refl _⟩ dX7_give_75 rfl ?_
          exact g_iretT dX7_give_78 rfl (Nat.le_refl _) (Nat.le_refl _) (by simp [F_give, hok, t1, t2, hcan]) (by simp [hok, t1, t2, hcan])
        · refine g_bipush (pc2 := 52) dX7_give_50 k_bipush_m2 rfl ?_
          exact g_iretT dX7_give_52 rfl (Nat.le_refl _) (Nat.le_refl _) (by first | (simp [F_give, hok, can_give, t1, t2, h35]; done) | (simp only [decide_eq_false_iff_not] at h47; simp [F_give, hok, can_give, t1, t2, h47]; done)) (by first | (simp [can_give, t1, t2, h35]; done) | (simp only [decide_eq_false_iff_not] at h47; simp [can_give, t1, t2, h47]; done))
    · refine g_iconst (pc2 := 23) dX7_give_22 k_iconst_m1 rfl ?_
      exact g_iretT dX7_give_23 rfl (Nat.le_refl _) (Nat.le_refl _) (by first | (simp [F_give, ok_give, h8]; done) | (simp [F_give, ok_give, h19]; done)) (by first | (simp [ok_give, h8]; done) | (simp [ok_give, h19]; done))
theorem R_c_take (l : lt_L) (d : Nat) (t : lt_H) (σ : lt_S) {w : Nat → Int32} {ln T N nx c : Nat} (hc : CC σ w ln T N) (hk : KP σ nx c) (i : Int32) : lt_T l (d + 3) mX7_take (lt_SC ++ t) σ [.ref 10, .int i] (some (F_take w i)) (if hasB i (w 2) && !decide (w (16 + 7 * tN i + 6) = -4) then lt_up (S_ckeep σ nx c) 22 (tN i) (-4) else σ) := by
  refine lt_T.of [some (.ref 10), some (.int i), none] rfl rfl (Nat.le_of_ble_eq_true rfl) ?_
  have hw := hc.1
  have hN := hw.2.2.1
  have e2 : σ 13 2 = w 2 := hc.2.1.1.2.2.1
  refine g_al0 (pc2 := 1) dX7_take_0 rfl ?_
  refine g_getr (pc2 := 4) (by rfl) (by rfl) flX7_19 dX7_take_1 rfl ?_
  refine g_il1 (pc2 := 5) dX7_take_4 rfl ?_
  refine g_cVi (pc2 := 8) (R_c_hasTrain13 l (d + 1) _ _ _) meX6_hasTrain mlX7_122 (by rfl) ⟨_, rfl, rfl⟩ rfl rfl (by simp) ⟨Nat.le_refl _, Nat.le_refl _⟩ dX7_take_5 rfl ?_
  rw [e2]
  refine g_if_neB 13 11 dX7_take_8 rfl rfl (fun h8 => ?_) (fun h8 => ?_)
  · have hok := h8
    rw [hN.1] at h8
    obtain ⟨i, hi, rfl⟩ := hasB_ix (by omega) h8
    have t1 := tN_nI (show i < 2 ^ 31 by omega)
    have e22 : σ 22 i = w (16 + 7 * i + 6) := (hc.2.2.1 i hi).2.2.2
    refine g_al0 (pc2 := 14) dX7_take_13 rfl ?_
    refine g_getr (pc2 := 17) (by rfl) (by rfl) flX7_26 dX7_take_14 rfl ?_
    refine g_getr (pc2 := 20) (by rfl) (by rfl) flX7_144 dX7_take_17 rfl ?_
    refine g_il1 (pc2 := 21) dX7_take_20 rfl ?_
    refine g_iald (pc2 := 22) (by rfl) (by omega) (by decide) dX7_take_21 rfl ?_
    rw [e22]
    refine g_is2 (pc2 := 23) dX7_take_22 (by decide) rfl ?_
    refine g_il2 (pc2 := 24) dX7_take_23 rfl ?_
    refine g_bipush (pc2 := 26) dX7_take_24 k_bipush_m4 rfl ?_
    refine g_icmp_ne 32 29 dX7_take_26 rfl rfl (fun h26 => ?_) (fun h26 => ?_)
    · refine g_al0 (pc2 := 33) dX7_take_32 rfl ?_
      refine g_getr (pc2 := 36) (by rfl) (by rfl) flX7_63 dX7_take_33 rfl ?_
      refine g_al0 (pc2 := 37) dX7_take_36 rfl ?_
      refine g_getr (pc2 := 40) (by rfl) (by rfl) flX7_26 dX7_take_37 rfl ?_
      refine g_cVv (pc2 := 43) (R_c_keep l d _ _ hk) meX1_keep mlX7_163 (by rfl) ⟨_, rfl, rfl⟩ rfl rfl (by simp) ⟨Nat.le_refl _, Nat.le_refl _⟩ dX7_take_40 rfl ?_
      refine g_al0 (pc2 := 44) dX7_take_43 rfl ?_
      refine g_getr (pc2 := 47) (by rfl) (by rfl) flX7_26 dX7_take_44 rfl ?_
      refine g_getr (pc2 := 50) (by rfl) (by rfl) flX7_144 dX7_take_47 rfl ?_
      refine g_il1 (pc2 := 51) dX7_take_50 rfl ?_
      refine g_bipush (pc2 := 53) dX7_take_51 k_bipush_m4 rfl ?_
      refine g_iast (pc2 := 54) (by rfl) (by omega) (by decide) dX7_take_53 rfl ?_
      refine g_il2 (pc2 := 55) dX7_take_54 rfl ?_
      exact g_iretT dX7_take_55 rfl (Nat.le_refl _) (Nat.le_refl _) (by simp [F_take, hok, t1, h26]) (by simp [hok, t1, h26])
    · refine g_bipush (pc2 := 31) dX7_take_29 k_bipush_m2 rfl ?_
      exact g_iretT dX7_take_31 rfl (Nat.le_refl _) (Nat.le_refl _) (by simp [F_take, hok, t1, h26]) (by simp [t1, h26])
  · refine g_iconst (pc2 := 12) dX7_take_11 k_iconst_m1 rfl ?_
    exact g_iretT dX7_take_12 rfl (Nat.le_refl _) (Nat.le_refl _) (by simp [F_take, h8]) (by simp [h8])
theorem wishC {v x : Int32} {T : Nat} (hT : T ≤ 4) (hv : v = -4 ∨ ∃ t, t < T ∧ v = nI t) (hx : x = nI 9 ∨ ∃ t, t < T ∧ x = nI t) : (if v = -4 then nI 9 else v) = x ↔ v = (if x = nI 9 then -4 else x) := by
  rcases hv with rfl | ⟨u, hu, rfl⟩
  · rw [if_pos rfl]
    rcases hx with rfl | ⟨s, hs, rfl⟩
    · rw [if_pos rfl]; simp
    · rw [if_neg (fun e => absurd ((nI_eq (by omega) (by decide)).mp e) (by omega))]
      exact ⟨fun e => absurd ((nI_eq (by decide) (by omega)).mp e) (by omega), fun e => absurd e (m4_ne' (by omega))⟩
  · rw [if_neg (m4_ne (by omega))]
    rcases hx with rfl | ⟨s, hs, rfl⟩
    · rw [if_pos rfl]
      exact ⟨fun e => absurd ((nI_eq (by omega) (by decide)).mp e) (by omega), fun e => absurd e (m4_ne (by omega))⟩
    · rw [if_neg (fun e => absurd ((nI_eq (by omega) (by decide)).mp e) (by omega))]
theorem R_c_wish (l : lt_L) (d : Nat) (t : lt_H) (σ : lt_S) {w : Nat → Int32} {ln T N nx c : Nat} (hc : CC σ w ln T N) (hk : KP σ nx c) (i x : Int32) : lt_T l (d + 3) mX7_wish (lt_SC ++ t) σ [.ref 10, .int i, .int x] (some (F_wish w i x)) (if ok_wish w i x && !decide (w (16 + 7 * tN i + 4) = (if x = nI 9 then -4 else x)) then lt_up (S_ckeep σ nx c) 21 (tN i) x else σ) := by
  refine lt_T.of [some (.ref 10), some (.int i), some (.int x), none] rfl rfl (Nat.le_of_ble_eq_true rfl) ?_
  have hw := hc.1
  have hN := hw.2.2.1
  have hT := hw.2.1
  have e2 : σ 13 2 = w 2 := hc.2.1.1.2.2.1
  have e1 : σ 13 1 = w 1 := hc.2.1.1.2.1
  generalize hr : some (F_wish w i x) = r
  generalize hs : (if ok_wish w i x && !decide (w (16 + 7 * tN i + 4) = (if x = nI 9 then -4 else x)) then lt_up (S_ckeep σ nx c) 21 (tN i) x else σ) = s2
  have fin : hasB i (w 2) = true → ok_wish w i x = true → (x = nI 9 ∨ ∃ t, t < T ∧ x = nI t) → lt_g l (d + 3) mX7_wish (lt_SC ++ t) σ 30 [some (.ref 10), some (.int i), some (.int x), none] [] r s2 := by
    intro hb hok hx
    rw [hN.1] at hb
    obtain ⟨i, hi, rfl⟩ := hasB_ix (by omega) hb
    have t1 := tN_nI (show i < 2 ^ 31 by omega)
    have e21 : σ 21 i = if w (16 + 7 * i + 4) = -4 then nI 9 else w (16 + 7 * i + 4) := (hc.2.2.1 i hi).2.2.1
    have hwc := wishC hT.2.2 (hw.2.2.2.2 i hi).2.2.2.1 hx
    subst hr
    subst hs
    simp only [F_wish, hok, t1]
    by_cases hv : w (16 + 7 * i + 4) = (if x = nI 9 then -4 else x)
    · refine g_al0 (pc2 := 31) dX7_wish_30 rfl ?_
      refine g_getr (pc2 := 34) (by rfl) (by rfl) flX7_26 dX7_wish_31 rfl ?_
      refine g_getr (pc2 := 37) (by rfl) (by rfl) flX7_138 dX7_wish_34 rfl ?_
      refine g_il1 (pc2 := 38) dX7_wish_37 rfl ?_
      refine g_iald (pc2 := 39) (by rfl) (by omega) (by decide) dX7_wish_38 rfl ?_
      rw [e21]
      refine g_is3 (pc2 := 40) dX7_wish_39 (by decide) rfl ?_
      refine g_il3 (pc2 := 41) dX7_wish_40 rfl ?_
      refine g_il2 (pc2 := 42) dX7_wish_41 rfl ?_
      refine g_icmp_ne 48 45 dX7_wish_42 rfl rfl (fun h42 => ?_) (fun h42 => ?_)
      · exact absurd (hwc.mpr hv) h42
      · refine g_bipush (pc2 := 47) dX7_wish_45 k_bipush_m2 rfl ?_
        exact g_iretT dX7_wish_47 rfl (Nat.le_refl _) (Nat.le_refl _) (by simp only [if_pos hv, if_true]) (by simp [hv])
    · refine g_al0 (pc2 := 31) dX7_wish_30 rfl ?_
      refine g_getr (pc2 := 34) (by rfl) (by rfl) flX7_26 dX7_wish_31 rfl ?_
      refine g_getr (pc2 := 37) (by rfl) (by rfl) flX7_138 dX7_wish_34 rfl ?_
      refine g_il1 (pc2 := 38) dX7_wish_37 rfl ?_
      refine g_iald (pc2 := 39) (by rfl) (by omega) (by decide) dX7_wish_38 rfl ?_
      rw [e21]
      refine g_is3 (pc2 := 40) dX7_wish_39 (by decide) rfl ?_
      refine g_il3 (pc2 := 41) dX7_wish_40 rfl ?_
      refine g_il2 (pc2 := 42) dX7_wish_41 rfl ?_
      refine g_icmp_ne 48 45 dX7_wish_42 rfl rfl (fun h42 => ?_) (fun h42 => ?_)
      · refine g_al0 (pc2 := 49) dX7_wish_48 rfl ?_
        refine g_getr (pc2 := 52) (by rfl) (by rfl) flX7_63 dX7_wish_49 rfl ?_
        refine g_al0 (pc2 := 53) dX7_wish_52 rfl ?_
        refine g_getr (pc2 := 56) (by rfl) (by rfl) flX7_26 dX7_wish_53 rfl ?_
        refine g_cVv (pc2 := 59) (R_c_keep l d _ _ hk) meX1_keep mlX7_163 (by rfl) ⟨_, rfl, rfl⟩ rfl rfl (by simp) ⟨Nat.le_refl _, Nat.le_refl _⟩ dX7_wish_56 rfl ?_
        refine g_al0 (pc2 := 60) dX7_wish_59 rfl ?_
        refine g_getr (pc2 := 63) (by rfl) (by rfl) flX7_26 dX7_wish_60 rfl ?_
        refine g_getr (pc2 := 66) (by rfl) (by rfl) flX7_138 dX7_wish_63 rfl ?_
        refine g_il1 (pc2 := 67) dX7_wish_66 rfl ?_
        refine g_il2 (pc2 := 68) dX7_wish_67 rfl ?_
        refine g_iast (pc2 := 69) (by rfl) (by omega) (by decide) dX7_wish_68 rfl ?_
        refine g_il3 (pc2 := 70) dX7_wish_69 rfl ?_
        exact g_iretT dX7_wish_70 rfl (Nat.le_refl _) (Nat.le_refl _) (by simp only [if_neg hv, if_true]) (by simp [hv])
      · exact absurd (hwc.mp h42) hv
  refine g_al0 (pc2 := 1) dX7_wish_0 rfl ?_
  refine g_getr (pc2 := 4) (by rfl) (by rfl) flX7_19 dX7_wish_1 rfl ?_
  refine g_il1 (pc2 := 5) dX7_wish_4 rfl ?_
  refine g_cVi (pc2 := 8) (R_c_hasTrain13 l (d + 1) _ _ _) meX6_hasTrain mlX7_122 (by rfl) ⟨_, rfl, rfl⟩ rfl rfl (by simp) ⟨Nat.le_refl _, Nat.le_refl _⟩ dX7_wish_5 rfl ?_
  rw [e2]
  refine g_if_eqB 28 11 dX7_wish_8 rfl rfl (fun h8 => ?_) (fun h8 => ?_)
  · subst hr
    subst hs
    refine g_iconst (pc2 := 29) dX7_wish_28 k_iconst_m1 rfl ?_
    exact g_iretT dX7_wish_29 rfl (Nat.le_refl _) (Nat.le_refl _) (by first | (simp [F_wish, ok_wish, h8]; done) | (simp [F_wish, ok_wish, h14, h25]; done)) (by first | (simp [ok_wish, h8]; done) | (simp [ok_wish, h14, h25]; done))
  · refine g_il2 (pc2 := 12) dX7_wish_11 rfl ?_
    refine g_bipush (pc2 := 14) dX7_wish_12 k_bipush_9 rfl ?_
    refine g_icmp_eq 30 17 dX7_wish_14 rfl rfl (fun h14 => ?_) (fun h14 => ?_)
    · first | exact fin h8 (by simp [ok_wish, h8, h14]) (Or.inl h14) | exact fin h8 (by simp [ok_wish, h8, h25]) (Or.inr (hasB_ix (by omega) (by rw [← hT.1]; exact h25)))
    · refine g_al0 (pc2 := 18) dX7_wish_17 rfl ?_
      refine g_getr (pc2 := 21) (by rfl) (by rfl) flX7_19 dX7_wish_18 rfl ?_
      refine g_il2 (pc2 := 22) dX7_wish_21 rfl ?_
      refine g_cVi (pc2 := 25) (R_c_hasTrack13 l (d + 1) _ _ _) meX6_hasTrack mlX7_115 (by rfl) ⟨_, rfl, rfl⟩ rfl rfl (by simp) ⟨Nat.le_refl _, Nat.le_refl _⟩ dX7_wish_22 rfl ?_
      rw [e1]
      refine g_if_neB 30 28 dX7_wish_25 rfl rfl (fun h25 => ?_) (fun h25 => ?_)
      · first | exact fin h8 (by simp [ok_wish, h8, h14]) (Or.inl h14) | exact fin h8 (by simp [ok_wish, h8, h25]) (Or.inr (hasB_ix (by omega) (by rw [← hT.1]; exact h25)))
      · subst hr
        subst hs
        refine g_iconst (pc2 := 29) dX7_wish_28 k_iconst_m1 rfl ?_
        exact g_iretT dX7_wish_29 rfl (Nat.le_refl _) (Nat.le_refl _) (by first | (simp [F_wish, ok_wish, h8]; done) | (simp [F_wish, ok_wish, h14, h25]; done)) (by first | (simp [ok_wish, h8]; done) | (simp [ok_wish, h14, h25]; done))
