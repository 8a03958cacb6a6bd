/-! constructors -/
theorem P_at {pre r : lt_H} {o : lt_C} {a : Nat} (ha : 10 + pre.length = a) : lt_at (pre ++ o :: r) a = some o := by
  unfold lt_at
  rw [if_neg (by omega), show a - 10 = pre.length by omega, List.getElem?_append_right (Nat.le_refl _), Nat.sub_self]
  rfl
theorem P_set {pre r : lt_H} {o : lt_C} {a : Nat} (ha : 10 + pre.length = a) (o' : lt_C) : (pre ++ o :: r).set (a - 10) o' = pre ++ o' :: r := by
  rw [show a - 10 = pre.length by omega, List.set_append_right _ _ (Nat.le_refl _), Nat.sub_self]
  rfl
theorem P_app (pre r : lt_H) (o c : lt_C) : (pre ++ o :: r) ++ [c] = pre ++ o :: (r ++ [c]) := by simp
theorem P_nx {pre r : lt_H} {o : lt_C} {b : Nat} (hb : 10 + (pre ++ o :: r).length = b) (o' c : lt_C) : 10 + (pre ++ o' :: (r ++ [c])).length = b + 1 := by
  simp only [List.length_append, List.length_cons, List.length_nil] at hb ⊢
  omega
theorem R_i_text (l : lt_L) (d : Nat) (pre mid : lt_H) (σ : lt_S) {a b : Nat} (ha : 10 + pre.length = a) (hb : 10 + (pre ++ .inr (.inr (5, [some .null, none])) :: mid).length = b) : lt_R l (d + 1) 1 200 mX5_init (pre ++ .inr (.inr (5, [some .null, none])) :: mid) σ [.ref a] (fun r sh' σ' => r = none ∧ sh' = pre ++ .inr (.inr (5, [some (.ref b), none])) :: (mid ++ [.inl (1, 200)]) ∧ (∀ x, x ≠ a → x < b → σ' x = σ x) ∧ σ' a 1 = nI 0) := by
  refine lt_R.of [some (.ref a)] rfl rfl (Nat.le_of_ble_eq_true rfl) ?_
  have hab : a < b := by rw [← ha, ← hb]; simp only [List.length_append, List.length_cons]; omega
  refine g_al0 (pc2 := 1) dX5_init_0 rfl ?_
  refine g_objInit (pc2 := 4) mlX5_3 oi_1 oi_2 (by simp) (by omega) dX5_init_1 rfl ?_
  refine g_al0 (pc2 := 5) dX5_init_4 rfl ?_
  refine g_sipush (pc2 := 8) dX5_init_5 k_sipush_200 rfl ?_
  refine g_newa (n := 0) (idx := 0) (t := 1) (pc2 := 10) rfl (by decide) rfl rfl ar_char (by decide) (by decide) ⟨Nat.le_of_ble_eq_true rfl, Nat.le_of_ble_eq_true rfl⟩ dX5_init_8 rfl ?_
  rw [hb, P_app]
  refine g_putr (pc2 := 13) (pre ++ .inr (.inr (5, [some (.ref b), none])) :: (mid ++ [.inl (1, 200)])) (P_at ha) (Nat.le_of_ble_eq_true rfl) flX5_9 fpX5_0 (fun _ => rfl) (fun _ => rfl) rfl rfl (P_set ha _) dX5_init_10 rfl ?_
  have hb1 := P_nx hb (.inr (.inr (5, [some (.ref b), none]))) (.inl (1, 200))
  refine g_al0 (pc2 := 14) dX5_init_13 rfl ?_
  refine g_iconst (pc2 := 15) dX5_init_14 k_iconst_0 rfl ?_
  refine g_puti (pc2 := 18) (P_at ha) rfl flX5_15 (fpX5_1 _) (fun h => by first | cases h | rfl) dX5_init_15 rfl ?_
  exact g_ret dX5_init_18 rfl (Nat.le_of_ble_eq_true rfl) (Nat.le_of_ble_eq_true rfl) ⟨rfl, rfl, fun x h1 h2 => by rw [lt_up_nr _ _ _ h1, lt_ur_ne _ _ (by omega)], lt_up_at _ _ _ _⟩
theorem R_i_yard (l : lt_L) (d : Nat) (pre mid : lt_H) (σ : lt_S) {a b : Nat} (ha : 10 + pre.length = a) (hb : 10 + (pre ++ .inr (.inr (6, [none, none, none, none, some .null, some .null, some .null, some .null])) :: mid).length = b) : lt_R l (d + 1) 4 33 mX6_init (pre ++ .inr (.inr (6, [none, none, none, none, some .null, some .null, some .null, some .null])) :: mid) σ [.ref a] (fun r sh' σ' => r = none ∧ sh' = pre ++ .inr (.inr (6, [none, none, none, none, some (.ref b), some (.ref (b + 1)), some (.ref (b + 2)), some (.ref (b + 3))])) :: (mid ++ [.inl (0, 12)] ++ [.inl (0, 7)] ++ [.inl (0, 7)] ++ [.inl (0, 7)]) ∧ (∀ x, x ≠ a → x < b → σ' x = σ x)) := by
  refine lt_R.of [some (.ref a)] rfl rfl (Nat.le_of_ble_eq_true rfl) ?_
  have hab : a < b := by rw [← ha, ← hb]; simp only [List.length_append, List.length_cons]; omega
  refine g_al0 (pc2 := 1) dX6_init_0 rfl ?_
  refine g_objInit (pc2 := 4) mlX6_3 oi_1 oi_2 (by simp) (by omega) dX6_init_1 rfl ?_
  refine g_al0 (pc2 := 5) dX6_init_4 rfl ?_
  refine g_iconst (pc2 := 6) dX6_init_5 k_iconst_0 rfl ?_
  refine g_puti (pc2 := 9) (P_at ha) rfl flX6_9 (fpX6_0 _) (fun h => by first | cases h | rfl) dX6_init_6 rfl ?_
  refine g_al0 (pc2 := 10) dX6_init_9 rfl ?_
  refine g_iconst (pc2 := 11) dX6_init_10 k_iconst_0 rfl ?_
  refine g_puti (pc2 := 14) (P_at ha) rfl flX6_15 (fpX6_1 _) (fun h => by first | cases h | rfl) dX6_init_11 rfl ?_
  refine g_al0 (pc2 := 15) dX6_init_14 rfl ?_
  refine g_iconst (pc2 := 16) dX6_init_15 k_iconst_0 rfl ?_
  refine g_puti (pc2 := 19) (P_at ha) rfl flX6_18 (fpX6_2 _) (fun h => by first | cases h | rfl) dX6_init_16 rfl ?_
  refine g_al0 (pc2 := 20) dX6_init_19 rfl ?_
  refine g_iconst (pc2 := 21) dX6_init_20 k_iconst_1 rfl ?_
  refine g_puti (pc2 := 24) (P_at ha) rfl flX6_21 (fpX6_3 _) (fun h => by first | cases h | rfl) dX6_init_21 rfl ?_
  refine g_al0 (pc2 := 25) dX6_init_24 rfl ?_
  refine g_bipush (pc2 := 27) dX6_init_25 k_bipush_12 rfl ?_
  refine g_newa (n := 0) (idx := 0) (t := 0) (pc2 := 29) rfl (by decide) rfl rfl ar_int (by decide) (by decide) ⟨Nat.le_of_ble_eq_true rfl, Nat.le_of_ble_eq_true rfl⟩ dX6_init_27 rfl ?_
  rw [hb, P_app]
  refine g_putr (pc2 := 32) (pre ++ .inr (.inr (6, [none, none, none, none, some (.ref b), some .null, some .null, some .null])) :: (mid ++ [.inl (0, 12)])) (P_at ha) (Nat.le_of_ble_eq_true rfl) flX6_24 fpX6_4 (fun _ => rfl) (fun _ => rfl) rfl rfl (P_set ha _) dX6_init_29 rfl ?_
  have hb1 := P_nx hb (.inr (.inr (6, [none, none, none, none, some (.ref b), some .null, some .null, some .null]))) (.inl (0, 12))
  refine g_al0 (pc2 := 33) dX6_init_32 rfl ?_
  refine g_bipush (pc2 := 35) dX6_init_33 k_bipush_7 rfl ?_
  refine g_newa (n := 0) (idx := 0) (t := 0) (pc2 := 37) rfl (by decide) rfl rfl ar_int (by decide) (by decide) ⟨Nat.le_of_ble_eq_true rfl, Nat.le_of_ble_eq_true rfl⟩ dX6_init_35 rfl ?_
  rw [hb1, P_app]
  refine g_putr (pc2 := 40) (pre ++ .inr (.inr (6, [none, none, none, none, some (.ref b), some (.ref (b + 1)), some .null, some .null])) :: (mid ++ [.inl (0, 12)] ++ [.inl (0, 7)])) (P_at ha) (Nat.le_of_ble_eq_true rfl) flX6_28 fpX6_5 (fun _ => rfl) (fun _ => rfl) rfl rfl (P_set ha _) dX6_init_37 rfl ?_
  have hb2 := P_nx hb1 (.inr (.inr (6, [none, none, none, none, some (.ref b), some (.ref (b + 1)), some .null, some .null]))) (.inl (0, 7))
  refine g_al0 (pc2 := 41) dX6_init_40 rfl ?_
  refine g_bipush (pc2 := 43) dX6_init_41 k_bipush_7 rfl ?_
  refine g_newa (n := 0) (idx := 0) (t := 0) (pc2 := 45) rfl (by decide) rfl rfl ar_int (by decide) (by decide) ⟨Nat.le_of_ble_eq_true rfl, Nat.le_of_ble_eq_true rfl⟩ dX6_init_43 rfl ?_
  rw [hb2, P_app]
  refine g_putr (pc2 := 48) (pre ++ .inr (.inr (6, [none, none, none, none, some (.ref b), some (.ref (b + 1)), some (.ref (b + 2)), some .null])) :: (mid ++ [.inl (0, 12)] ++ [.inl (0, 7)] ++ [.inl (0, 7)])) (P_at ha) (Nat.le_of_ble_eq_true rfl) flX6_31 fpX6_6 (fun _ => rfl) (fun _ => rfl) rfl rfl (P_set ha _) dX6_init_45 rfl ?_
  have hb3 := P_nx hb2 (.inr (.inr (6, [none, none, none, none, some (.ref b), some (.ref (b + 1)), some (.ref (b + 2)), some .null]))) (.inl (0, 7))
  refine g_al0 (pc2 := 49) dX6_init_48 rfl ?_
  refine g_bipush (pc2 := 51) dX6_init_49 k_bipush_7 rfl ?_
  refine g_newa (n := 0) (idx := 0) (t := 0) (pc2 := 53) rfl (by decide) rfl rfl ar_int (by decide) (by decide) ⟨Nat.le_of_ble_eq_true rfl, Nat.le_of_ble_eq_true rfl⟩ dX6_init_51 rfl ?_
  rw [hb3, P_app]
  refine g_putr (pc2 := 56) (pre ++ .inr (.inr (6, [none, none, none, none, some (.ref b), some (.ref (b + 1)), some (.ref (b + 2)), some (.ref (b + 3))])) :: (mid ++ [.inl (0, 12)] ++ [.inl (0, 7)] ++ [.inl (0, 7)] ++ [.inl (0, 7)])) (P_at ha) (Nat.le_of_ble_eq_true rfl) flX6_34 fpX6_7 (fun _ => rfl) (fun _ => rfl) rfl rfl (P_set ha _) dX6_init_53 rfl ?_
  have hb4 := P_nx hb3 (.inr (.inr (6, [none, none, none, none, some (.ref b), some (.ref (b + 1)), some (.ref (b + 2)), some (.ref (b + 3))]))) (.inl (0, 7))
  exact g_ret dX6_init_56 rfl (Nat.le_of_ble_eq_true rfl) (Nat.le_of_ble_eq_true rfl) ⟨rfl, rfl, fun x h1 h2 => by rw [lt_ur_ne _ _ (by omega), lt_ur_ne _ _ (by omega), lt_ur_ne _ _ (by omega), lt_ur_ne _ _ (by omega), lt_up_nr _ _ _ h1, lt_up_nr _ _ _ h1, lt_up_nr _ _ _ h1, lt_up_nr _ _ _ h1]⟩
theorem R_i_plan (l : lt_L) (d : Nat) (pre mid : lt_H) (σ : lt_S) {a b : Nat} (ha : 10 + pre.length = a) (hb : 10 + (pre ++ .inr (.inr (2, [some .null, some .null, some .null, some .null])) :: mid).length = b) : lt_R l (d + 1) 4 28 mX2_init (pre ++ .inr (.inr (2, [some .null, some .null, some .null, some .null])) :: mid) σ [.ref a] (fun r sh' σ' => r = none ∧ sh' = pre ++ .inr (.inr (2, [some (.ref b), some (.ref (b + 1)), some (.ref (b + 2)), some (.ref (b + 3))])) :: (mid ++ [.inl (0, 7)] ++ [.inl (0, 7)] ++ [.inl (0, 7)] ++ [.inl (0, 7)]) ∧ (∀ x, x ≠ a → x < b → σ' x = σ x)) := by
  refine lt_R.of [some (.ref a)] rfl rfl (Nat.le_of_ble_eq_true rfl) ?_
  have hab : a < b := by rw [← ha, ← hb]; simp only [List.length_append, List.length_cons]; omega
  refine g_al0 (pc2 := 1) dX2_init_0 rfl ?_
  refine g_objInit (pc2 := 4) mlX2_3 oi_1 oi_2 (by simp) (by omega) dX2_init_1 rfl ?_
  refine g_al0 (pc2 := 5) dX2_init_4 rfl ?_
  refine g_bipush (pc2 := 7) dX2_init_5 k_bipush_7 rfl ?_
  refine g_newa (n := 0) (idx := 0) (t := 0) (pc2 := 9) rfl (by decide) rfl rfl ar_int (by decide) (by decide) ⟨Nat.le_of_ble_eq_true rfl, Nat.le_of_ble_eq_true rfl⟩ dX2_init_7 rfl ?_
  rw [hb, P_app]
  refine g_putr (pc2 := 12) (pre ++ .inr (.inr (2, [some (.ref b), some .null, some .null, some .null])) :: (mid ++ [.inl (0, 7)])) (P_at ha) (Nat.le_of_ble_eq_true rfl) flX2_9 fpX2_0 (fun _ => rfl) (fun _ => rfl) rfl rfl (P_set ha _) dX2_init_9 rfl ?_
  have hb1 := P_nx hb (.inr (.inr (2, [some (.ref b), some .null, some .null, some .null]))) (.inl (0, 7))
  refine g_al0 (pc2 := 13) dX2_init_12 rfl ?_
  refine g_bipush (pc2 := 15) dX2_init_13 k_bipush_7 rfl ?_
  refine g_newa (n := 0) (idx := 0) (t := 0) (pc2 := 17) rfl (by decide) rfl rfl ar_int (by decide) (by decide) ⟨Nat.le_of_ble_eq_true rfl, Nat.le_of_ble_eq_true rfl⟩ dX2_init_15 rfl ?_
  rw [hb1, P_app]
  refine g_putr (pc2 := 20) (pre ++ .inr (.inr (2, [some (.ref b), some (.ref (b + 1)), some .null, some .null])) :: (mid ++ [.inl (0, 7)] ++ [.inl (0, 7)])) (P_at ha) (Nat.le_of_ble_eq_true rfl) flX2_15 fpX2_1 (fun _ => rfl) (fun _ => rfl) rfl rfl (P_set ha _) dX2_init_17 rfl ?_
  have hb2 := P_nx hb1 (.inr (.inr (2, [some (.ref b), some (.ref (b + 1)), some .null, some .null]))) (.inl (0, 7))
  refine g_al0 (pc2 := 21) dX2_init_20 rfl ?_
  refine g_bipush (pc2 := 23) dX2_init_21 k_bipush_7 rfl ?_
  refine g_newa (n := 0) (idx := 0) (t := 0) (pc2 := 25) rfl (by decide) rfl rfl ar_int (by decide) (by decide) ⟨Nat.le_of_ble_eq_true rfl, Nat.le_of_ble_eq_true rfl⟩ dX2_init_23 rfl ?_
  rw [hb2, P_app]
  refine g_putr (pc2 := 28) (pre ++ .inr (.inr (2, [some (.ref b), some (.ref (b + 1)), some (.ref (b + 2)), some .null])) :: (mid ++ [.inl (0, 7)] ++ [.inl (0, 7)] ++ [.inl (0, 7)])) (P_at ha) (Nat.le_of_ble_eq_true rfl) flX2_18 fpX2_2 (fun _ => rfl) (fun _ => rfl) rfl rfl (P_set ha _) dX2_init_25 rfl ?_
  have hb3 := P_nx hb2 (.inr (.inr (2, [some (.ref b), some (.ref (b + 1)), some (.ref (b + 2)), some .null]))) (.inl (0, 7))
  refine g_al0 (pc2 := 29) dX2_init_28 rfl ?_
  refine g_bipush (pc2 := 31) dX2_init_29 k_bipush_7 rfl ?_
  refine g_newa (n := 0) (idx := 0) (t := 0) (pc2 := 33) rfl (by decide) rfl rfl ar_int (by decide) (by decide) ⟨Nat.le_of_ble_eq_true rfl, Nat.le_of_ble_eq_true rfl⟩ dX2_init_31 rfl ?_
  rw [hb3, P_app]
  refine g_putr (pc2 := 36) (pre ++ .inr (.inr (2, [some (.ref b), some (.ref (b + 1)), some (.ref (b + 2)), some (.ref (b + 3))])) :: (mid ++ [.inl (0, 7)] ++ [.inl (0, 7)] ++ [.inl (0, 7)] ++ [.inl (0, 7)])) (P_at ha) (Nat.le_of_ble_eq_true rfl) flX2_21 fpX2_3 (fun _ => rfl) (fun _ => rfl) rfl rfl (P_set ha _) dX2_init_33 rfl ?_
  have hb4 := P_nx hb3 (.inr (.inr (2, [some (.ref b), some (.ref (b + 1)), some (.ref (b + 2)), some (.ref (b + 3))]))) (.inl (0, 7))
  exact g_ret dX2_init_36 rfl (Nat.le_of_ble_eq_true rfl) (Nat.le_of_ble_eq_true rfl) ⟨rfl, rfl, fun x h1 h2 => by rw [lt_ur_ne _ _ (by omega), lt_ur_ne _ _ (by omega), lt_ur_ne _ _ (by omega), lt_ur_ne _ _ (by omega)]⟩
theorem R_i_reader (l : lt_L) (d : Nat) (pre mid : lt_H) (σ : lt_S) {a b p1 p2 p3 : Nat} (ha : 10 + pre.length = a) (hb : 10 + (pre ++ .inr (.inr (3, [some .null, some .null, some .null, some .null, none])) :: mid).length = b) : lt_R l (d + 1) 1 6 mX3_init (pre ++ .inr (.inr (3, [some .null, some .null, some .null, some .null, none])) :: mid) σ [.ref a, .ref p1, .ref p2, .ref p3] (fun r sh' σ' => r = none ∧ sh' = pre ++ .inr (.inr (3, [some (.ref p1), some (.ref p2), some (.ref p3), some (.ref b), none])) :: (mid ++ [.inl (0, 6)]) ∧ (∀ x, x ≠ a → x < b → σ' x = σ x)) := by
  refine lt_R.of [some (.ref a), some (.ref p1), some (.ref p2), some (.ref p3)] rfl rfl (Nat.le_of_ble_eq_true rfl) ?_
  have hab : a < b := by rw [← ha, ← hb]; simp only [List.length_append, List.length_cons]; omega
  refine g_al0 (pc2 := 1) dX3_init_0 rfl ?_
  refine g_objInit (pc2 := 4) mlX3_3 oi_1 oi_2 (by simp) (by omega) dX3_init_1 rfl ?_
  refine g_al0 (pc2 := 5) dX3_init_4 rfl ?_
  refine g_bipush (pc2 := 7) dX3_init_5 k_bipush_6 rfl ?_
  refine g_newa (n := 0) (idx := 0) (t := 0) (pc2 := 9) rfl (by decide) rfl rfl ar_int (by decide) (by decide) ⟨Nat.le_of_ble_eq_true rfl, Nat.le_of_ble_eq_true rfl⟩ dX3_init_7 rfl ?_
  rw [hb, P_app]
  refine g_putr (pc2 := 12) (pre ++ .inr (.inr (3, [some .null, some .null, some .null, some (.ref b), none])) :: (mid ++ [.inl (0, 6)])) (P_at ha) (Nat.le_of_ble_eq_true rfl) flX3_11 fpX3_3 (fun _ => rfl) (fun _ => rfl) rfl rfl (P_set ha _) dX3_init_9 rfl ?_
  have hb1 := P_nx hb (.inr (.inr (3, [some .null, some .null, some .null, some (.ref b), none]))) (.inl (0, 6))
  refine g_al0 (pc2 := 13) dX3_init_12 rfl ?_
  refine g_iconst (pc2 := 14) dX3_init_13 k_iconst_0 rfl ?_
  refine g_puti (pc2 := 17) (P_at ha) rfl flX3_15 (fpX3_4 _) (fun h => by first | cases h | rfl) dX3_init_14 rfl ?_
  refine g_al0 (pc2 := 18) dX3_init_17 rfl ?_
  refine g_al1 (pc2 := 19) dX3_init_18 rfl ?_
  refine g_putr (pc2 := 22) (pre ++ .inr (.inr (3, [some (.ref p1), some .null, some .null, some (.ref b), none])) :: (mid ++ [.inl (0, 6)])) (P_at ha) (Nat.le_of_ble_eq_true rfl) flX3_19 fpX3_0 (fun _ => rfl) (fun _ => rfl) rfl rfl (P_set ha _) dX3_init_19 rfl ?_
  refine g_al0 (pc2 := 23) dX3_init_22 rfl ?_
  refine g_al2 (pc2 := 24) dX3_init_23 rfl ?_
  refine g_putr (pc2 := 27) (pre ++ .inr (.inr (3, [some (.ref p1), some (.ref p2), some .null, some (.ref b), none])) :: (mid ++ [.inl (0, 6)])) (P_at ha) (Nat.le_of_ble_eq_true rfl) flX3_23 fpX3_1 (fun _ => rfl) (fun _ => rfl) rfl rfl (P_set ha _) dX3_init_24 rfl ?_
  refine g_al0 (pc2 := 28) dX3_init_27 rfl ?_
  refine g_al3 (pc2 := 29) dX3_init_28 rfl ?_
  refine g_putr (pc2 := 32) (pre ++ .inr (.inr (3, [some (.ref p1), some (.ref p2), some (.ref p3), some (.ref b), none])) :: (mid ++ [.inl (0, 6)])) (P_at ha) (Nat.le_of_ble_eq_true rfl) flX3_27 fpX3_2 (fun _ => rfl) (fun _ => rfl) rfl rfl (P_set ha _) dX3_init_29 rfl ?_
  exact g_ret dX3_init_32 rfl (Nat.le_of_ble_eq_true rfl) (Nat.le_of_ble_eq_true rfl) ⟨rfl, rfl, fun x h1 h2 => by rw [lt_up_nr _ _ _ h1, lt_ur_ne _ _ (by omega)]⟩
theorem R_i_clashes (l : lt_L) (d : Nat) (pre mid : lt_H) (σ : lt_S) {a b p1 p2 : Nat} (ha : 10 + pre.length = a) (hb : 10 + (pre ++ .inr (.inr (0, [some .null, some .null, some .null])) :: mid).length = b) : lt_R l (d + 1) 1 28 mX0_init (pre ++ .inr (.inr (0, [some .null, some .null, some .null])) :: mid) σ [.ref a, .ref p1, .ref p2] (fun r sh' σ' => r = none ∧ sh' = pre ++ .inr (.inr (0, [some (.ref p1), some (.ref p2), some (.ref b)])) :: (mid ++ [.inl (0, 28)]) ∧ (∀ x, x ≠ a → x < b → σ' x = σ x)) := by
  refine lt_R.of [some (.ref a), some (.ref p1), some (.ref p2)] rfl rfl (Nat.le_of_ble_eq_true rfl) ?_
  have hab : a < b := by rw [← ha, ← hb]; simp only [List.length_append, List.length_cons]; omega
  refine g_al0 (pc2 := 1) dX0_init_0 rfl ?_
  refine g_objInit (pc2 := 4) mlX0_3 oi_1 oi_2 (by simp) (by omega) dX0_init_1 rfl ?_
  refine g_al0 (pc2 := 5) dX0_init_4 rfl ?_
  refine g_bipush (pc2 := 7) dX0_init_5 k_bipush_28 rfl ?_
  refine g_newa (n := 0) (idx := 0) (t := 0) (pc2 := 9) rfl (by decide) rfl rfl ar_int (by decide) (by decide) ⟨Nat.le_of_ble_eq_true rfl, Nat.le_of_ble_eq_true rfl⟩ dX0_init_7 rfl ?_
  rw [hb, P_app]
  refine g_putr (pc2 := 12) (pre ++ .inr (.inr (0, [some .null, some .null, some (.ref b)])) :: (mid ++ [.inl (0, 28)])) (P_at ha) (Nat.le_of_ble_eq_true rfl) flX0_9 fpX0_2 (fun _ => rfl) (fun _ => rfl) rfl rfl (P_set ha _) dX0_init_9 rfl ?_
  have hb1 := P_nx hb (.inr (.inr (0, [some .null, some .null, some (.ref b)]))) (.inl (0, 28))
  refine g_al0 (pc2 := 13) dX0_init_12 rfl ?_
  refine g_al1 (pc2 := 14) dX0_init_13 rfl ?_
  refine g_putr (pc2 := 17) (pre ++ .inr (.inr (0, [some (.ref p1), some .null, some (.ref b)])) :: (mid ++ [.inl (0, 28)])) (P_at ha) (Nat.le_of_ble_eq_true rfl) flX0_15 fpX0_0 (fun _ => rfl) (fun _ => rfl) rfl rfl (P_set ha _) dX0_init_14 rfl ?_
  refine g_al0 (pc2 := 18) dX0_init_17 rfl ?_
  refine g_al2 (pc2 := 19) dX0_init_18 rfl ?_
  refine g_putr (pc2 := 22) (pre ++ .inr (.inr (0, [some (.ref p1), some (.ref p2), some (.ref b)])) :: (mid ++ [.inl (0, 28)])) (P_at ha) (Nat.le_of_ble_eq_true rfl) flX0_19 fpX0_1 (fun _ => rfl) (fun _ => rfl) rfl rfl (P_set ha _) dX0_init_19 rfl ?_
  exact g_ret dX0_init_22 rfl (Nat.le_of_ble_eq_true rfl) (Nat.le_of_ble_eq_true rfl) ⟨rfl, rfl, fun x h1 h2 => by rw [lt_ur_ne _ _ (by omega)]⟩
theorem R_i_search (l : lt_L) (d : Nat) (pre mid : lt_H) (σ : lt_S) {a b p1 p2 p3 : Nat} (ha : 10 + pre.length = a) (hb : 10 + (pre ++ .inr (.inr (4, [some .null, some .null, some .null, some .null, some .null, some .null, some .null, none])) :: mid).length = b) : lt_R l (d + 1) 4 57 mX4_init (pre ++ .inr (.inr (4, [some .null, some .null, some .null, some .null, some .null, some .null, some .null, none])) :: mid) σ [.ref a, .ref p1, .ref p2, .ref p3] (fun r sh' σ' => r = none ∧ sh' = pre ++ .inr (.inr (4, [some (.ref p1), some (.ref p2), some (.ref p3), some (.ref b), some (.ref (b + 1)), some (.ref (b + 2)), some (.ref (b + 3)), none])) :: (mid ++ [.inl (0, 35)] ++ [.inl (0, 8)] ++ [.inl (0, 7)] ++ [.inl (0, 7)]) ∧ (∀ x, x ≠ a → x < b → σ' x = σ x)) := by
  refine lt_R.of [some (.ref a), some (.ref p1), some (.ref p2), some (.ref p3)] rfl rfl (Nat.le_of_ble_eq_true rfl) ?_
  have hab : a < b := by rw [← ha, ← hb]; simp only [List.length_append, List.length_cons]; omega
  refine g_al0 (pc2 := 1) dX4_init_0 rfl ?_
  refine g_objInit (pc2 := 4) mlX4_3 oi_1 oi_2 (by simp) (by omega) dX4_init_1 rfl ?_
  refine g_al0 (pc2 := 5) dX4_init_4 rfl ?_
  refine g_bipush (pc2 := 7) dX4_init_5 k_bipush_35 rfl ?_
  refine g_newa (n := 0) (idx := 0) (t := 0) (pc2 := 9) rfl (by decide) rfl rfl ar_int (by decide) (by decide) ⟨Nat.le_of_ble_eq_true rfl, Nat.le_of_ble_eq_true rfl⟩ dX4_init_7 rfl ?_
  rw [hb, P_app]
  refine g_putr (pc2 := 12) (pre ++ .inr (.inr (4, [some .null, some .null, some .null, some (.ref b), some .null, some .null, some .null, none])) :: (mid ++ [.inl (0, 35)])) (P_at ha) (Nat.le_of_ble_eq_true rfl) flX4_11 fpX4_3 (fun _ => rfl) (fun _ => rfl) rfl rfl (P_set ha _) dX4_init_9 rfl ?_
  have hb1 := P_nx hb (.inr (.inr (4, [some .null, some .null, some .null, some (.ref b), some .null, some .null, some .null, none]))) (.inl (0, 35))
  refine g_al0 (pc2 := 13) dX4_init_12 rfl ?_
  refine g_bipush (pc2 := 15) dX4_init_13 k_bipush_8 rfl ?_
  refine g_newa (n := 0) (idx := 0) (t := 0) (pc2 := 17) rfl (by decide) rfl rfl ar_int (by decide) (by decide) ⟨Nat.le_of_ble_eq_true rfl, Nat.le_of_ble_eq_true rfl⟩ dX4_init_15 rfl ?_
  rw [hb1, P_app]
  refine g_putr (pc2 := 20) (pre ++ .inr (.inr (4, [some .null, some .null, some .null, some (.ref b), some (.ref (b + 1)), some .null, some .null, none])) :: (mid ++ [.inl (0, 35)] ++ [.inl (0, 8)])) (P_at ha) (Nat.le_of_ble_eq_true rfl) flX4_15 fpX4_4 (fun _ => rfl) (fun _ => rfl) rfl rfl (P_set ha _) dX4_init_17 rfl ?_
  have hb2 := P_nx hb1 (.inr (.inr (4, [some .null, some .null, some .null, some (.ref b), some (.ref (b + 1)), some .null, some .null, none]))) (.inl (0, 8))
  refine g_al0 (pc2 := 21) dX4_init_20 rfl ?_
  refine g_bipush (pc2 := 23) dX4_init_21 k_bipush_7 rfl ?_
  refine g_newa (n := 0) (idx := 0) (t := 0) (pc2 := 25) rfl (by decide) rfl rfl ar_int (by decide) (by decide) ⟨Nat.le_of_ble_eq_true rfl, Nat.le_of_ble_eq_true rfl⟩ dX4_init_23 rfl ?_
  rw [hb2, P_app]
  refine g_putr (pc2 := 28) (pre ++ .inr (.inr (4, [some .null, some .null, some .null, some (.ref b), some (.ref (b + 1)), some (.ref (b + 2)), some .null, none])) :: (mid ++ [.inl (0, 35)] ++ [.inl (0, 8)] ++ [.inl (0, 7)])) (P_at ha) (Nat.le_of_ble_eq_true rfl) flX4_18 fpX4_5 (fun _ => rfl) (fun _ => rfl) rfl rfl (P_set ha _) dX4_init_25 rfl ?_
  have hb3 := P_nx hb2 (.inr (.inr (4, [some .null, some .null, some .null, some (.ref b), some (.ref (b + 1)), some (.ref (b + 2)), some .null, none]))) (.inl (0, 7))
  refine g_al0 (pc2 := 29) dX4_init_28 rfl ?_
  refine g_bipush (pc2 := 31) dX4_init_29 k_bipush_7 rfl ?_
  refine g_newa (n := 0) (idx := 0) (t := 0) (pc2 := 33) rfl (by decide) rfl rfl ar_int (by decide) (by decide) ⟨Nat.le_of_ble_eq_true rfl, Nat.le_of_ble_eq_true rfl⟩ dX4_init_31 rfl ?_
  rw [hb3, P_app]
  refine g_putr (pc2 := 36) (pre ++ .inr (.inr (4, [some .null, some .null, some .null, some (.ref b), some (.ref (b + 1)), some (.ref (b + 2)), some (.ref (b + 3)), none])) :: (mid ++ [.inl (0, 35)] ++ [.inl (0, 8)] ++ [.inl (0, 7)] ++ [.inl (0, 7)])) (P_at ha) (Nat.le_of_ble_eq_true rfl) flX4_21 fpX4_6 (fun _ => rfl) (fun _ => rfl) rfl rfl (P_set ha _) dX4_init_33 rfl ?_
  have hb4 := P_nx hb3 (.inr (.inr (4, [some .null, some .null, some .null, some (.ref b), some (.ref (b + 1)), some (.ref (b + 2)), some (.ref (b + 3)), none]))) (.inl (0, 7))
  refine g_al0 (pc2 := 37) dX4_init_36 rfl ?_
  refine g_sipush (pc2 := 40) dX4_init_37 k_sipush_1000 rfl ?_
  refine g_puti (pc2 := 43) (P_at ha) rfl flX4_24 (fpX4_7 _) (fun h => by first | cases h | rfl) dX4_init_40 rfl ?_
  refine g_al0 (pc2 := 44) dX4_init_43 rfl ?_
  refine g_al1 (pc2 := 45) dX4_init_44 rfl ?_
  refine g_putr (pc2 := 48) (pre ++ .inr (.inr (4, [some (.ref p1), some .null, some .null, some (.ref b), some (.ref (b + 1)), some (.ref (b + 2)), some (.ref (b + 3)), none])) :: (mid ++ [.inl (0, 35)] ++ [.inl (0, 8)] ++ [.inl (0, 7)] ++ [.inl (0, 7)])) (P_at ha) (Nat.le_of_ble_eq_true rfl) flX4_28 fpX4_0 (fun _ => rfl) (fun _ => rfl) rfl rfl (P_set ha _) dX4_init_45 rfl ?_
  refine g_al0 (pc2 := 49) dX4_init_48 rfl ?_
  refine g_al2 (pc2 := 50) dX4_init_49 rfl ?_
  refine g_putr (pc2 := 53) (pre ++ .inr (.inr (4, [some (.ref p1), some (.ref p2), some .null, some (.ref b), some (.ref (b + 1)), some (.ref (b + 2)), some (.ref (b + 3)), none])) :: (mid ++ [.inl (0, 35)] ++ [.inl (0, 8)] ++ [.inl (0, 7)] ++ [.inl (0, 7)])) (P_at ha) (Nat.le_of_ble_eq_true rfl) flX4_32 fpX4_1 (fun _ => rfl) (fun _ => rfl) rfl rfl (P_set ha _) dX4_init_50 rfl ?_
  refine g_al0 (pc2 := 54) dX4_init_53 rfl ?_
  refine g_al3 (pc2 := 55) dX4_init_54 rfl ?_
  refine g_putr (pc2 := 58) (pre ++ .inr (.inr (4, [some (.ref p1), some (.ref p2), some (.ref p3), some (.ref b), some (.ref (b + 1)), some (.ref (b + 2)), some (.ref (b + 3)), none])) :: (mid ++ [.inl (0, 35)] ++ [.inl (0, 8)] ++ [.inl (0, 7)] ++ [.inl (0, 7)])) (P_at ha) (Nat.le_of_ble_eq_true rfl) flX4_36 fpX4_2 (fun _ => rfl) (fun _ => rfl) rfl rfl (P_set ha _) dX4_init_55 rfl ?_
  exact g_ret dX4_init_58 rfl (Nat.le_of_ble_eq_true rfl) (Nat.le_of_ble_eq_true rfl) ⟨rfl, rfl, fun x h1 h2 => by rw [lt_up_nr _ _ _ h1, lt_ur_ne _ _ (by omega), lt_ur_ne _ _ (by omega), lt_ur_ne _ _ (by omega), lt_ur_ne _ _ (by omega)]⟩
def kpL (b k : Nat) : List (Option Nat) := [if 0 < k then some (b + 1) else none, if 1 < k then some (b + 6) else none, if 2 < k then some (b + 11) else none, if 3 < k then some (b + 16) else none, if 4 < k then some (b + 21) else none, if 5 < k then some (b + 26) else none]
theorem kpL_s (b k : Nat) (hk : k < 6) : (kpL b k).set k (some (b + 1 + 5 * k)) = kpL b (k + 1) := by
  rcases (show k = 0 ∨ k = 1 ∨ k = 2 ∨ k = 3 ∨ k = 4 ∨ k = 5 by omega) with rfl | rfl | rfl | rfl | rfl | rfl <;> rfl
def plC (b : Nat) : Nat → lt_H
  | 0 => []
  | k + 1 => plC b k ++ .inr (.inr (2, [some (.ref (b + 1 + 5 * k + 1)), some (.ref (b + 1 + 5 * k + 1 + 1)), some (.ref (b + 1 + 5 * k + 1 + 2)), some (.ref (b + 1 + 5 * k + 1 + 3))])) :: ([] ++ [.inl (0, 7)] ++ [.inl (0, 7)] ++ [.inl (0, 7)] ++ [.inl (0, 7)])
theorem plC_len (b : Nat) : ∀ k, (plC b k).length = 5 * k
  | 0 => rfl
  | k + 1 => by
    simp only [plC, List.length_append, List.length_cons, List.length_nil, plC_len b k]
    omega
def oPa (b : Nat) : lt_C := .inr (.inr (1, [some (.ref b), none, none]))
def paS (pre : lt_H) (b k : Nat) : lt_H := pre ++ oPa b :: .inr (.inl (kpL b k)) :: plC b k
theorem paS_len {pre : lt_H} {a b : Nat} (ha : 10 + pre.length = a) (hab : b = a + 1) (k : Nat) : 10 + (paS pre b k).length = b + 1 + 5 * k := by
  unfold paS
  simp only [List.length_append, List.length_cons, plC_len]
  omega
theorem paS_2 (pre r : lt_H) (b k : Nat) : paS pre b k ++ r = (pre ++ [oPa b]) ++ .inr (.inl (kpL b k)) :: (plC b k ++ r) := by
  unfold paS
  simp
theorem R_i_past (l : lt_L) (d : Nat) (pre : lt_H) (σ : lt_S) {a b : Nat} (ha : 10 + pre.length = a) (hab : b = a + 1) : lt_R l (d + 2) 31 198 mX1_init (pre ++ [.inr (.inr (1, [some .null, none, none]))]) σ [.ref a] (fun r sh' σ' => r = none ∧ sh' = paS pre b 6 ∧ (∀ x, x ≠ a → x < b → σ' x = σ x) ∧ σ' a 1 = nI 0) := by
  refine lt_R.of [some (.ref a), none] rfl rfl (Nat.le_of_ble_eq_true rfl) ?_
  have hb : 10 + (pre ++ [.inr (.inr (1, [some .null, none, none]))] : lt_H).length = b := by simp only [List.length_append, List.length_cons, List.length_nil]; omega
  have ha2 : 10 + (pre ++ [oPa b]).length = b := by simp only [List.length_append, List.length_cons, List.length_nil]; omega
  refine g_al0 (pc2 := 1) dX1_init_0 rfl ?_
  refine g_objInit (pc2 := 4) mlX1_3 oi_1 oi_2 (by simp) (by omega) dX1_init_1 rfl ?_
  refine g_al0 (pc2 := 5) dX1_init_4 rfl ?_
  refine g_bipush (pc2 := 7) dX1_init_5 k_bipush_6 rfl ?_
  refine g_newq (pc2 := 10) clX1_9 (by decide) ⟨Nat.le_of_ble_eq_true rfl, Nat.le_of_ble_eq_true rfl⟩ dX1_init_7 rfl ?_
  rw [hb, P_app]
  refine g_putr (pc2 := 13) _ (P_at ha) (by decide) flX1_11 fpX1_0 (fun _ => rfl) (fun _ => rfl) rfl rfl (P_set ha _) dX1_init_10 rfl ?_
  show lt_G l (d + 2) 31 198 mX1_init 1 6 (paS pre b 0) σ 13 _ _ _
  have key : ∀ k, k ≤ 6 → ∀ σ1 : lt_S, (∀ x, x ≠ a → x < b → σ1 x = σ x) → σ1 a 1 = nI 0 → ∀ ck cn : Nat, ck = 1 + 5 * k → cn = 6 + 32 * k → lt_G l (d + 2) 31 198 mX1_init ck cn (paS pre b k) σ1 25 [some (.ref a), some (.int (nI k))] [] (fun r sh' σ' => r = none ∧ sh' = paS pre b 6 ∧ (∀ x, x ≠ a → x < b → σ' x = σ x) ∧ σ' a 1 = nI 0) := by
    refine lt_dn 6 ?_ ?_
    · intro σ1 h1 h2 ck cn hck hcn
      subst hck
      subst hcn
      refine g_il1 (pc2 := 26) dX1_init_25 rfl ?_
      refine g_bipush (pc2 := 28) dX1_init_26 k_bipush_6 rfl ?_
      refine g_icmpN_ge 50 31 dX1_init_28 rfl rfl (by omega) (by omega) (fun h28 => ?_) (fun h28 => ?_)
      · exact g_ret dX1_init_50 rfl (by decide) (by decide) ⟨rfl, rfl, h1, h2⟩
      · omega
    · intro k hk ih σ1 h1 h2 ck cn hck hcn
      have hlen := paS_len ha hab k
      refine g_il1 (pc2 := 26) dX1_init_25 rfl ?_
      refine g_bipush (pc2 := 28) dX1_init_26 k_bipush_6 rfl ?_
      refine g_icmpN_ge 50 31 dX1_init_28 rfl rfl (by omega) (by decide) (fun h => by omega) (fun _ => ?_)
      refine g_al0 (pc2 := 32) dX1_init_31 rfl ?_
      refine g_getr (pc2 := 35) (P_at ha) (by rfl) flX1_11 dX1_init_32 rfl ?_
      refine g_il1 (pc2 := 36) dX1_init_35 rfl ?_
      refine g_new (ci := 2) (fs := [some .null, some .null, some .null, some .null]) (pc2 := 39) rfl coX2 clX1_9 inX2 izX2 (fun j hj ty hty => by
        rcases (show j = 0 ∨ j = 1 ∨ j = 2 ∨ j = 3 from by have : j < 4 := hj; omega) with rfl | rfl | rfl | rfl <;> (cases hty; rfl)) (fun k v hv => by
        rcases (show k = 0 ∨ k = 1 ∨ k = 2 ∨ k = 3 ∨ 4 ≤ k by omega) with rfl | rfl | rfl | rfl | h4
        · cases hv; rfl
        · cases hv; rfl
        · cases hv; rfl
        · cases hv; rfl
        · rw [List.getElem?_eq_none (by simpa using h4)] at hv; cases hv) ⟨by omega, by show cn + 4 ≤ 198; omega⟩ dX1_init_36 rfl ?_
      rw [hlen]
      refine g_dup (pc2 := 40) dX1_init_39 rfl ?_
      generalize hσ2 : lt_ur σ1 (b + 1 + 5 * k) (fun _ => 0) = σ2
      have hR := R_i_plan l d (paS pre b k) [] σ2 (a := b + 1 + 5 * k) (b := b + 1 + 5 * k + 1) hlen (by simp only [List.length_append, List.length_cons, List.length_nil]; omega)
      refine g_callIN (pc2 := 43) hR rfl meX2_init (fun U h => h.2.2.2.1) rfl rfl (by simp) ⟨by omega, by show cn + 4 + 28 ≤ 198; omega⟩ dX1_init_40 rfl ?_
      rintro r sh2 σ3 ⟨rfl, rfl, hfr⟩
      have hfr2 : ∀ x, x < b + 1 + 5 * k → σ3 x = σ1 x := fun x hx => by rw [hfr x (by omega) (by omega), ← hσ2, lt_ur_ne _ _ (by omega)]
      refine g_aast (a := b) (j := k) (b := b + 1 + 5 * k) (ci := 2) (rs := kpL b k) (pc2 := 44) (paS pre b (k + 1)) (by rw [paS_2]; exact P_at ha2) (show k < 6 from hk) (show 6 < 2 ^ 31 by decide) (P_at hlen) ?_ dX1_init_43 rfl ?_
      · rw [paS_2, kpL_s b k hk, P_set ha2]
        unfold paS
        simp [plC]
      · refine g_in1 (pc2 := 47) dX1_init_44 (nI_inc _) (by decide) rfl ?_
        refine g_goto 25 dX1_init_47 rfl ?_
        exact ih σ3 (fun x x1 x2 => (hfr2 x (by omega)).trans (h1 x x1 x2)) (by rw [hfr2 a (by omega)]; exact h2) _ _ (by omega) (by show cn + 4 + 28 = _; omega)
  refine g_al0 (pc2 := 14) dX1_init_13 rfl ?_
  refine g_iconst (pc2 := 15) dX1_init_14 k_iconst_0 rfl ?_
  refine g_puti (pc2 := 18) (P_at ha) rfl flX1_17 (fpX1_1 _) (fun h => by first | cases h | rfl) dX1_init_15 rfl ?_
  refine g_al0 (pc2 := 19) dX1_init_18 rfl ?_
  refine g_iconst (pc2 := 20) dX1_init_19 k_iconst_0 rfl ?_
  refine g_puti (pc2 := 23) (P_at ha) rfl flX1_21 (fpX1_2 _) (fun h => by first | cases h | rfl) dX1_init_20 rfl ?_
  refine g_iconst (pc2 := 24) dX1_init_23 k_iconst_0 rfl ?_
  refine g_is1 (pc2 := 25) dX1_init_24 (by decide) rfl ?_
  exact key 0 (Nat.zero_le _) _ (fun x h1 h2 => by rw [lt_up_nr _ _ _ h1, lt_up_nr _ _ _ h1]) (by rw [lt_up_ne _ _ _ (by decide), lt_up_at]) 1 6 rfl rfl
