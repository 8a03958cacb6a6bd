/-! stores -/
theorem lt_ur_eq (σ : lt_S) (a : Nat) (f : Nat → Int32) : lt_ur σ a f a = f := if_pos rfl
theorem lt_ur_ne (σ : lt_S) {a b : Nat} (f : Nat → Int32) (h : b ≠ a) : lt_ur σ a f b = σ b := if_neg h
theorem lt_ur_ur (σ : lt_S) (a : Nat) (f g : Nat → Int32) : lt_ur (lt_ur σ a f) a g = lt_ur σ a g := by
  funext b
  by_cases h : b = a
  · subst h; rw [lt_ur_eq, lt_ur_eq]
  · rw [lt_ur_ne _ _ h, lt_ur_ne _ _ h, lt_ur_ne _ _ h]
theorem lt_ur_self (σ : lt_S) (a : Nat) : lt_ur σ a (σ a) = σ := by
  funext b
  by_cases h : b = a
  · subst h; rw [lt_ur_eq]
  · rw [lt_ur_ne _ _ h]
theorem lt_ur_swap (σ : lt_S) {a b : Nat} (f g : Nat → Int32) (h : a ≠ b) : lt_ur (lt_ur σ a f) b g = lt_ur (lt_ur σ b g) a f := by
  funext c
  by_cases h1 : c = a
  · subst h1; rw [lt_ur_ne _ _ h, lt_ur_eq, lt_ur_eq]
  · by_cases h2 : c = b
    · subst h2; rw [lt_ur_eq, lt_ur_ne _ _ h1, lt_ur_eq]
    · rw [lt_ur_ne _ _ h2, lt_ur_ne _ _ h1, lt_ur_ne _ _ h1, lt_ur_ne _ _ h2]
theorem lt_up_row (σ : lt_S) (a k : Nat) (x : Int32) : lt_up σ a k x a = upd (σ a) k x := if_pos rfl
theorem lt_up_at (σ : lt_S) (a k : Nat) (x : Int32) : lt_up σ a k x a k = x := by rw [lt_up_row]; exact if_pos rfl
theorem lt_up_nr (σ : lt_S) {a b : Nat} (k : Nat) (x : Int32) (h : b ≠ a) : lt_up σ a k x b = σ b := if_neg h
theorem lt_up_ne (σ : lt_S) (a : Nat) {k j : Nat} (x : Int32) (h : j ≠ k) : lt_up σ a k x a j = σ a j := by rw [lt_up_row]; exact if_neg h
theorem lt_up_up (σ : lt_S) (a k : Nat) (x y : Int32) : lt_up (lt_up σ a k x) a k y = lt_up σ a k y := by
  rw [lt_up_ur, lt_up_row, lt_up_ur σ a k x, lt_ur_ur, lt_up_ur]
  congr 1
  funext j
  by_cases h : j = k
  · subst h; rw [pk_us, pk_us]
  · rw [pk_un h, pk_un h, pk_un h]
theorem cpy_0 {f g : Nat → Int32} {sp dp : Nat} : va_cpy f g sp dp 0 = g := by
  funext k
  exact if_neg (by omega)
theorem cpy_s {f g : Nat → Int32} {sp dp n : Nat} : upd (va_cpy f g sp dp n) (dp + n) (f (sp + n)) = va_cpy f g sp dp (n + 1) := by
  funext k
  unfold upd va_cpy
  by_cases h : k = dp + n
  · subst h
    rw [if_pos rfl, if_pos (by omega), show dp + n - dp = n by omega]
  · rw [if_neg h]
    by_cases h2 : dp ≤ k ∧ k < dp + n
    · rw [if_pos h2, if_pos (by omega)]
    · rw [if_neg h2, if_neg (by omega)]
/-! the reference: writes -/
theorem R_m_write (l : lt_L) (d : Nat) (σ : lt_S) {n : Nat} (hn : σ 76 5 = nI n) (hn2 : n ≤ 200) (c : Int32) : lt_T l (d + 2) mX8_write lt_SA σ [.ref 76, .int c] (some (if inB c (nI 32) (nI 126) then (if n = 200 then -3 else nI (n + 1)) else -1)) (if inB c (nI 32) (nI 126) && decide (n < 200) then lt_up (lt_up σ 80 n c) 76 5 (nI (n + 1)) else σ) := by
  refine lt_T.of [some (.ref 76), some (.int c)] rfl rfl (Nat.le_of_ble_eq_true rfl) ?_
  refine g_il1 (pc2 := 1) dX8_write_0 rfl ?_
  refine g_bipush (pc2 := 3) dX8_write_1 k_bipush_32 rfl ?_
  refine g_bipush (pc2 := 5) dX8_write_3 k_bipush_126 rfl ?_
  refine g_cSi (pc2 := 8) (R_m_in l d _ _ _ _ _) meX8_in mlX8_58 rfl rfl (by simp) ⟨Nat.le_refl _, Nat.le_refl _⟩ dX8_write_5 rfl ?_
  refine g_if_neB 13 11 dX8_write_8 rfl rfl (fun h8 => ?_) (fun h8 => ?_)
  · refine g_al0 (pc2 := 14) dX8_write_13 rfl ?_
    refine g_geti (pc2 := 17) (by rfl) (by rfl) flX8_55 dX8_write_14 rfl ?_
    rw [hn]
    refine g_sipush (pc2 := 20) dX8_write_17 k_sipush_200 rfl ?_
    refine g_icmpN_ne 26 23 dX8_write_20 rfl rfl (by omega) (by omega) (fun h20 => ?_) (fun h20 => ?_)
    · refine g_al0 (pc2 := 27) dX8_write_26 rfl ?_
      refine g_getr (pc2 := 30) (by rfl) (by rfl) flX8_19 dX8_write_27 rfl ?_
      refine g_al0 (pc2 := 31) dX8_write_30 rfl ?_
      refine g_geti (pc2 := 34) (by rfl) (by rfl) flX8_55 dX8_write_31 rfl ?_
      rw [hn]
      refine g_il1 (pc2 := 35) dX8_write_34 rfl ?_
      refine g_iast (pc2 := 36) (by rfl) (by omega) (by decide) dX8_write_35 rfl ?_
      refine g_al0 (pc2 := 37) dX8_write_36 rfl ?_
      refine g_dup (pc2 := 38) dX8_write_37 rfl ?_
      refine g_geti (pc2 := 41) (by rfl) (by rfl) flX8_55 dX8_write_38 rfl ?_
      rw [show lt_up σ 80 n c 76 5 = σ 76 5 from rfl, hn]
      refine g_iconst (pc2 := 42) dX8_write_41 k_iconst_1 rfl ?_
      refine g_iaddN (pc2 := 43) dX8_write_42 rfl ?_
      refine g_puti (pc2 := 46) (by rfl) (by rfl) flX8_55 (fpX8_5 _) (fun h => by first | cases h | rfl) dX8_write_43 rfl ?_
      refine g_al0 (pc2 := 47) dX8_write_46 rfl ?_
      refine g_geti (pc2 := 50) (by rfl) (by rfl) flX8_55 dX8_write_47 rfl ?_
      rw [lt_up_at]
      exact g_iretT dX8_write_50 rfl (Nat.le_refl _) (Nat.le_refl _) (by simp [h8, h20]) (by rw [if_pos (by simp [h8]; omega)])
    · refine g_bipush (pc2 := 25) dX8_write_23 k_bipush_m3 rfl ?_
      exact g_iretT dX8_write_25 rfl (Nat.le_refl _) (Nat.le_refl _) (by simp [h8, h20]) (by simp [h20])
  · refine g_iconst (pc2 := 12) dX8_write_11 k_iconst_m1 rfl ?_
    exact g_iretT dX8_write_12 rfl (Nat.le_refl _) (Nat.le_refl _) (by simp [h8]) (by simp [h8])
theorem R_m_wipe (l : lt_L) (d : Nat) (σ : lt_S) : lt_T l (d + 1) mX8_wipe lt_SA σ [.ref 76] (some (σ 76 5)) (lt_up σ 76 5 (nI 0)) := by
  refine lt_T.of [some (.ref 76), none] rfl rfl (Nat.le_of_ble_eq_true rfl) ?_
  refine g_al0 (pc2 := 1) dX8_wipe_0 rfl ?_
  refine g_geti (pc2 := 4) (by rfl) (by rfl) flX8_55 dX8_wipe_1 rfl ?_
  refine g_is1 (pc2 := 5) dX8_wipe_4 (by decide) rfl ?_
  refine g_al0 (pc2 := 6) dX8_wipe_5 rfl ?_
  refine g_iconst (pc2 := 7) dX8_wipe_6 k_iconst_0 rfl ?_
  refine g_puti (pc2 := 10) (by rfl) (by rfl) flX8_55 (fpX8_5 _) (fun h => by first | cases h | rfl) dX8_wipe_7 rfl ?_
  refine g_il1 (pc2 := 11) dX8_wipe_10 rfl ?_
  exact g_iretT dX8_wipe_11 rfl (Nat.le_refl _) (Nat.le_refl _) (rfl) (rfl)
/-- the reference's past with the row of now behind it -/
def S_keep (σ : lt_S) (c : Nat) : lt_S := if c = 6 then lt_up (lt_ur σ 79 (va_cpy (σ 77) (va_cpy (σ 79) (σ 79) 65 0 325) 0 325 65)) 76 3 (nI 6) else lt_up (lt_ur σ 79 (va_cpy (σ 77) (σ 79) 0 (65 * c) 65)) 76 3 (nI (c + 1))
theorem R_m_keeps2 (l : lt_L) (d : Nat) (σ σ0 : lt_S) {c : Nat} (hc : σ 76 3 = nI c) (hc5 : c < 6) (he : lt_up (lt_ur σ 79 (va_cpy (σ 77) (σ 79) 0 (65 * c) 65)) 76 3 (nI (c + 1)) = σ0) (z : Option Value) : lt_g l (d + 1) mX8_keeps lt_SA σ 49 [some (.ref 76), z] [] none σ0 := by
  have key : ∀ k, k ≤ 65 → lt_g l (d + 1) mX8_keeps lt_SA (lt_ur σ 79 (va_cpy (σ 77) (σ 79) 0 (65 * c) k)) 51 [some (.ref 76), some (.int (nI k))] [] none σ0 := by
    refine lt_dn 65 ?_ ?_
    · refine g_il1 (pc2 := 52) dX8_keeps_51 rfl ?_
      refine g_bipush (pc2 := 54) dX8_keeps_52 k_bipush_65 rfl ?_
      refine g_icmpN_ge 83 57 dX8_keeps_54 rfl rfl (by omega) (by omega) (fun h54 => ?_) (fun h54 => ?_)
      · refine g_al0 (pc2 := 84) dX8_keeps_83 rfl ?_
        refine g_dup (pc2 := 85) dX8_keeps_84 rfl ?_
        refine g_geti (pc2 := 88) (by rfl) (by rfl) flX8_48 dX8_keeps_85 rfl ?_
        rw [show lt_ur σ 79 (va_cpy (σ 77) (σ 79) 0 (65 * c) 65) 76 3 = σ 76 3 from rfl, hc]
        refine g_iconst (pc2 := 89) dX8_keeps_88 k_iconst_1 rfl ?_
        refine g_iaddN (pc2 := 90) dX8_keeps_89 rfl ?_
        refine g_puti (pc2 := 93) (by rfl) (by rfl) flX8_48 (fpX8_3 _) (fun h => by first | cases h | rfl) dX8_keeps_90 rfl ?_
        exact g_retT dX8_keeps_93 rfl (Nat.le_refl _) (Nat.le_refl _) (he)
      · omega
    · intro k hk ih
      refine g_il1 (pc2 := 52) dX8_keeps_51 rfl ?_
      refine g_bipush (pc2 := 54) dX8_keeps_52 k_bipush_65 rfl ?_
      refine g_icmpN_ge 83 57 dX8_keeps_54 rfl rfl (by omega) (by omega) (fun h54 => ?_) (fun h54 => ?_)
      · omega
      · refine g_al0 (pc2 := 58) dX8_keeps_57 rfl ?_
        refine g_getr (pc2 := 61) (by rfl) (by rfl) flX8_16 dX8_keeps_58 rfl ?_
        refine g_bipush (pc2 := 63) dX8_keeps_61 k_bipush_65 rfl ?_
        refine g_al0 (pc2 := 64) dX8_keeps_63 rfl ?_
        refine g_geti (pc2 := 67) (by rfl) (by rfl) flX8_48 dX8_keeps_64 rfl ?_
        rw [show lt_ur σ 79 (va_cpy (σ 77) (σ 79) 0 (65 * c) k) 76 3 = σ 76 3 from rfl, hc]
        refine g_imulN (pc2 := 68) dX8_keeps_67 rfl ?_
        refine g_il1 (pc2 := 69) dX8_keeps_68 rfl ?_
        refine g_iaddN (pc2 := 70) dX8_keeps_69 rfl ?_
        refine g_al0 (pc2 := 71) dX8_keeps_70 rfl ?_
        refine g_getr (pc2 := 74) (by rfl) (by rfl) flX8_7 dX8_keeps_71 rfl ?_
        refine g_il1 (pc2 := 75) dX8_keeps_74 rfl ?_
        refine g_iald (pc2 := 76) (by rfl) (by omega) (by decide) dX8_keeps_75 rfl ?_
        refine g_iast (pc2 := 77) (by rfl) (by omega) (by decide) dX8_keeps_76 rfl ?_
        refine g_in1 (pc2 := 80) dX8_keeps_77 (nI_inc _) (by decide) rfl ?_
        refine g_goto 51 dX8_keeps_80 rfl ?_
        rw [lt_up_ur, lt_ur_eq, lt_ur_ur, show lt_ur σ 79 (va_cpy (σ 77) (σ 79) 0 (65 * c) k) 77 k = σ 77 (0 + k) from congrArg (σ 77) (Nat.zero_add k).symm, cpy_s]
        exact ih
  have k0 := key 0 (Nat.zero_le _)
  rw [cpy_0, lt_ur_self] at k0
  refine g_iconst (pc2 := 50) dX8_keeps_49 k_iconst_0 rfl ?_
  refine g_is1 (pc2 := 51) dX8_keeps_50 (by decide) rfl ?_
  exact k0
theorem R_m_keeps (l : lt_L) (d : Nat) (σ : lt_S) {c : Nat} (hc : σ 76 3 = nI c) (hc6 : c ≤ 6) : lt_T l (d + 1) mX8_keeps lt_SA σ [.ref 76] none (S_keep σ c) := by
  refine lt_T.of [some (.ref 76), none] rfl rfl (Nat.le_of_ble_eq_true rfl) ?_
  have key : c = 6 → ∀ k, k ≤ 325 → lt_g l (d + 1) mX8_keeps lt_SA (lt_ur σ 79 (va_cpy (σ 79) (σ 79) 65 0 k)) 11 [some (.ref 76), some (.int (nI k))] [] none (S_keep σ c) := by
    intro e6
    refine lt_dn 325 ?_ ?_
    · refine g_il1 (pc2 := 12) dX8_keeps_11 rfl ?_
      refine g_sipush (pc2 := 15) dX8_keeps_12 k_sipush_325 rfl ?_
      refine g_icmpN_ge 39 18 dX8_keeps_15 rfl rfl (by omega) (by omega) (fun h15 => ?_) (fun h15 => ?_)
      · refine g_al0 (pc2 := 40) dX8_keeps_39 rfl ?_
        refine g_dup (pc2 := 41) dX8_keeps_40 rfl ?_
        refine g_geti (pc2 := 44) (by rfl) (by rfl) flX8_48 dX8_keeps_41 rfl ?_
        rw [show lt_ur σ 79 (va_cpy (σ 79) (σ 79) 65 0 325) 76 3 = σ 76 3 from rfl, hc]
        refine g_iconst (pc2 := 45) dX8_keeps_44 k_iconst_1 rfl ?_
        refine g_isubN (pc2 := 46) dX8_keeps_45 rfl (by omega) ?_
        refine g_puti (pc2 := 49) (by rfl) (by rfl) flX8_48 (fpX8_3 _) (fun h => by first | cases h | rfl) dX8_keeps_46 rfl ?_
        refine R_m_keeps2 l d _ _ (c := 5) (by rw [lt_up_at, e6]) (by decide) ?_ _
        unfold S_keep
        rw [if_pos e6, e6]
        rw [lt_up_nr _ _ _ (show (79 : Nat) ≠ 76 by decide), lt_ur_eq, lt_up_nr _ _ _ (show (77 : Nat) ≠ 76 by decide), lt_ur_ne _ _ (show (77 : Nat) ≠ 79 by decide)]
        rw [lt_up_ur (lt_ur σ 79 _), lt_ur_swap _ _ _ (show (76 : Nat) ≠ 79 by decide), lt_ur_ur]
        rw [lt_up_ur, lt_up_ur, lt_ur_eq, lt_ur_ur]
        congr 1
        rw [lt_ur_ne _ _ (show (76 : Nat) ≠ 79 by decide), lt_ur_ne _ _ (show (76 : Nat) ≠ 79 by decide)]
        funext j
        by_cases hj : j = 3
        · subst hj; rw [pk_us, pk_us]
        · rw [pk_un hj, pk_un hj, pk_un hj]
      · omega
    · intro k hk ih
      refine g_il1 (pc2 := 12) dX8_keeps_11 rfl ?_
      refine g_sipush (pc2 := 15) dX8_keeps_12 k_sipush_325 rfl ?_
      refine g_icmpN_ge 39 18 dX8_keeps_15 rfl rfl (by omega) (by omega) (fun h15 => ?_) (fun h15 => ?_)
      · omega
      · refine g_al0 (pc2 := 19) dX8_keeps_18 rfl ?_
        refine g_getr (pc2 := 22) (by rfl) (by rfl) flX8_16 dX8_keeps_19 rfl ?_
        refine g_il1 (pc2 := 23) dX8_keeps_22 rfl ?_
        refine g_al0 (pc2 := 24) dX8_keeps_23 rfl ?_
        refine g_getr (pc2 := 27) (by rfl) (by rfl) flX8_16 dX8_keeps_24 rfl ?_
        refine g_il1 (pc2 := 28) dX8_keeps_27 rfl ?_
        refine g_bipush (pc2 := 30) dX8_keeps_28 k_bipush_65 rfl ?_
        refine g_iaddN (pc2 := 31) dX8_keeps_30 rfl ?_
        refine g_iald (pc2 := 32) (by rfl) (by omega) (by decide) dX8_keeps_31 rfl ?_
        refine g_iast (pc2 := 33) (by rfl) (by omega) (by decide) dX8_keeps_32 rfl ?_
        refine g_in1 (pc2 := 36) dX8_keeps_33 (nI_inc _) (by decide) rfl ?_
        refine g_goto 11 dX8_keeps_36 rfl ?_
        rw [lt_ur_eq, show va_cpy (σ 79) (σ 79) 65 0 k (k + 65) = σ 79 (65 + k) from (by rw [pk_cpy_out (Or.inr (by omega)), Nat.add_comm]), lt_up_ur, lt_ur_eq, lt_ur_ur]
        have e9 := cpy_s (f := σ 79) (g := σ 79) (sp := 65) (dp := 0) (n := k)
        rw [Nat.zero_add] at e9
        rw [e9]
        exact ih
  refine g_al0 (pc2 := 1) dX8_keeps_0 rfl ?_
  refine g_geti (pc2 := 4) (by rfl) (by rfl) flX8_48 dX8_keeps_1 rfl ?_
  rw [hc]
  refine g_bipush (pc2 := 6) dX8_keeps_4 k_bipush_6 rfl ?_
  refine g_icmpN_ne 49 9 dX8_keeps_6 rfl rfl (by omega) (by omega) (fun h6 => ?_) (fun h6 => ?_)
  · exact R_m_keeps2 l d _ _ hc (by omega) (by unfold S_keep; rw [if_neg h6]) _
  · refine g_iconst (pc2 := 10) dX8_keeps_9 k_iconst_0 rfl ?_
    refine g_is1 (pc2 := 11) dX8_keeps_10 (by decide) rfl ?_
    have k0 := key h6 0 (Nat.zero_le _)
    rw [cpy_0, lt_ur_self] at k0
    exact k0
/-- undone: now is the last row of the past -/
def S_undo (σ : lt_S) (c : Nat) : lt_S := lt_ur (lt_up σ 76 3 (nI (c - 1))) 77 (va_cpy (σ 79) (σ 77) (65 * (c - 1)) 0 65)
theorem R_m_undo (l : lt_L) (d : Nat) (σ : lt_S) {c : Nat} (hc : σ 76 3 = nI c) (hc6 : c ≤ 6) : lt_T l (d + 1) mX8_undo lt_SA σ [.ref 76] (some (if c = 0 then -2 else nI (c - 1))) (if c = 0 then σ else S_undo σ c) := by
  refine lt_T.of [some (.ref 76), none] rfl rfl (Nat.le_of_ble_eq_true rfl) ?_
  by_cases h0 : c = 0
  · rw [if_pos h0, if_pos h0]
    subst h0
    refine g_al0 (pc2 := 1) dX8_undo_0 rfl ?_
    refine g_geti (pc2 := 4) (by rfl) (by rfl) flX8_48 dX8_undo_1 rfl ?_
    rw [hc]
    refine g_if_ne 10 7 dX8_undo_4 rfl rfl (fun h4 => ?_) (fun h4 => ?_)
    · exact absurd rfl h4
    · refine g_bipush (pc2 := 9) dX8_undo_7 k_bipush_m2 rfl ?_
      exact g_iretT dX8_undo_9 rfl (Nat.le_refl _) (Nat.le_refl _) (rfl) (rfl)
  · rw [if_neg h0, if_neg h0]
    have key : ∀ k, k ≤ 65 → lt_g l (d + 1) mX8_undo lt_SA (lt_ur (lt_up σ 76 3 (nI (c - 1))) 77 (va_cpy (σ 79) (σ 77) (65 * (c - 1)) 0 k)) 22 [some (.ref 76), some (.int (nI k))] [] (some (nI (c - 1))) (S_undo σ c) := by
      refine lt_dn 65 ?_ ?_
      · refine g_il1 (pc2 := 23) dX8_undo_22 rfl ?_
        refine g_bipush (pc2 := 25) dX8_undo_23 k_bipush_65 rfl ?_
        refine g_icmpN_ge 54 28 dX8_undo_25 rfl rfl (by omega) (by omega) (fun h25 => ?_) (fun h25 => ?_)
        · refine g_al0 (pc2 := 55) dX8_undo_54 rfl ?_
          refine g_geti (pc2 := 58) (by rfl) (by rfl) flX8_48 dX8_undo_55 rfl ?_
          exact g_iretT dX8_undo_58 rfl (Nat.le_refl _) (Nat.le_refl _) (lt_up_at σ 76 3 (nI (c - 1))) (rfl)
        · omega
      · intro k hk ih
        refine g_il1 (pc2 := 23) dX8_undo_22 rfl ?_
        refine g_bipush (pc2 := 25) dX8_undo_23 k_bipush_65 rfl ?_
        refine g_icmpN_ge 54 28 dX8_undo_25 rfl rfl (by omega) (by omega) (fun h25 => ?_) (fun h25 => ?_)
        · omega
        · refine g_al0 (pc2 := 29) dX8_undo_28 rfl ?_
          refine g_getr (pc2 := 32) (by rfl) (by rfl) flX8_7 dX8_undo_29 rfl ?_
          refine g_il1 (pc2 := 33) dX8_undo_32 rfl ?_
          refine g_al0 (pc2 := 34) dX8_undo_33 rfl ?_
          refine g_getr (pc2 := 37) (by rfl) (by rfl) flX8_16 dX8_undo_34 rfl ?_
          refine g_bipush (pc2 := 39) dX8_undo_37 k_bipush_65 rfl ?_
          refine g_al0 (pc2 := 40) dX8_undo_39 rfl ?_
          refine g_geti (pc2 := 43) (by rfl) (by rfl) flX8_48 dX8_undo_40 rfl ?_
          rw [show lt_ur (lt_up σ 76 3 (nI (c - 1))) 77 (va_cpy (σ 79) (σ 77) (65 * (c - 1)) 0 k) 76 3 = nI (c - 1) from lt_up_at σ 76 3 _]
          refine g_imulN (pc2 := 44) dX8_undo_43 rfl ?_
          refine g_il1 (pc2 := 45) dX8_undo_44 rfl ?_
          refine g_iaddN (pc2 := 46) dX8_undo_45 rfl ?_
          refine g_iald (pc2 := 47) (by rfl) (by omega) (by decide) dX8_undo_46 rfl ?_
          refine g_iast (pc2 := 48) (by rfl) (by omega) (by decide) dX8_undo_47 rfl ?_
          refine g_in1 (pc2 := 51) dX8_undo_48 (nI_inc _) (by decide) rfl ?_
          refine g_goto 22 dX8_undo_51 rfl ?_
          rw [lt_up_ur, lt_ur_eq, lt_ur_ur, show lt_ur (lt_up σ 76 3 (nI (c - 1))) 77 (va_cpy (σ 79) (σ 77) (65 * (c - 1)) 0 k) 79 = σ 79 from rfl]
          have e9 := cpy_s (f := σ 79) (g := σ 77) (sp := 65 * (c - 1)) (dp := 0) (n := k)
          rw [Nat.zero_add] at e9
          rw [e9]
          exact ih
    have k0 := key 0 (Nat.zero_le _)
    rw [cpy_0, show lt_ur (lt_up σ 76 3 (nI (c - 1))) 77 (σ 77) = lt_up σ 76 3 (nI (c - 1)) from lt_ur_self (lt_up σ 76 3 (nI (c - 1))) 77] at k0
    refine g_al0 (pc2 := 1) dX8_undo_0 rfl ?_
    refine g_geti (pc2 := 4) (by rfl) (by rfl) flX8_48 dX8_undo_1 rfl ?_
    rw [hc]
    refine g_if_ne 10 7 dX8_undo_4 rfl rfl (fun h4 => ?_) (fun h4 => ?_)
    · refine g_al0 (pc2 := 11) dX8_undo_10 rfl ?_
      refine g_dup (pc2 := 12) dX8_undo_11 rfl ?_
      refine g_geti (pc2 := 15) (by rfl) (by rfl) flX8_48 dX8_undo_12 rfl ?_
      rw [hc]
      refine g_iconst (pc2 := 16) dX8_undo_15 k_iconst_1 rfl ?_
      refine g_isubN (pc2 := 17) dX8_undo_16 rfl (by omega) ?_
      refine g_puti (pc2 := 20) (by rfl) (by rfl) flX8_48 (fpX8_3 _) (fun h => by first | cases h | rfl) dX8_undo_17 rfl ?_
      refine g_iconst (pc2 := 21) dX8_undo_20 k_iconst_0 rfl ?_
      refine g_is1 (pc2 := 22) dX8_undo_21 (by decide) rfl ?_
      exact k0
    · exact absurd h4 (nI_ne0 (by omega) (by omega))
