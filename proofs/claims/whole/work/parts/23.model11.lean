/-! the reference: the text is read -/
theorem lt_up_self (σ : lt_S) (a k : Nat) : lt_up σ a k (σ a k) = σ := by
  rw [lt_up_ur]
  have e : upd (σ a) k (σ a k) = σ a := by
    funext j
    by_cases h : j = k
    · subst h; exact pk_us
    · exact pk_un h
  rw [e, lt_ur_self]
def TX (σ : lt_S) (n : Nat) (tx : Nat → Nat) : Prop := σ 76 5 = nI n ∧ n ≤ 200 ∧ ∀ j, j < n → σ 80 j = nI (tx j) ∧ tx j < 128
theorem inB_N {a b c : Nat} (ha : a < 2 ^ 31) (hb : b < 2 ^ 31) (hc : c < 2 ^ 31) : inB (nI a) (nI b) (nI c) = (decide (b ≤ a) && decide (a ≤ c)) := by
  unfold inB
  rw [show decide (nI a < nI b) = decide (a < b) from decide_eq_decide.mpr (nI_ltI ha hb), show decide (nI c < nI a) = decide (c < a) from decide_eq_decide.mpr (nI_ltI hc ha)]
  by_cases h1 : a < b <;> by_cases h2 : c < a <;> simp [h1, h2] <;> omega
theorem R_m_isAt (l : lt_L) (d : Nat) (σ : lt_S) {n p : Nat} {tx : Nat → Nat} (hT : TX σ n tx) (hp : σ 76 6 = nI p) (hp3 : p ≤ 300) (a b : Nat) (ha : a < 300) (hb : b < 300) : lt_T l (d + 2) mX8_isAt lt_SA σ [.ref 76, .int (nI a), .int (nI b)] (some (bI (decide (p < n) && (decide (a ≤ tx p) && decide (tx p ≤ b))))) σ := by
  refine lt_T.of [some (.ref 76), some (.int (nI a)), some (.int (nI b))] rfl rfl (Nat.le_of_ble_eq_true rfl) ?_
  obtain ⟨t1, t2, t3⟩ := hT
  refine g_al0 (pc2 := 1) dX8_isAt_0 rfl ?_
  refine g_geti (pc2 := 4) (by rfl) (by rfl) flX8_52 dX8_isAt_1 rfl ?_
  rw [hp]
  refine g_al0 (pc2 := 5) dX8_isAt_4 rfl ?_
  refine g_geti (pc2 := 8) (by rfl) (by rfl) flX8_55 dX8_isAt_5 rfl ?_
  rw [t1]
  refine g_icmpN_ge 32 11 dX8_isAt_8 rfl rfl (by omega) (by omega) (fun h8 => ?_) (fun h8 => ?_)
  · refine g_iconst (pc2 := 33) dX8_isAt_32 k_iconst_0 rfl ?_
    exact g_zretT dX8_isAt_33 rfl (Nat.le_refl _) (Nat.le_refl _) (by first | (rw [h25, decide_eq_true (by omega)]; rfl) | (rw [decide_eq_false (by omega)]; rfl)) (rfl)
  · have ht := t3 p (by omega)
    refine g_al0 (pc2 := 12) dX8_isAt_11 rfl ?_
    refine g_getr (pc2 := 15) (by rfl) (by rfl) flX8_19 dX8_isAt_12 rfl ?_
    refine g_al0 (pc2 := 16) dX8_isAt_15 rfl ?_
    refine g_geti (pc2 := 19) (by rfl) (by rfl) flX8_52 dX8_isAt_16 rfl ?_
    rw [hp]
    refine g_iald (pc2 := 20) (by rfl) (by omega) (by decide) dX8_isAt_19 rfl ?_
    rw [ht.1]
    refine g_il1 (pc2 := 21) dX8_isAt_20 rfl ?_
    refine g_il2 (pc2 := 22) dX8_isAt_21 rfl ?_
    refine g_cSi (pc2 := 25) (R_m_in l d _ _ _ _ _) meX8_in mlX8_58 rfl rfl (by simp) ⟨Nat.le_refl _, Nat.le_refl _⟩ dX8_isAt_22 rfl ?_
    rw [inB_N (by omega) (by omega) (by omega)]
    refine g_if_eqB 32 28 dX8_isAt_25 rfl rfl (fun h25 => ?_) (fun h25 => ?_)
    · refine g_iconst (pc2 := 33) dX8_isAt_32 k_iconst_0 rfl ?_
      exact g_zretT dX8_isAt_33 rfl (Nat.le_refl _) (Nat.le_refl _) (by first | (rw [h25, decide_eq_true (by omega)]; rfl) | (rw [decide_eq_false (by omega)]; rfl)) (rfl)
    · refine g_iconst (pc2 := 29) dX8_isAt_28 k_iconst_1 rfl ?_
      refine g_goto 33 dX8_isAt_29 rfl ?_
      exact g_zretT dX8_isAt_33 rfl (Nat.le_refl _) (Nat.le_refl _) (by first | (rw [h25, decide_eq_true (by omega)]; rfl) | (rw [decide_eq_false (by omega)]; rfl)) (rfl)
theorem R_m_isWord (l : lt_L) (d : Nat) (σ : lt_S) {n p : Nat} {tx : Nat → Nat} (hT : TX σ n tx) (hp : σ 76 6 = nI p) (hp3 : p ≤ 300) (a b c e : Nat) (ha : a < 300) (hb : b < 300) (hc : c < 300) (he : e < 300) : lt_T l (d + 1) mX8_isWord lt_SA σ [.ref 76, .int (nI a), .int (nI b), .int (nI c), .int (nI e)] (some (bI (wordB tx n p a b c e))) σ := by
  refine lt_T.of [some (.ref 76), some (.int (nI a)), some (.int (nI b)), some (.int (nI c)), some (.int (nI e))] rfl rfl (Nat.le_of_ble_eq_true rfl) ?_
  obtain ⟨t1, t2, t3⟩ := hT
  refine g_al0 (pc2 := 1) dX8_isWord_0 rfl ?_
  refine g_geti (pc2 := 4) (by rfl) (by rfl) flX8_52 dX8_isWord_1 rfl ?_
  rw [hp]
  refine g_iconst (pc2 := 5) dX8_isWord_4 k_iconst_4 rfl ?_
  refine g_iaddN (pc2 := 6) dX8_isWord_5 rfl ?_
  refine g_al0 (pc2 := 7) dX8_isWord_6 rfl ?_
  refine g_geti (pc2 := 10) (by rfl) (by rfl) flX8_55 dX8_isWord_7 rfl ?_
  rw [t1]
  refine g_icmpN_ge 92 13 dX8_isWord_10 rfl rfl (by omega) (by omega) (fun h10 => ?_) (fun h10 => ?_)
  · refine g_iconst (pc2 := 93) dX8_isWord_92 k_iconst_0 rfl ?_
    exact g_zretT dX8_isWord_93 rfl (Nat.le_refl _) (Nat.le_refl _) (by first | (rw [show wordB tx n p a b c e = false from (by unfold wordB; first | (rw [decide_eq_false (show ¬ p + 4 < n by omega)]; rfl) | (rw [decide_eq_false h23]; simp; done) | (rw [decide_eq_false h38]; simp; done) | (rw [decide_eq_false h53]; simp; done) | (rw [decide_eq_false h69]; simp; done) | (rw [decide_eq_false h85]; simp; done))]; rfl) | (rw [show wordB tx n p a b c e = true from (by unfold wordB; rw [decide_eq_true (show p + 4 < n by omega), decide_eq_true h23, decide_eq_true h38, decide_eq_true h53, decide_eq_true h69, decide_eq_true h85]; rfl)]; rfl)) (rfl)
  · have q0 := t3 p (by omega)
    have q1 := t3 (p + 1) (by omega)
    have q2 := t3 (p + 2) (by omega)
    have q3 := t3 (p + 3) (by omega)
    have q4 := t3 (p + 4) (by omega)
    refine g_al0 (pc2 := 14) dX8_isWord_13 rfl ?_
    refine g_getr (pc2 := 17) (by rfl) (by rfl) flX8_19 dX8_isWord_14 rfl ?_
    refine g_al0 (pc2 := 18) dX8_isWord_17 rfl ?_
    refine g_geti (pc2 := 21) (by rfl) (by rfl) flX8_52 dX8_isWord_18 rfl ?_
    rw [hp]
    refine g_iald (pc2 := 22) (by rfl) (by omega) (by decide) dX8_isWord_21 rfl ?_
    rw [q0.1]
    refine g_il1 (pc2 := 23) dX8_isWord_22 rfl ?_
    refine g_icmpN_ne 92 26 dX8_isWord_23 rfl rfl (by omega) (by omega) (fun h23 => ?_) (fun h23 => ?_)
    · refine g_iconst (pc2 := 93) dX8_isWord_92 k_iconst_0 rfl ?_
      exact g_zretT dX8_isWord_93 rfl (Nat.le_refl _) (Nat.le_refl _) (by first | (rw [show wordB tx n p a b c e = false from (by unfold wordB; first | (rw [decide_eq_false (show ¬ p + 4 < n by omega)]; rfl) | (rw [decide_eq_false h23]; simp; done) | (rw [decide_eq_false h38]; simp; done) | (rw [decide_eq_false h53]; simp; done) | (rw [decide_eq_false h69]; simp; done) | (rw [decide_eq_false h85]; simp; done))]; rfl) | (rw [show wordB tx n p a b c e = true from (by unfold wordB; rw [decide_eq_true (show p + 4 < n by omega), decide_eq_true h23, decide_eq_true h38, decide_eq_true h53, decide_eq_true h69, decide_eq_true h85]; rfl)]; rfl)) (rfl)
    · refine g_al0 (pc2 := 27) dX8_isWord_26 rfl ?_
      refine g_getr (pc2 := 30) (by rfl) (by rfl) flX8_19 dX8_isWord_27 rfl ?_
      refine g_al0 (pc2 := 31) dX8_isWord_30 rfl ?_
      refine g_geti (pc2 := 34) (by rfl) (by rfl) flX8_52 dX8_isWord_31 rfl ?_
      rw [hp]
      refine g_iconst (pc2 := 35) dX8_isWord_34 k_iconst_1 rfl ?_
      refine g_iaddN (pc2 := 36) dX8_isWord_35 rfl ?_
      refine g_iald (pc2 := 37) (by rfl) (by omega) (by decide) dX8_isWord_36 rfl ?_
      rw [q1.1]
      refine g_il2 (pc2 := 38) dX8_isWord_37 rfl ?_
      refine g_icmpN_ne 92 41 dX8_isWord_38 rfl rfl (by omega) (by omega) (fun h38 => ?_) (fun h38 => ?_)
      · refine g_iconst (pc2 := 93) dX8_isWord_92 k_iconst_0 rfl ?_
        exact g_zretT dX8_isWord_93 rfl (Nat.le_refl _) (Nat.le_refl _) (by first | (rw [show wordB tx n p a b c e = false from (by unfold wordB; first | (rw [decide_eq_false (show ¬ p + 4 < n by omega)]; rfl) | (rw [decide_eq_false h23]; simp; done) | (rw [decide_eq_false h38]; simp; done) | (rw [decide_eq_false h53]; simp; done) | (rw [decide_eq_false h69]; simp; done) | (rw [decide_eq_false h85]; simp; done))]; rfl) | (rw [show wordB tx n p a b c e = true from (by unfold wordB; rw [decide_eq_true (show p + 4 < n by omega), decide_eq_true h23, decide_eq_true h38, decide_eq_true h53, decide_eq_true h69, decide_eq_true h85]; rfl)]; rfl)) (rfl)
      · refine g_al0 (pc2 := 42) dX8_isWord_41 rfl ?_
        refine g_getr (pc2 := 45) (by rfl) (by rfl) flX8_19 dX8_isWord_42 rfl ?_
        refine g_al0 (pc2 := 46) dX8_isWord_45 rfl ?_
        refine g_geti (pc2 := 49) (by rfl) (by rfl) flX8_52 dX8_isWord_46 rfl ?_
        rw [hp]
        refine g_iconst (pc2 := 50) dX8_isWord_49 k_iconst_2 rfl ?_
        refine g_iaddN (pc2 := 51) dX8_isWord_50 rfl ?_
        refine g_iald (pc2 := 52) (by rfl) (by omega) (by decide) dX8_isWord_51 rfl ?_
        rw [q2.1]
        refine g_il3 (pc2 := 53) dX8_isWord_52 rfl ?_
        refine g_icmpN_ne 92 56 dX8_isWord_53 rfl rfl (by omega) (by omega) (fun h53 => ?_) (fun h53 => ?_)
        · refine g_iconst (pc2 := 93) dX8_isWord_92 k_iconst_0 rfl ?_
          exact g_zretT dX8_isWord_93 rfl (Nat.le_refl _) (Nat.le_refl _) (by first | (rw [show wordB tx n p a b c e = false from (by unfold wordB; first | (rw [decide_eq_false (show ¬ p + 4 < n by omega)]; rfl) | (rw [decide_eq_false h23]; simp; done) | (rw [decide_eq_false h38]; simp; done) | (rw [decide_eq_false h53]; simp; done) | (rw [decide_eq_false h69]; simp; done) | (rw [decide_eq_false h85]; simp; done))]; rfl) | (rw [show wordB tx n p a b c e = true from (by unfold wordB; rw [decide_eq_true (show p + 4 < n by omega), decide_eq_true h23, decide_eq_true h38, decide_eq_true h53, decide_eq_true h69, decide_eq_true h85]; rfl)]; rfl)) (rfl)
        · refine g_al0 (pc2 := 57) dX8_isWord_56 rfl ?_
          refine g_getr (pc2 := 60) (by rfl) (by rfl) flX8_19 dX8_isWord_57 rfl ?_
          refine g_al0 (pc2 := 61) dX8_isWord_60 rfl ?_
          refine g_geti (pc2 := 64) (by rfl) (by rfl) flX8_52 dX8_isWord_61 rfl ?_
          rw [hp]
          refine g_iconst (pc2 := 65) dX8_isWord_64 k_iconst_3 rfl ?_
          refine g_iaddN (pc2 := 66) dX8_isWord_65 rfl ?_
          refine g_iald (pc2 := 67) (by rfl) (by omega) (by decide) dX8_isWord_66 rfl ?_
          rw [q3.1]
          refine g_il4 (pc2 := 69) dX8_isWord_67 rfl ?_
          refine g_icmpN_ne 92 72 dX8_isWord_69 rfl rfl (by omega) (by omega) (fun h69 => ?_) (fun h69 => ?_)
          · refine g_iconst (pc2 := 93) dX8_isWord_92 k_iconst_0 rfl ?_
            exact g_zretT dX8_isWord_93 rfl (Nat.le_refl _) (Nat.le_refl _) (by first | (rw [show wordB tx n p a b c e = false from (by unfold wordB; first | (rw [decide_eq_false (show ¬ p + 4 < n by omega)]; rfl) | (rw [decide_eq_false h23]; simp; done) | (rw [decide_eq_false h38]; simp; done) | (rw [decide_eq_false h53]; simp; done) | (rw [decide_eq_false h69]; simp; done) | (rw [decide_eq_false h85]; simp; done))]; rfl) | (rw [show wordB tx n p a b c e = true from (by unfold wordB; rw [decide_eq_true (show p + 4 < n by omega), decide_eq_true h23, decide_eq_true h38, decide_eq_true h53, decide_eq_true h69, decide_eq_true h85]; rfl)]; rfl)) (rfl)
          · refine g_al0 (pc2 := 73) dX8_isWord_72 rfl ?_
            refine g_getr (pc2 := 76) (by rfl) (by rfl) flX8_19 dX8_isWord_73 rfl ?_
            refine g_al0 (pc2 := 77) dX8_isWord_76 rfl ?_
            refine g_geti (pc2 := 80) (by rfl) (by rfl) flX8_52 dX8_isWord_77 rfl ?_
            rw [hp]
            refine g_iconst (pc2 := 81) dX8_isWord_80 k_iconst_4 rfl ?_
            refine g_iaddN (pc2 := 82) dX8_isWord_81 rfl ?_
            refine g_iald (pc2 := 83) (by rfl) (by omega) (by decide) dX8_isWord_82 rfl ?_
            rw [q4.1]
            refine g_bipush (pc2 := 85) dX8_isWord_83 k_bipush_32 rfl ?_
            refine g_icmpN_ne 92 88 dX8_isWord_85 rfl rfl (by omega) (by omega) (fun h85 => ?_) (fun h85 => ?_)
            · refine g_iconst (pc2 := 93) dX8_isWord_92 k_iconst_0 rfl ?_
              exact g_zretT dX8_isWord_93 rfl (Nat.le_refl _) (Nat.le_refl _) (by first | (rw [show wordB tx n p a b c e = false from (by unfold wordB; first | (rw [decide_eq_false (show ¬ p + 4 < n by omega)]; rfl) | (rw [decide_eq_false h23]; simp; done) | (rw [decide_eq_false h38]; simp; done) | (rw [decide_eq_false h53]; simp; done) | (rw [decide_eq_false h69]; simp; done) | (rw [decide_eq_false h85]; simp; done))]; rfl) | (rw [show wordB tx n p a b c e = true from (by unfold wordB; rw [decide_eq_true (show p + 4 < n by omega), decide_eq_true h23, decide_eq_true h38, decide_eq_true h53, decide_eq_true h69, decide_eq_true h85]; rfl)]; rfl)) (rfl)
            · refine g_iconst (pc2 := 89) dX8_isWord_88 k_iconst_1 rfl ?_
              refine g_goto 93 dX8_isWord_89 rfl ?_
              exact g_zretT dX8_isWord_93 rfl (Nat.le_refl _) (Nat.le_refl _) (by first | (rw [show wordB tx n p a b c e = false from (by unfold wordB; first | (rw [decide_eq_false (show ¬ p + 4 < n by omega)]; rfl) | (rw [decide_eq_false h23]; simp; done) | (rw [decide_eq_false h38]; simp; done) | (rw [decide_eq_false h53]; simp; done) | (rw [decide_eq_false h69]; simp; done) | (rw [decide_eq_false h85]; simp; done))]; rfl) | (rw [show wordB tx n p a b c e = true from (by unfold wordB; rw [decide_eq_true (show p + 4 < n by omega), decide_eq_true h23, decide_eq_true h38, decide_eq_true h53, decide_eq_true h69, decide_eq_true h85]; rfl)]; rfl)) (rfl)
def numV (tx : Nat → Nat) (n p : Nat) : Nat × Nat := match numAt tx n p with
  | some q => q
  | none => (0, p)
def S_num (σ : lt_S) (q k : Nat) (v : Nat) : lt_S := lt_up (lt_up (lt_up σ 76 6 (nI q)) 81 k (nI v)) 76 8 (nI (k + 1))
theorem R_m_takesNumber (l : lt_L) (d : Nat) (σ : lt_S) {n p k : Nat} {tx : Nat → Nat} (hT : TX σ n tx) (hp : σ 76 6 = nI p) (hp3 : p ≤ 290) (hk : σ 76 8 = nI k) (hk6 : k < 6) : lt_T l (d + 3) mX8_takesNumber lt_SA σ [.ref 76] (some (bI (numAt tx n p).isSome)) (S_num σ (numV tx n p).2 k (numV tx n p).1) := by
  refine lt_T.of [some (.ref 76), none, none] rfl rfl (Nat.le_of_ble_eq_true rfl) ?_
  have t1 := hT.1
  have t2 := hT.2.1
  have t3 := hT.2.2
  -- the end, with the place q and the number v
  have fin : ∀ (σ1 : lt_S) (q v : Nat) (b : Bool), q ≤ 300 → σ1 = lt_up σ 76 6 (nI q) → b = decide (p < q) → (numAt tx n p).isSome = b → numV tx n p = (v, q) → lt_g l (d + 3) mX8_takesNumber lt_SA σ1 59 [some (.ref 76), some (.int (nI p)), some (.int (nI v))] [] (some (bI (numAt tx n p).isSome)) (S_num σ (numV tx n p).2 k (numV tx n p).1) := by
    intro σ1 q v b hq hσ1 hb hb2 hv
    subst hσ1
    rw [hv, hb2]
    have e8 : lt_up σ 76 6 (nI q) 76 8 = nI k := by rw [lt_up_ne _ _ _ (by decide)]; exact hk
    have e8b : lt_up (lt_up σ 76 6 (nI q)) 81 k (nI v) 76 8 = nI k := e8
    have e6 : lt_up (lt_up (lt_up σ 76 6 (nI q)) 81 k (nI v)) 76 8 (nI (k + 1)) 76 6 = nI q := by rw [lt_up_ne _ _ _ (by decide)]; exact lt_up_at σ 76 6 (nI q)
    refine g_al0 (pc2 := 60) dX8_takesNumber_59 rfl ?_
    refine g_getr (pc2 := 63) (by rfl) (by rfl) flX8_22 dX8_takesNumber_60 rfl ?_
    refine g_al0 (pc2 := 64) dX8_takesNumber_63 rfl ?_
    refine g_geti (pc2 := 67) (by rfl) (by rfl) flX8_66 dX8_takesNumber_64 rfl ?_
    rw [e8]
    refine g_il2 (pc2 := 68) dX8_takesNumber_67 rfl ?_
    refine g_iast (pc2 := 69) (by rfl) (by omega) (by decide) dX8_takesNumber_68 rfl ?_
    refine g_al0 (pc2 := 70) dX8_takesNumber_69 rfl ?_
    refine g_dup (pc2 := 71) dX8_takesNumber_70 rfl ?_
    refine g_geti (pc2 := 74) (by rfl) (by rfl) flX8_66 dX8_takesNumber_71 rfl ?_
    rw [e8b]
    refine g_iconst (pc2 := 75) dX8_takesNumber_74 k_iconst_1 rfl ?_
    refine g_iaddN (pc2 := 76) dX8_takesNumber_75 rfl ?_
    refine g_puti (pc2 := 79) (by rfl) (by rfl) flX8_66 (fpX8_8 _) (fun h => by first | cases h | rfl) dX8_takesNumber_76 rfl ?_
    refine g_al0 (pc2 := 80) dX8_takesNumber_79 rfl ?_
    refine g_geti (pc2 := 83) (by rfl) (by rfl) flX8_52 dX8_takesNumber_80 rfl ?_
    rw [e6]
    refine g_il1 (pc2 := 84) dX8_takesNumber_83 rfl ?_
    refine g_icmpN_le 91 87 dX8_takesNumber_84 rfl rfl (by omega) (by omega) (fun h84 => ?_) (fun h84 => ?_)
    · refine g_iconst (pc2 := 92) dX8_takesNumber_91 k_iconst_0 rfl ?_
      exact g_zretT dX8_takesNumber_92 rfl (Nat.le_refl _) (Nat.le_refl _) (by rw [hb]; first | (rw [decide_eq_true (by omega)]; rfl) | (rw [decide_eq_false (by omega)]; rfl)) (rfl)
    · refine g_iconst (pc2 := 88) dX8_takesNumber_87 k_iconst_1 rfl ?_
      refine g_goto 92 dX8_takesNumber_88 rfl ?_
      exact g_zretT dX8_takesNumber_92 rfl (Nat.le_refl _) (Nat.le_refl _) (by rw [hb]; first | (rw [decide_eq_true (by omega)]; rfl) | (rw [decide_eq_false (by omega)]; rfl)) (rfl)
  have hself : σ = lt_up σ 76 6 (nI p) := by rw [← hp, lt_up_self]
  have two : ∀ (σ1 : lt_S), σ1 = lt_up σ 76 6 (nI (p + 1)) → digB tx n p = true → lt_g l (d + 3) mX8_takesNumber lt_SA σ1 7 [some (.ref 76), some (.int (nI p)), some (.int (nI (10 * 0 + tx p - 48)))] [] (some (bI (numAt tx n p).isSome)) (S_num σ (numV tx n p).2 k (numV tx n p).1) := by
    intro σ1 h1 hd
    have hdd := hd
    simp only [digB, Bool.and_eq_true, decide_eq_true_eq] at hdd
    have e6 : σ1 76 6 = nI (p + 1) := by rw [h1, lt_up_at]
    have hT1 : TX σ1 n tx := by rw [h1]; exact ⟨by rw [lt_up_ne _ _ _ (by decide)]; exact t1, t2, t3⟩
    cases hd2 : digB tx n (p + 1) with
    | false =>
      refine g_al0 (pc2 := 8) dX8_takesNumber_7 rfl ?_
      refine g_geti (pc2 := 11) (by rfl) (by rfl) flX8_52 dX8_takesNumber_8 rfl ?_
      rw [e6]
      refine g_il1 (pc2 := 12) dX8_takesNumber_11 rfl ?_
      refine g_iconst (pc2 := 13) dX8_takesNumber_12 k_iconst_2 rfl ?_
      refine g_iaddN (pc2 := 14) dX8_takesNumber_13 rfl ?_
      refine g_icmpN_ge 59 17 dX8_takesNumber_14 rfl rfl (by omega) (by omega) (fun h14 => ?_) (fun h14 => ?_)
      · omega
      · refine g_al0 (pc2 := 18) dX8_takesNumber_17 rfl ?_
        refine g_bipush (pc2 := 20) dX8_takesNumber_18 k_bipush_48 rfl ?_
        refine g_bipush (pc2 := 22) dX8_takesNumber_20 k_bipush_57 rfl ?_
        refine g_cVi (pc2 := 25) (R_m_isAt l d _ hT1 e6 (by omega) 48 57 (by decide) (by decide)) meX8_isAt mlX8_62 (by rfl) ⟨_, rfl, rfl⟩ rfl rfl (by simp) ⟨Nat.le_refl _, Nat.le_refl _⟩ dX8_takesNumber_22 rfl ?_
        rw [show (decide (p + 1 < n) && (decide (48 ≤ tx (p + 1)) && decide (tx (p + 1) ≤ 57))) = false from hd2]
        refine g_if_eqB 59 28 dX8_takesNumber_25 rfl rfl (fun h25 => ?_) (fun h25 => ?_)
        · exact fin _ (p + 1) _ true (by omega) h1 (by simp) (by simp [numAt, hd, hd2]) (by simp [numV, numAt, hd, hd2])
        · cases h25
    | true =>
      have hd3 := hd2
      simp only [digB, Bool.and_eq_true, decide_eq_true_eq] at hd3
      have ht2 := t3 (p + 1) (by omega)
      have h80 : σ1 80 (p + 1) = nI (tx (p + 1)) := by rw [h1]; exact ht2.1
      have h2 : lt_up σ1 76 6 (nI (p + 1 + 1)) = lt_up σ 76 6 (nI (p + 2)) := by rw [h1, lt_up_up]
      refine g_al0 (pc2 := 8) dX8_takesNumber_7 rfl ?_
      refine g_geti (pc2 := 11) (by rfl) (by rfl) flX8_52 dX8_takesNumber_8 rfl ?_
      rw [e6]
      refine g_il1 (pc2 := 12) dX8_takesNumber_11 rfl ?_
      refine g_iconst (pc2 := 13) dX8_takesNumber_12 k_iconst_2 rfl ?_
      refine g_iaddN (pc2 := 14) dX8_takesNumber_13 rfl ?_
      refine g_icmpN_ge 59 17 dX8_takesNumber_14 rfl rfl (by omega) (by omega) (fun h14 => ?_) (fun h14 => ?_)
      · omega
      · refine g_al0 (pc2 := 18) dX8_takesNumber_17 rfl ?_
        refine g_bipush (pc2 := 20) dX8_takesNumber_18 k_bipush_48 rfl ?_
        refine g_bipush (pc2 := 22) dX8_takesNumber_20 k_bipush_57 rfl ?_
        refine g_cVi (pc2 := 25) (R_m_isAt l d _ hT1 e6 (by omega) 48 57 (by decide) (by decide)) meX8_isAt mlX8_62 (by rfl) ⟨_, rfl, rfl⟩ rfl rfl (by simp) ⟨Nat.le_refl _, Nat.le_refl _⟩ dX8_takesNumber_22 rfl ?_
        rw [show (decide (p + 1 < n) && (decide (48 ≤ tx (p + 1)) && decide (tx (p + 1) ≤ 57))) = true from hd2]
        refine g_if_eqB 59 28 dX8_takesNumber_25 rfl rfl (fun h25 => ?_) (fun h25 => ?_)
        · cases h25
        · refine g_bipush (pc2 := 30) dX8_takesNumber_28 k_bipush_10 rfl ?_
          refine g_il2 (pc2 := 31) dX8_takesNumber_30 rfl ?_
          refine g_imulN (pc2 := 32) dX8_takesNumber_31 rfl ?_
          refine g_al0 (pc2 := 33) dX8_takesNumber_32 rfl ?_
          refine g_getr (pc2 := 36) (by rfl) (by rfl) flX8_19 dX8_takesNumber_33 rfl ?_
          refine g_al0 (pc2 := 37) dX8_takesNumber_36 rfl ?_
          refine g_geti (pc2 := 40) (by rfl) (by rfl) flX8_52 dX8_takesNumber_37 rfl ?_
          rw [e6]
          refine g_iald (pc2 := 41) (by rfl) (by omega) (by decide) dX8_takesNumber_40 rfl ?_
          rw [h80]
          refine g_iaddN (pc2 := 42) dX8_takesNumber_41 rfl ?_
          refine g_bipush (pc2 := 44) dX8_takesNumber_42 k_bipush_48 rfl ?_
          refine g_isubN (pc2 := 45) dX8_takesNumber_44 rfl (by omega) ?_
          refine g_is2 (pc2 := 46) dX8_takesNumber_45 (by decide) rfl ?_
          refine g_al0 (pc2 := 47) dX8_takesNumber_46 rfl ?_
          refine g_dup (pc2 := 48) dX8_takesNumber_47 rfl ?_
          refine g_geti (pc2 := 51) (by rfl) (by rfl) flX8_52 dX8_takesNumber_48 rfl ?_
          rw [e6]
          refine g_iconst (pc2 := 52) dX8_takesNumber_51 k_iconst_1 rfl ?_
          refine g_iaddN (pc2 := 53) dX8_takesNumber_52 rfl ?_
          refine g_puti (pc2 := 56) (by rfl) (by rfl) flX8_52 (fpX8_6 _) (fun h => by first | cases h | rfl) dX8_takesNumber_53 rfl ?_
          refine g_goto 7 dX8_takesNumber_56 rfl ?_
          rw [h2]
          refine g_al0 (pc2 := 8) dX8_takesNumber_7 rfl ?_
          refine g_geti (pc2 := 11) (by rfl) (by rfl) flX8_52 dX8_takesNumber_8 rfl ?_
          rw [lt_up_at]
          refine g_il1 (pc2 := 12) dX8_takesNumber_11 rfl ?_
          refine g_iconst (pc2 := 13) dX8_takesNumber_12 k_iconst_2 rfl ?_
          refine g_iaddN (pc2 := 14) dX8_takesNumber_13 rfl ?_
          refine g_icmpN_ge 59 17 dX8_takesNumber_14 rfl rfl (by omega) (by omega) (fun _ => ?_) (fun h => absurd (Nat.le_refl _) h)
          refine fin _ (p + 2) _ true (by omega) rfl (by simp) (by simp [numAt, hd, hd2]) ?_
          simp [numV, numAt, hd, hd2]
          omega
  cases hd : digB tx n p with
  | false =>
    refine g_al0 (pc2 := 1) dX8_takesNumber_0 rfl ?_
    refine g_geti (pc2 := 4) (by rfl) (by rfl) flX8_52 dX8_takesNumber_1 rfl ?_
    rw [hp]
    refine g_is1 (pc2 := 5) dX8_takesNumber_4 (by decide) rfl ?_
    refine g_iconst (pc2 := 6) dX8_takesNumber_5 k_iconst_0 rfl ?_
    refine g_is2 (pc2 := 7) dX8_takesNumber_6 (by decide) rfl ?_
    refine g_al0 (pc2 := 8) dX8_takesNumber_7 rfl ?_
    refine g_geti (pc2 := 11) (by rfl) (by rfl) flX8_52 dX8_takesNumber_8 rfl ?_
    rw [hp]
    refine g_il1 (pc2 := 12) dX8_takesNumber_11 rfl ?_
    refine g_iconst (pc2 := 13) dX8_takesNumber_12 k_iconst_2 rfl ?_
    refine g_iaddN (pc2 := 14) dX8_takesNumber_13 rfl ?_
    refine g_icmpN_ge 59 17 dX8_takesNumber_14 rfl rfl (by omega) (by omega) (fun h14 => ?_) (fun h14 => ?_)
    · omega
    · refine g_al0 (pc2 := 18) dX8_takesNumber_17 rfl ?_
      refine g_bipush (pc2 := 20) dX8_takesNumber_18 k_bipush_48 rfl ?_
      refine g_bipush (pc2 := 22) dX8_takesNumber_20 k_bipush_57 rfl ?_
      refine g_cVi (pc2 := 25) (R_m_isAt l d _ hT hp (by omega) 48 57 (by decide) (by decide)) meX8_isAt mlX8_62 (by rfl) ⟨_, rfl, rfl⟩ rfl rfl (by simp) ⟨Nat.le_refl _, Nat.le_refl _⟩ dX8_takesNumber_22 rfl ?_
      rw [show (decide (p < n) && (decide (48 ≤ tx p) && decide (tx p ≤ 57))) = false from hd]
      refine g_if_eqB 59 28 dX8_takesNumber_25 rfl rfl (fun h25 => ?_) (fun h25 => ?_)
      · exact fin _ p 0 false (by omega) hself (by simp) (by simp [numAt, hd]) (by simp [numV, numAt, hd])
      · cases h25
  | true =>
    have hdd := hd
    simp only [digB, Bool.and_eq_true, decide_eq_true_eq] at hdd
    have ht := t3 p (by omega)
    refine g_al0 (pc2 := 1) dX8_takesNumber_0 rfl ?_
    refine g_geti (pc2 := 4) (by rfl) (by rfl) flX8_52 dX8_takesNumber_1 rfl ?_
    rw [hp]
    refine g_is1 (pc2 := 5) dX8_takesNumber_4 (by decide) rfl ?_
    refine g_iconst (pc2 := 6) dX8_takesNumber_5 k_iconst_0 rfl ?_
    refine g_is2 (pc2 := 7) dX8_takesNumber_6 (by decide) rfl ?_
    refine g_al0 (pc2 := 8) dX8_takesNumber_7 rfl ?_
    refine g_geti (pc2 := 11) (by rfl) (by rfl) flX8_52 dX8_takesNumber_8 rfl ?_
    rw [hp]
    refine g_il1 (pc2 := 12) dX8_takesNumber_11 rfl ?_
    refine g_iconst (pc2 := 13) dX8_takesNumber_12 k_iconst_2 rfl ?_
    refine g_iaddN (pc2 := 14) dX8_takesNumber_13 rfl ?_
    refine g_icmpN_ge 59 17 dX8_takesNumber_14 rfl rfl (by omega) (by omega) (fun h14 => ?_) (fun h14 => ?_)
    · omega
    · refine g_al0 (pc2 := 18) dX8_takesNumber_17 rfl ?_
      refine g_bipush (pc2 := 20) dX8_takesNumber_18 k_bipush_48 rfl ?_
      refine g_bipush (pc2 := 22) dX8_takesNumber_20 k_bipush_57 rfl ?_
      refine g_cVi (pc2 := 25) (R_m_isAt l d _ hT hp (by omega) 48 57 (by decide) (by decide)) meX8_isAt mlX8_62 (by rfl) ⟨_, rfl, rfl⟩ rfl rfl (by simp) ⟨Nat.le_refl _, Nat.le_refl _⟩ dX8_takesNumber_22 rfl ?_
      rw [show (decide (p < n) && (decide (48 ≤ tx p) && decide (tx p ≤ 57))) = true from hd]
      refine g_if_eqB 59 28 dX8_takesNumber_25 rfl rfl (fun h25 => ?_) (fun h25 => ?_)
      · cases h25
      · refine g_bipush (pc2 := 30) dX8_takesNumber_28 k_bipush_10 rfl ?_
        refine g_il2 (pc2 := 31) dX8_takesNumber_30 rfl ?_
        refine g_imulN (pc2 := 32) dX8_takesNumber_31 rfl ?_
        refine g_al0 (pc2 := 33) dX8_takesNumber_32 rfl ?_
        refine g_getr (pc2 := 36) (by rfl) (by rfl) flX8_19 dX8_takesNumber_33 rfl ?_
        refine g_al0 (pc2 := 37) dX8_takesNumber_36 rfl ?_
        refine g_geti (pc2 := 40) (by rfl) (by rfl) flX8_52 dX8_takesNumber_37 rfl ?_
        rw [hp]
        refine g_iald (pc2 := 41) (by rfl) (by omega) (by decide) dX8_takesNumber_40 rfl ?_
        rw [ht.1]
        refine g_iaddN (pc2 := 42) dX8_takesNumber_41 rfl ?_
        refine g_bipush (pc2 := 44) dX8_takesNumber_42 k_bipush_48 rfl ?_
        refine g_isubN (pc2 := 45) dX8_takesNumber_44 rfl (by omega) ?_
        refine g_is2 (pc2 := 46) dX8_takesNumber_45 (by decide) rfl ?_
        refine g_al0 (pc2 := 47) dX8_takesNumber_46 rfl ?_
        refine g_dup (pc2 := 48) dX8_takesNumber_47 rfl ?_
        refine g_geti (pc2 := 51) (by rfl) (by rfl) flX8_52 dX8_takesNumber_48 rfl ?_
        rw [hp]
        refine g_iconst (pc2 := 52) dX8_takesNumber_51 k_iconst_1 rfl ?_
        refine g_iaddN (pc2 := 53) dX8_takesNumber_52 rfl ?_
        refine g_puti (pc2 := 56) (by rfl) (by rfl) flX8_52 (fpX8_6 _) (fun h => by first | cases h | rfl) dX8_takesNumber_53 rfl ?_
        refine g_goto 7 dX8_takesNumber_56 rfl ?_
        exact two _ rfl hd
/-- what reading numbers may change -/
def PN (σ σ' : lt_S) : Prop := (∀ a, a ≠ 76 → a ≠ 81 → σ' a = σ a) ∧ ∀ k, k ≠ 6 → k ≠ 8 → σ' 76 k = σ 76 k
theorem PN.rf (σ : lt_S) : PN σ σ := ⟨fun _ _ _ => rfl, fun _ _ _ => rfl⟩
theorem PN.tr {σ σ' σ2 : lt_S} (h : PN σ σ') (h2 : PN σ' σ2) : PN σ σ2 := ⟨fun a h1 h3 => (h2.1 a h1 h3).trans (h.1 a h1 h3), fun k h1 h3 => (h2.2 k h1 h3).trans (h.2 k h1 h3)⟩
theorem PN.spot {σ σ' : lt_S} (h : PN σ σ') (x : Int32) : PN σ (lt_up σ' 76 6 x) := ⟨fun a h1 h3 => by rw [lt_up_nr _ _ _ h1]; exact h.1 a h1 h3, fun k h1 h3 => by rw [lt_up_ne _ _ _ h1]; exact h.2 k h1 h3⟩
theorem PN.many {σ σ' : lt_S} (h : PN σ σ') (x : Int32) : PN σ (lt_up σ' 76 8 x) := ⟨fun a h1 h3 => by rw [lt_up_nr _ _ _ h1]; exact h.1 a h1 h3, fun k h1 h3 => by rw [lt_up_ne _ _ _ h3]; exact h.2 k h1 h3⟩
theorem PN.told {σ σ' : lt_S} (h : PN σ σ') (j : Nat) (x : Int32) : PN σ (lt_up σ' 81 j x) := ⟨fun a h1 h3 => by rw [lt_up_nr _ _ _ h3]; exact h.1 a h1 h3, fun k h1 h3 => h.2 k h1 h3⟩
theorem PN.tx {σ σ' : lt_S} (h : PN σ σ') {n : Nat} {tx : Nat → Nat} (hT : TX σ n tx) : TX σ' n tx := ⟨by rw [h.2 5 (by decide) (by decide)]; exact hT.1, hT.2.1, by rw [h.1 80 (by decide) (by decide)]; exact hT.2.2⟩
/-- the numbers that are told, the place behind them -/
def Told (σ : lt_S) (ns : List Nat) (e : Nat) : Prop := σ 76 6 = nI e ∧ σ 76 8 = nI ns.length ∧ ∀ j, j < ns.length → σ 81 j = nI (ns.getD j 0)
def tnOk (tx : Nat → Nat) (n least : Nat) (q : Option (List Nat × Nat)) (k : Nat) : Bool := match q with
  | none => false
  | some r => decide (least ≤ k + r.1.length)
theorem R_m_tnLoop (l : lt_L) (d : Nat) (σ0 : lt_S) {n : Nat} {tx : Nat → Nat} (hT0 : TX σ0 n tx) (least most : Nat) (hl : least ≤ 6) (hm : most ≤ 6) : ∀ (j : Nat) (pre : List Nat) (p : Nat) (σ : lt_S) (x : Int32), pre.length + j = most → p ≤ 290 → PN σ0 σ → σ 76 6 = nI p → σ 76 8 = nI pre.length → (∀ i, i < pre.length → σ 81 i = nI (pre.getD i 0)) → x = bI true → ∀ z : Option Value,
    lt_G l (d + 4) 0 0 mX8_takesNumbers 0 0 lt_SA σ 17 [some (.ref 76), some (.int (nI least)), some (.int (nI most)), some (.int x), z] [] (fun r sh' σ' => r = some (bI (tnOk tx n least (numsAt tx n j p) pre.length)) ∧ sh' = lt_SA ∧ PN σ0 σ' ∧ ∀ q, numsAt tx n j p = some q → least ≤ pre.length + q.1.length → Told σ' (pre ++ q.1) q.2) := by
  intro j
  induction j with
  | zero =>
    intro pre p σ x hpm hp3 hP hp hk hpre hx z
    subst hx
    refine g_il3 (pc2 := 18) dX8_takesNumbers_17 rfl ?_
    refine g_if_eqB 68 21 dX8_takesNumbers_18 rfl rfl (fun h => by cases h) (fun _ => ?_)
    refine g_al0 (pc2 := 22) dX8_takesNumbers_21 rfl ?_
    refine g_geti (pc2 := 25) (by rfl) (by rfl) flX8_66 dX8_takesNumbers_22 rfl ?_
    rw [hk]
    refine g_il2 (pc2 := 26) dX8_takesNumbers_25 rfl ?_
    refine g_icmpN_eq 36 29 dX8_takesNumbers_26 rfl rfl (by omega) (by omega) (fun h26 => ?_) (fun h26 => ?_)
    · refine g_iconst (pc2 := 37) dX8_takesNumbers_36 k_iconst_0 rfl ?_
      exact g_zret dX8_takesNumbers_37 rfl (show narrow .boolean (.int (nI 0)) = .int (nI 0) from bI_nar false) (Nat.le_refl _) (Nat.le_refl _) ⟨rfl, rfl, hP, fun q hq => by cases hq⟩
    · omega
  | succ j ih =>
    intro pre p σ x hpm hp3 hP hp hk hpre hx z
    subst hx
    have hT := hP.tx hT0
    have tn := R_m_takesNumber l d σ hT hp hp3 hk (by omega)
    cases hnum : numAt tx n p with
    | none =>
      have hno : numsAt tx n (j + 1) p = none := by simp only [numsAt, hnum]
      rw [hnum] at tn
      rw [hno]
      refine g_il3 (pc2 := 18) dX8_takesNumbers_17 rfl ?_
      refine g_if_eqB 68 21 dX8_takesNumbers_18 rfl rfl (fun h => by cases h) (fun _ => ?_)
      refine g_al0 (pc2 := 22) dX8_takesNumbers_21 rfl ?_
      refine g_geti (pc2 := 25) (by rfl) (by rfl) flX8_66 dX8_takesNumbers_22 rfl ?_
      rw [hk]
      refine g_il2 (pc2 := 26) dX8_takesNumbers_25 rfl ?_
      refine g_icmpN_eq 36 29 dX8_takesNumbers_26 rfl rfl (by omega) (by omega) (fun h26 => ?_) (fun h26 => ?_)
      · omega
      · refine g_al0 (pc2 := 30) dX8_takesNumbers_29 rfl ?_
        refine g_cVi (pc2 := 33) (tn) meX8_takesNumber mlX8_69 (by rfl) ⟨_, rfl, rfl⟩ rfl rfl (by simp) ⟨Nat.le_refl _, Nat.le_refl _⟩ dX8_takesNumbers_30 rfl ?_
        refine g_if_neB 38 36 dX8_takesNumbers_33 rfl rfl (fun h33 => ?_) (fun h33 => ?_)
        · cases h33
        · refine g_iconst (pc2 := 37) dX8_takesNumbers_36 k_iconst_0 rfl ?_
          exact g_zret dX8_takesNumbers_37 rfl (show narrow .boolean (.int (nI 0)) = .int (nI 0) from bI_nar false) (Nat.le_refl _) (Nat.le_refl _) ⟨rfl, rfl, ((hP.spot _).told _ _).many _, fun q hq => by cases hq⟩
    | some q =>
      have hq := numAt_le hnum
      have hnv : numV tx n p = q := by unfold numV; rw [hnum]
      rw [hnum, hnv] at tn
      generalize hσ1 : S_num σ q.2 pre.length q.1 = σ1 at tn
      have hP1 : PN σ0 σ1 := by rw [← hσ1]; exact ((hP.spot _).told _ _).many _
      have hT1 := hP1.tx hT0
      have e6 : σ1 76 6 = nI q.2 := by rw [← hσ1]; unfold S_num; rw [lt_up_ne _ _ _ (by decide)]; exact lt_up_at σ 76 6 _
      have e8 : σ1 76 8 = nI (pre.length + 1) := by rw [← hσ1]; unfold S_num; rw [lt_up_at]
      have e81 : ∀ i, i < pre.length + 1 → σ1 81 i = nI ((pre ++ [q.1]).getD i 0) := by
        intro i hi
        rw [← hσ1]
        unfold S_num
        rw [lt_up_nr _ _ _ (by decide)]
        by_cases e : i = pre.length
        · subst e
          rw [lt_up_at]
          congr 1
          rw [List.getD_eq_getElem?_getD, List.getElem?_append_right (Nat.le_refl _), Nat.sub_self]
          rfl
        · rw [lt_up_ne _ _ _ e, List.getD_eq_getElem?_getD, List.getElem?_append_left (by omega), ← List.getD_eq_getElem?_getD]
          exact hpre i (by omega)
      cases hc : chB tx n q.2 44 with
      | true =>
        have hsome : numsAt tx n (j + 1) p = (match numsAt tx n j (q.2 + 1) with
          | none => none
          | some r => some (q.1 :: r.1, r.2)) := by
          simp only [numsAt, hnum, hc, if_true]
          cases numsAt tx n j (q.2 + 1) <;> rfl
        have hq2 : q.2 < n := by simp [chB] at hc; exact hc.1
        have h2n := hT.2.1
        have nxt := ih (pre ++ [q.1]) (q.2 + 1) (lt_up σ1 76 6 (nI (q.2 + 1))) (bI true) (by simp; omega) (by omega) (hP1.spot _) (by rw [lt_up_at]) (by rw [lt_up_ne _ _ _ (by decide), e8]; simp) (fun i hi => by rw [lt_up_nr _ _ _ (by decide)]; exact e81 i (by simpa using hi)) rfl
        have hQ : ∀ r sh' σ', (r = some (bI (tnOk tx n least (numsAt tx n j (q.2 + 1)) (pre ++ [q.1]).length)) ∧ sh' = lt_SA ∧ PN σ0 σ' ∧ ∀ u, numsAt tx n j (q.2 + 1) = some u → least ≤ (pre ++ [q.1]).length + u.1.length → Told σ' (pre ++ [q.1] ++ u.1) u.2) → (r = some (bI (tnOk tx n least (numsAt tx n (j + 1) p) pre.length)) ∧ sh' = lt_SA ∧ PN σ0 σ' ∧ ∀ u, numsAt tx n (j + 1) p = some u → least ≤ pre.length + u.1.length → Told σ' (pre ++ u.1) u.2) := by
          intro r sh' σ' hh
          obtain ⟨h1, h2, h3, h4⟩ := hh
          refine ⟨?_, h2, h3, ?_⟩
          · rw [h1, hsome]
            cases hx : numsAt tx n j (q.2 + 1) with
            | none => rfl
            | some u =>
              simp only [tnOk]
              rw [show (pre ++ [q.1]).length + u.1.length = pre.length + (q.1 :: u.1).length by simp; omega]
          · intro u hu hlu
            rw [hsome] at hu
            cases hx : numsAt tx n j (q.2 + 1) with
            | none => rw [hx] at hu; cases hu
            | some v =>
              rw [hx] at hu
              cases hu
              have := h4 v hx (by simp only [List.length_append, List.length_cons, List.length_nil] at hlu ⊢; omega)
              rw [List.append_assoc] at this
              exact this
        have nxt2 := fun z => lt_G.post hQ (nxt z)
        refine g_il3 (pc2 := 18) dX8_takesNumbers_17 rfl ?_
        refine g_if_eqB 68 21 dX8_takesNumbers_18 rfl rfl (fun h => by cases h) (fun _ => ?_)
        refine g_al0 (pc2 := 22) dX8_takesNumbers_21 rfl ?_
        refine g_geti (pc2 := 25) (by rfl) (by rfl) flX8_66 dX8_takesNumbers_22 rfl ?_
        rw [hk]
        refine g_il2 (pc2 := 26) dX8_takesNumbers_25 rfl ?_
        refine g_icmpN_eq 36 29 dX8_takesNumbers_26 rfl rfl (by omega) (by omega) (fun h26 => ?_) (fun h26 => ?_)
        · omega
        · refine g_al0 (pc2 := 30) dX8_takesNumbers_29 rfl ?_
          refine g_cVi (pc2 := 33) (tn) meX8_takesNumber mlX8_69 (by rfl) ⟨_, rfl, rfl⟩ rfl rfl (by simp) ⟨Nat.le_refl _, Nat.le_refl _⟩ dX8_takesNumbers_30 rfl ?_
          refine g_if_neB 38 36 dX8_takesNumbers_33 rfl rfl (fun h33 => ?_) (fun h33 => ?_)
          · refine g_al0 (pc2 := 39) dX8_takesNumbers_38 rfl ?_
            refine g_bipush (pc2 := 41) dX8_takesNumbers_39 k_bipush_44 rfl ?_
            refine g_bipush (pc2 := 43) dX8_takesNumbers_41 k_bipush_44 rfl ?_
            refine g_cVi (pc2 := 46) (R_m_isAt l (d + 1) _ hT1 e6 (by omega) 44 44 (by decide) (by decide)) meX8_isAt mlX8_62 (by rfl) ⟨_, rfl, rfl⟩ rfl rfl (by simp) ⟨Nat.le_refl _, Nat.le_refl _⟩ dX8_takesNumbers_43 rfl ?_
            rw [show (decide (q.2 < n) && (decide (44 ≤ tx q.2) && decide (tx q.2 ≤ 44))) = true from (by simp [chB] at hc; simp [hc.1, hc.2])]
            refine g_is3 (pc2 := 47) dX8_takesNumbers_46 (by decide) rfl ?_
            refine g_al0 (pc2 := 48) dX8_takesNumbers_47 rfl ?_
            refine g_dup (pc2 := 49) dX8_takesNumbers_48 rfl ?_
            refine g_geti (pc2 := 52) (by rfl) (by rfl) flX8_52 dX8_takesNumbers_49 rfl ?_
            rw [e6]
            refine g_il3 (pc2 := 53) dX8_takesNumbers_52 rfl ?_
            refine g_if_eqB 60 56 dX8_takesNumbers_53 rfl rfl (fun h53 => ?_) (fun h53 => ?_)
            · cases h53
            · refine g_iconst (pc2 := 57) dX8_takesNumbers_56 k_iconst_1 rfl ?_
              refine g_goto 61 dX8_takesNumbers_57 rfl ?_
              refine g_iaddN (pc2 := 62) dX8_takesNumbers_61 rfl ?_
              refine g_puti (pc2 := 65) (by rfl) (by rfl) flX8_52 (fpX8_6 _) (fun h => by first | cases h | rfl) dX8_takesNumbers_62 rfl ?_
              refine g_goto 17 dX8_takesNumbers_65 rfl ?_
              exact nxt2 _
          · cases h33
      | false =>
        have h44 : (decide (q.2 < n) && (decide (44 ≤ tx q.2) && decide (tx q.2 ≤ 44))) = false := by
          rw [← hc]
          unfold chB
          congr 1
          by_cases e : tx q.2 = 44
          · simp [e]
          · simp [e]; omega
        have hsome : numsAt tx n (j + 1) p = if chB tx n q.2 59 then some ([q.1], q.2 + 1) else none := by simp only [numsAt, hnum, hc]; rfl
        have h2n := hT.2.1
        have h59 : (decide (q.2 < n) && (decide (59 ≤ tx q.2) && decide (tx q.2 ≤ 59))) = chB tx n q.2 59 := by
          unfold chB
          congr 1
          by_cases e : tx q.2 = 59
          · simp [e]
          · simp [e]; omega
        have hP2 : PN σ0 (lt_up σ1 76 6 (nI (q.2 + 0))) := hP1.spot _
        have e6b : lt_up σ1 76 6 (nI (q.2 + 0)) = σ1 := by rw [Nat.add_zero, ← e6, lt_up_self]
        have fin : ∀ (x : Int32) (b : Bool), x = bI b → b = tnOk tx n least (numsAt tx n (j + 1) p) pre.length → lt_G l (d + 4) 0 0 mX8_takesNumbers 0 0 lt_SA σ1 94 [some (.ref 76), some (.int (nI least)), some (.int (nI most)), some (.int (bI false)), some (.int x)] [] (fun r sh' σ' => r = some (bI (tnOk tx n least (numsAt tx n (j + 1) p) pre.length)) ∧ sh' = lt_SA ∧ PN σ0 σ' ∧ ∀ q, numsAt tx n (j + 1) p = some q → least ≤ pre.length + q.1.length → Told σ' (pre ++ q.1) q.2) := by
          intro x b hx hb
          subst hx
          refine g_al0 (pc2 := 95) dX8_takesNumbers_94 rfl ?_
          refine g_dup (pc2 := 96) dX8_takesNumbers_95 rfl ?_
          refine g_geti (pc2 := 99) (by rfl) (by rfl) flX8_52 dX8_takesNumbers_96 rfl ?_
          rw [e6]
          refine g_iconst (pc2 := 100) dX8_takesNumbers_99 k_iconst_1 rfl ?_
          refine g_iaddN (pc2 := 101) dX8_takesNumbers_100 rfl ?_
          refine g_puti (pc2 := 104) (by rfl) (by rfl) flX8_52 (fpX8_6 _) (fun h => by first | cases h | rfl) dX8_takesNumbers_101 rfl ?_
          refine g_il4 (pc2 := 106) dX8_takesNumbers_104 rfl ?_
          refine g_zret dX8_takesNumbers_106 rfl (bI_nar b) (Nat.le_refl _) (Nat.le_refl _) ⟨by rw [hb], rfl, hP1.spot _, fun u hu hlu => ?_⟩
          rw [hsome] at hu
          split at hu
          · cases hu
            exact ⟨by rw [lt_up_at], by rw [lt_up_ne _ _ _ (by decide), e8]; simp, fun i hi => by rw [lt_up_nr _ _ _ (by decide)]; exact e81 i (by simpa using hi)⟩
          · cases hu
        refine g_il3 (pc2 := 18) dX8_takesNumbers_17 rfl ?_
        refine g_if_eqB 68 21 dX8_takesNumbers_18 rfl rfl (fun h => by cases h) (fun _ => ?_)
        refine g_al0 (pc2 := 22) dX8_takesNumbers_21 rfl ?_
        refine g_geti (pc2 := 25) (by rfl) (by rfl) flX8_66 dX8_takesNumbers_22 rfl ?_
        rw [hk]
        refine g_il2 (pc2 := 26) dX8_takesNumbers_25 rfl ?_
        refine g_icmpN_eq 36 29 dX8_takesNumbers_26 rfl rfl (by omega) (by omega) (fun h26 => ?_) (fun h26 => ?_)
        · omega
        · refine g_al0 (pc2 := 30) dX8_takesNumbers_29 rfl ?_
          refine g_cVi (pc2 := 33) (tn) meX8_takesNumber mlX8_69 (by rfl) ⟨_, rfl, rfl⟩ rfl rfl (by simp) ⟨Nat.le_refl _, Nat.le_refl _⟩ dX8_takesNumbers_30 rfl ?_
          refine g_if_neB 38 36 dX8_takesNumbers_33 rfl rfl (fun h33 => ?_) (fun h33 => ?_)
          · refine g_al0 (pc2 := 39) dX8_takesNumbers_38 rfl ?_
            refine g_bipush (pc2 := 41) dX8_takesNumbers_39 k_bipush_44 rfl ?_
            refine g_bipush (pc2 := 43) dX8_takesNumbers_41 k_bipush_44 rfl ?_
            refine g_cVi (pc2 := 46) (R_m_isAt l (d + 1) _ hT1 e6 (by omega) _ _ (by decide) (by decide)) meX8_isAt mlX8_62 (by rfl) ⟨_, rfl, rfl⟩ rfl rfl (by simp) ⟨Nat.le_refl _, Nat.le_refl _⟩ dX8_takesNumbers_43 rfl ?_
            rw [h44]
            refine g_is3 (pc2 := 47) dX8_takesNumbers_46 (by decide) rfl ?_
            refine g_al0 (pc2 := 48) dX8_takesNumbers_47 rfl ?_
            refine g_dup (pc2 := 49) dX8_takesNumbers_48 rfl ?_
            refine g_geti (pc2 := 52) (by rfl) (by rfl) flX8_52 dX8_takesNumbers_49 rfl ?_
            rw [e6]
            refine g_il3 (pc2 := 53) dX8_takesNumbers_52 rfl ?_
            refine g_if_eqB 60 56 dX8_takesNumbers_53 rfl rfl (fun h53 => ?_) (fun h53 => ?_)
            · refine g_iconst (pc2 := 61) dX8_takesNumbers_60 k_iconst_0 rfl ?_
              refine g_iaddN (pc2 := 62) dX8_takesNumbers_61 rfl ?_
              refine g_puti (pc2 := 65) (by rfl) (by rfl) flX8_52 (fpX8_6 _) (fun h => by first | cases h | rfl) dX8_takesNumbers_62 rfl ?_
              refine g_goto 17 dX8_takesNumbers_65 rfl ?_
              rw [e6b]
              refine g_il3 (pc2 := 18) dX8_takesNumbers_17 rfl ?_
              refine g_if_eqB 68 21 dX8_takesNumbers_18 rfl rfl (fun _ => ?_) (fun h => by cases h)
              refine g_al0 (pc2 := 69) dX8_takesNumbers_68 rfl ?_
              refine g_geti (pc2 := 72) (by rfl) (by rfl) flX8_66 dX8_takesNumbers_69 rfl ?_
              rw [e8]
              refine g_il1 (pc2 := 73) dX8_takesNumbers_72 rfl ?_
              refine g_icmpN_lt 91 76 dX8_takesNumbers_73 rfl rfl (by omega) (by omega) (fun h73 => ?_) (fun h73 => ?_)
              · refine g_iconst (pc2 := 92) dX8_takesNumbers_91 k_iconst_0 rfl ?_
                refine g_is4 (pc2 := 94) dX8_takesNumbers_92 (by decide) rfl ?_
                exact fin _ false bI_f.symm (by rw [hsome]; first | (rw [h84]; simp [tnOk]; done) | (rw [h84]; simp [tnOk]; omega) | (split <;> simp [tnOk] <;> omega))
              · refine g_al0 (pc2 := 77) dX8_takesNumbers_76 rfl ?_
                refine g_bipush (pc2 := 79) dX8_takesNumbers_77 k_bipush_59 rfl ?_
                refine g_bipush (pc2 := 81) dX8_takesNumbers_79 k_bipush_59 rfl ?_
                refine g_cVi (pc2 := 84) (R_m_isAt l (d + 1) _ hT1 e6 (by omega) _ _ (by decide) (by decide)) meX8_isAt mlX8_62 (by rfl) ⟨_, rfl, rfl⟩ rfl rfl (by simp) ⟨Nat.le_refl _, Nat.le_refl _⟩ dX8_takesNumbers_81 rfl ?_
                rw [h59]
                refine g_if_eqB 91 87 dX8_takesNumbers_84 rfl rfl (fun h84 => ?_) (fun h84 => ?_)
                · refine g_iconst (pc2 := 92) dX8_takesNumbers_91 k_iconst_0 rfl ?_
                  refine g_is4 (pc2 := 94) dX8_takesNumbers_92 (by decide) rfl ?_
                  exact fin _ false bI_f.symm (by rw [hsome]; first | (rw [h84]; simp [tnOk]; done) | (rw [h84]; simp [tnOk]; omega) | (split <;> simp [tnOk] <;> omega))
                · refine g_iconst (pc2 := 88) dX8_takesNumbers_87 k_iconst_1 rfl ?_
                  refine g_goto 92 dX8_takesNumbers_88 rfl ?_
                  refine g_is4 (pc2 := 94) dX8_takesNumbers_92 (by decide) rfl ?_
                  exact fin _ true bI_t.symm (by rw [hsome]; first | (rw [h84]; simp [tnOk]; done) | (rw [h84]; simp [tnOk]; omega) | (split <;> simp [tnOk] <;> omega))
            · cases h53
          · cases h33
theorem R_m_takesNumbers (l : lt_L) (d : Nat) (σ : lt_S) {n p : Nat} {tx : Nat → Nat} (hT : TX σ n tx) (hp : σ 76 6 = nI p) (hp2 : p ≤ 200) (least most : Nat) (hl : least ≤ 6) (hm : most ≤ 6) : lt_R l (d + 4) 0 0 mX8_takesNumbers lt_SA σ [.ref 76, .int (nI least), .int (nI most)] (fun r sh' σ' => r = some (bI (tnOk tx n least (numsAt tx n most (p + 5)) 0)) ∧ sh' = lt_SA ∧ PN σ σ' ∧ ∀ q, numsAt tx n most (p + 5) = some q → least ≤ q.1.length → Told σ' q.1 q.2) := by
  refine lt_R.of [some (.ref 76), some (.int (nI least)), some (.int (nI most)), none, none] rfl rfl (Nat.le_of_ble_eq_true rfl) ?_
  have lp := R_m_tnLoop l d σ hT least most hl hm most [] (p + 5) (lt_up (lt_up σ 76 6 (nI (p + 5))) 76 8 (nI 0)) (nI 1) (by simp) (by omega) (((PN.rf σ).spot _).many _) (by rw [lt_up_ne _ _ _ (by decide), lt_up_at]) (by rw [lt_up_at]; rfl) (fun i hi => absurd hi (by simp)) rfl
  simp only [List.length_nil, List.nil_append, Nat.zero_add] at lp
  refine g_al0 (pc2 := 1) dX8_takesNumbers_0 rfl ?_
  refine g_dup (pc2 := 2) dX8_takesNumbers_1 rfl ?_
  refine g_geti (pc2 := 5) (by rfl) (by rfl) flX8_52 dX8_takesNumbers_2 rfl ?_
  rw [hp]
  refine g_iconst (pc2 := 6) dX8_takesNumbers_5 k_iconst_5 rfl ?_
  refine g_iaddN (pc2 := 7) dX8_takesNumbers_6 rfl ?_
  refine g_puti (pc2 := 10) (by rfl) (by rfl) flX8_52 (fpX8_6 _) (fun h => by first | cases h | rfl) dX8_takesNumbers_7 rfl ?_
  refine g_al0 (pc2 := 11) dX8_takesNumbers_10 rfl ?_
  refine g_iconst (pc2 := 12) dX8_takesNumbers_11 k_iconst_0 rfl ?_
  refine g_puti (pc2 := 15) (by rfl) (by rfl) flX8_66 (fpX8_8 _) (fun h => by first | cases h | rfl) dX8_takesNumbers_12 rfl ?_
  refine g_iconst (pc2 := 16) dX8_takesNumbers_15 k_iconst_1 rfl ?_
  refine g_is3 (pc2 := 17) dX8_takesNumbers_16 (by decide) rfl ?_
  exact lp _
