/-! the reference: the search goes on -/
/-- the arrays that laysClashes laid -/
def Lay (σ : lt_S) (w : Nat → Int32) (nt : Int32) (T N : Nat) : Prop := (∀ x, x < 4 * N → σ 82 x = bI (canB w nt T (x / 4) (x % 4))) ∧ ∀ x y, x < 4 * N → y < x → σ 83 (28 * x + y) = bI (clX w nt T x y)
theorem Lay_lays (σ : lt_S) (nt : Int32) (T N : Nat) (hN : N ≤ 7) : Lay (S_lays σ nt T N) (σ 77) nt T N := by
  refine ⟨fun x hx => ?_, fun x y hx hy => ?_⟩
  · unfold S_lays
    rw [lt_ur_ne _ _ (by decide), lt_ur_eq]
    exact if_pos hx
  · unfold S_lays
    rw [lt_ur_eq]
    unfold fill2
    rw [show (28 * x + y) / 28 = x by omega, show (28 * x + y) % 28 = y by omega]
    exact if_pos (by omega)
theorem R_m_may (l : lt_L) (d : Nat) (σ : lt_S) {w : Nat → Int32} {nt : Int32} {T N : Nat} (hN : N ≤ 7) (hL : Lay σ w nt T N) (f : Nat → Nat) (m o : Nat) (hm : m < N) (ho : o < 5) (hf : ∀ j, j < m → σ 84 j = nI (f j) ∧ f j < 5) : lt_T l (d + 1) mX8_may lt_SA σ [.ref 76, .int (nI m), .int (nI o)] (some (bI (lgB w nt T f m o))) σ := by
  refine lt_T.of [some (.ref 76), some (.int (nI m)), some (.int (nI o)), none, none] rfl rfl (Nat.le_of_ble_eq_true rfl) ?_
  by_cases h4 : o = 4
  · have e : lgB w nt T f m o = true := by simp [lgB, h4]
    rw [e]
    refine g_il2 (pc2 := 1) dX8_may_0 rfl ?_
    refine g_iconst (pc2 := 2) dX8_may_1 k_iconst_4 rfl ?_
    refine g_icmpN_eq 18 5 dX8_may_2 rfl rfl (by omega) (by omega) (fun h2 => ?_) (fun h2 => ?_)
    · refine g_iconst (pc2 := 19) dX8_may_18 k_iconst_1 rfl ?_
      refine g_goto 23 dX8_may_19 rfl ?_
      refine g_is3 (pc2 := 24) dX8_may_23 (by decide) rfl ?_
      refine g_iconst (pc2 := 25) dX8_may_24 k_iconst_0 rfl ?_
      refine g_is4 (pc2 := 27) dX8_may_25 (by decide) rfl ?_
      refine g_il4 (pc2 := 29) dX8_may_27 rfl ?_
      refine g_il1 (pc2 := 30) dX8_may_29 rfl ?_
      refine g_icmpN_ge 94 33 dX8_may_30 rfl rfl (by omega) (by omega) (fun h30 => ?_) (fun h30 => ?_)
      · refine g_il3 (pc2 := 95) dX8_may_94 rfl ?_
        exact g_zretT dX8_may_95 rfl (Nat.le_refl _) (Nat.le_refl _) (bI_t.symm) (rfl)
      · refine g_il3 (pc2 := 34) dX8_may_33 rfl ?_
        refine g_if_eq 94 37 dX8_may_34 rfl rfl (fun h => absurd h (nI_ne0 (by decide) (by decide))) (fun h34 => ?_)
        refine g_il2 (pc2 := 38) dX8_may_37 rfl ?_
        refine g_iconst (pc2 := 39) dX8_may_38 k_iconst_4 rfl ?_
        refine g_icmpN_ge 94 42 dX8_may_39 rfl rfl (by omega) (by omega) (fun h39 => ?_) (fun h39 => ?_)
        · refine g_il3 (pc2 := 95) dX8_may_94 rfl ?_
          exact g_zretT dX8_may_95 rfl (Nat.le_refl _) (Nat.le_refl _) (bI_t.symm) (rfl)
        · omega
    · exact absurd h4 h2
  · have hx := hL.1 (4 * m + o) (by omega)
    rw [show (4 * m + o) / 4 = m by omega, show (4 * m + o) % 4 = o by omega] at hx
    have e : lgB w nt T f m o = (canB w nt T m o && allB (fun j => decide (f j = 4) || !clB w nt T m o j (f j)) m) := by simp [lgB, h4]
    rw [e]
    have key : ∀ k, k ≤ m → ∀ (x : Int32) (b : Bool), x = bI b → b = (canB w nt T m o && allB (fun j => decide (f j = 4) || !clB w nt T m o j (f j)) k) → lt_g l (d + 1) mX8_may lt_SA σ 27 [some (.ref 76), some (.int (nI m)), some (.int (nI o)), some (.int x), some (.int (nI k))] [] (some (bI (canB w nt T m o && allB (fun j => decide (f j = 4) || !clB w nt T m o j (f j)) m))) σ := by
      refine lt_dn m ?_ ?_
      · intro x b hx2 hb
        subst hx2
        refine g_il4 (pc2 := 29) dX8_may_27 rfl ?_
        refine g_il1 (pc2 := 30) dX8_may_29 rfl ?_
        refine g_icmpN_ge 94 33 dX8_may_30 rfl rfl (by omega) (by omega) (fun h30 => ?_) (fun h30 => ?_)
        · refine g_il3 (pc2 := 95) dX8_may_94 rfl ?_
          exact g_zretT dX8_may_95 rfl (Nat.le_refl _) (Nat.le_refl _) (congrArg bI hb) (rfl)
        · omega
      · intro k hk ih x b hx2 hb
        subst hx2
        have hkf := hf k hk
        by_cases hb1 : b = false
        · have hfin : (canB w nt T m o && allB (fun j => decide (f j = 4) || !clB w nt T m o j (f j)) m) = false := by
            rw [hb1] at hb
            symm at hb
            simp only [Bool.and_eq_false_iff] at hb ⊢
            rcases hb with hb | hb
            · exact Or.inl hb
            · right
              cases e9 : allB (fun j => decide (f j = 4) || !clB w nt T m o j (f j)) m with
              | false => rfl
              | true =>
                have h9 : allB (fun j => decide (f j = 4) || !clB w nt T m o j (f j)) k = true := allB_iff.mpr (fun j hj => allB_iff.mp e9 j (by omega))
                rw [hb] at h9
                cases h9
          refine g_il4 (pc2 := 29) dX8_may_27 rfl ?_
          refine g_il1 (pc2 := 30) dX8_may_29 rfl ?_
          refine g_icmpN_ge 94 33 dX8_may_30 rfl rfl (by omega) (by omega) (fun h30 => ?_) (fun h30 => ?_)
          · omega
          · refine g_il3 (pc2 := 34) dX8_may_33 rfl ?_
            refine g_if_eqB 94 37 dX8_may_34 rfl rfl (fun h34 => ?_) (fun h34 => ?_)
            · refine g_il3 (pc2 := 95) dX8_may_94 rfl ?_
              exact g_zretT dX8_may_95 rfl (Nat.le_refl _) (Nat.le_refl _) (by rw [hb1, hfin]) (rfl)
            · exact absurd h34 (by rw [hb1]; decide)
        · have hb2 : b = true := by simpa using hb1
          have hfk4 := hkf.2
          have hyy : ¬ f k = 4 → σ 83 (28 * (4 * m + o) + 4 * k + f k) = bI (clB w nt T m o k (f k)) := by
            intro h9
            have := hL.2 (4 * m + o) (4 * k + f k) (by omega) (by omega)
            rw [show 28 * (4 * m + o) + 4 * k + f k = 28 * (4 * m + o) + (4 * k + f k) by omega, this]
            unfold clX clB
            rw [show (4 * m + o) / 4 = m by omega, show (4 * m + o) % 4 = o by omega, show (4 * k + f k) / 4 = k by omega, show (4 * k + f k) % 4 = f k by omega]
            have hmk : ¬ m = k := by omega
            simp [hmk, Bool.and_assoc]
          refine g_il4 (pc2 := 29) dX8_may_27 rfl ?_
          refine g_il1 (pc2 := 30) dX8_may_29 rfl ?_
          refine g_icmpN_ge 94 33 dX8_may_30 rfl rfl (by omega) (by omega) (fun h30 => ?_) (fun h30 => ?_)
          · omega
          · refine g_il3 (pc2 := 34) dX8_may_33 rfl ?_
            refine g_if_eqB 94 37 dX8_may_34 rfl rfl (fun h34 => ?_) (fun h34 => ?_)
            · exact absurd h34 (by rw [hb2]; decide)
            · refine g_il2 (pc2 := 38) dX8_may_37 rfl ?_
              refine g_iconst (pc2 := 39) dX8_may_38 k_iconst_4 rfl ?_
              refine g_icmpN_ge 94 42 dX8_may_39 rfl rfl (by omega) (by omega) (fun h39 => ?_) (fun h39 => ?_)
              · omega
              · refine g_al0 (pc2 := 43) dX8_may_42 rfl ?_
                refine g_getr (pc2 := 46) (by rfl) (by rfl) flX8_32 dX8_may_43 rfl ?_
                refine g_il4 (pc2 := 48) dX8_may_46 rfl ?_
                refine g_iald (pc2 := 49) (by rfl) (by omega) (by decide) dX8_may_48 rfl ?_
                rw [hkf.1]
                refine g_iconst (pc2 := 50) dX8_may_49 k_iconst_4 rfl ?_
                refine g_icmpN_eq 82 53 dX8_may_50 rfl rfl (by omega) (by omega) (fun h50 => ?_) (fun h50 => ?_)
                · refine g_iconst (pc2 := 83) dX8_may_82 k_iconst_1 rfl ?_
                  refine g_goto 87 dX8_may_83 rfl ?_
                  refine g_is3 (pc2 := 88) dX8_may_87 (by decide) rfl ?_
                  refine g_in4 (pc2 := 91) dX8_may_88 (nI_inc _) (by decide) rfl ?_
                  refine g_goto 27 dX8_may_91 rfl ?_
                  exact ih _ true bI_t.symm (by rw [hb2] at hb; symm at hb; simp only [Bool.and_eq_true] at hb; simp only [allB, hb.1, hb.2]; first | (simp [h50]; done) | (simp [h50, h79]; done))
                · refine g_al0 (pc2 := 54) dX8_may_53 rfl ?_
                  refine g_getr (pc2 := 57) (by rfl) (by rfl) flX8_29 dX8_may_54 rfl ?_
                  refine g_bipush (pc2 := 59) dX8_may_57 k_bipush_28 rfl ?_
                  refine g_iconst (pc2 := 60) dX8_may_59 k_iconst_4 rfl ?_
                  refine g_il1 (pc2 := 61) dX8_may_60 rfl ?_
                  refine g_imulN (pc2 := 62) dX8_may_61 rfl ?_
                  refine g_il2 (pc2 := 63) dX8_may_62 rfl ?_
                  refine g_iaddN (pc2 := 64) dX8_may_63 rfl ?_
                  refine g_imulN (pc2 := 65) dX8_may_64 rfl ?_
                  refine g_iconst (pc2 := 66) dX8_may_65 k_iconst_4 rfl ?_
                  refine g_il4 (pc2 := 68) dX8_may_66 rfl ?_
                  refine g_imulN (pc2 := 69) dX8_may_68 rfl ?_
                  refine g_iaddN (pc2 := 70) dX8_may_69 rfl ?_
                  refine g_al0 (pc2 := 71) dX8_may_70 rfl ?_
                  refine g_getr (pc2 := 74) (by rfl) (by rfl) flX8_32 dX8_may_71 rfl ?_
                  refine g_il4 (pc2 := 76) dX8_may_74 rfl ?_
                  refine g_iald (pc2 := 77) (by rfl) (by omega) (by decide) dX8_may_76 rfl ?_
                  rw [hkf.1]
                  refine g_iaddN (pc2 := 78) dX8_may_77 rfl ?_
                  refine g_zald (pc2 := 79) (by rfl) (by omega) (by decide) dX8_may_78 rfl ?_
                  rw [hyy (by omega)]
                  refine g_if_neB 86 82 dX8_may_79 rfl rfl (fun h79 => ?_) (fun h79 => ?_)
                  · refine g_iconst (pc2 := 87) dX8_may_86 k_iconst_0 rfl ?_
                    refine g_is3 (pc2 := 88) dX8_may_87 (by decide) rfl ?_
                    refine g_in4 (pc2 := 91) dX8_may_88 (nI_inc _) (by decide) rfl ?_
                    refine g_goto 27 dX8_may_91 rfl ?_
                    exact ih _ false bI_f.symm (by rw [hb2] at hb; symm at hb; simp only [Bool.and_eq_true] at hb; simp only [allB, hb.1, hb.2]; first | (simp [h50]; done) | (simp [h50, h79]; done))
                  · refine g_iconst (pc2 := 83) dX8_may_82 k_iconst_1 rfl ?_
                    refine g_goto 87 dX8_may_83 rfl ?_
                    refine g_is3 (pc2 := 88) dX8_may_87 (by decide) rfl ?_
                    refine g_in4 (pc2 := 91) dX8_may_88 (nI_inc _) (by decide) rfl ?_
                    refine g_goto 27 dX8_may_91 rfl ?_
                    exact ih _ true bI_t.symm (by rw [hb2] at hb; symm at hb; simp only [Bool.and_eq_true] at hb; simp only [allB, hb.1, hb.2]; first | (simp [h50]; done) | (simp [h50, h79]; done))
    refine g_il2 (pc2 := 1) dX8_may_0 rfl ?_
    refine g_iconst (pc2 := 2) dX8_may_1 k_iconst_4 rfl ?_
    refine g_icmpN_eq 18 5 dX8_may_2 rfl rfl (by omega) (by omega) (fun h2 => ?_) (fun h2 => ?_)
    · omega
    · refine g_al0 (pc2 := 6) dX8_may_5 rfl ?_
      refine g_getr (pc2 := 9) (by rfl) (by rfl) flX8_25 dX8_may_6 rfl ?_
      refine g_iconst (pc2 := 10) dX8_may_9 k_iconst_4 rfl ?_
      refine g_il1 (pc2 := 11) dX8_may_10 rfl ?_
      refine g_imulN (pc2 := 12) dX8_may_11 rfl ?_
      refine g_il2 (pc2 := 13) dX8_may_12 rfl ?_
      refine g_iaddN (pc2 := 14) dX8_may_13 rfl ?_
      refine g_zald (pc2 := 15) (by rfl) (by omega) (by decide) dX8_may_14 rfl ?_
      rw [hx]
      refine g_if_eqB 22 18 dX8_may_15 rfl rfl (fun h15 => ?_) (fun h15 => ?_)
      · refine g_iconst (pc2 := 23) dX8_may_22 k_iconst_0 rfl ?_
        refine g_is3 (pc2 := 24) dX8_may_23 (by decide) rfl ?_
        refine g_iconst (pc2 := 25) dX8_may_24 k_iconst_0 rfl ?_
        refine g_is4 (pc2 := 27) dX8_may_25 (by decide) rfl ?_
        exact key 0 (Nat.zero_le _) _ false bI_f.symm (by simp [allB, h15])
      · refine g_iconst (pc2 := 19) dX8_may_18 k_iconst_1 rfl ?_
        refine g_goto 23 dX8_may_19 rfl ?_
        refine g_is3 (pc2 := 24) dX8_may_23 (by decide) rfl ?_
        refine g_iconst (pc2 := 25) dX8_may_24 k_iconst_0 rfl ?_
        refine g_is4 (pc2 := 27) dX8_may_25 (by decide) rfl ?_
        exact key 0 (Nat.zero_le _) _ true bI_t.symm (by simp [allB, h15])
/-- the best that is found so far -/
def BR (w : Nat → Int32) (law : Int32) (N : Nat) (σ : lt_S) (b : sBest) : Prop := match b with
  | none => σ 76 13 = nI (N + 1) ∧ σ 76 14 = nI 0
  | some q => σ 76 13 = nI (noneN q.2 N) ∧ σ 76 14 = nI (likeN w law q.2 N) ∧ q.1 = costN w law N q.2 ∧ ∀ j, j < N → σ 85 j = nI (q.2 j) ∧ q.2 j < 5
theorem BR.nums {w : Nat → Int32} {law : Int32} {N : Nat} {σ : lt_S} {b : sBest} (h : BR w law N σ b) : ∃ fn fl : Nat, σ 76 13 = nI fn ∧ σ 76 14 = nI fl ∧ fn ≤ N + 1 ∧ fl ≤ N ∧ (∀ n k, n ≤ N → k ≤ N → (sLess (8 * n + (N - k)) b = true ↔ (n < fn ∨ (n = fn ∧ fl < k))) ∨ 7 < N) := by
  cases b with
  | none =>
    refine ⟨N + 1, 0, h.1, h.2, Nat.le_refl _, Nat.zero_le _, fun n k hn hk => Or.inl ⟨fun _ => by omega, fun _ => rfl⟩⟩
  | some q =>
    have h1 := sumF_le (fun i => decide (q.2 i = 4)) N
    have h2 := sumF_le (fun i => likeB w law i (q.2 i)) N
    refine ⟨noneN q.2 N, likeN w law q.2 N, h.1, h.2.1, Nat.le_succ_of_le h1, h2, fun n k hn hk => ?_⟩
    by_cases h7 : 7 < N
    · exact Or.inr h7
    · left
      have h2' : likeN w law q.2 N ≤ N := h2
      simp only [sLess, decide_eq_true_eq, h.2.2.1, costN]
      omega
theorem R_m_isWorth (l : lt_L) (d : Nat) (σ : lt_S) (law : Int32) {N : Nat} (hN : N ≤ 7) (hn : σ 77 2 = nI N) (f : Nat → Nat) (m : Nat) (hm : m ≤ N) (hf : ∀ j, j < m → σ 84 j = nI (f j) ∧ f j < 5) {fn fl : Nat} (h1 : σ 76 13 = nI fn) (h2 : σ 76 14 = nI fl) (h3 : fn ≤ 8) (h4 : fl ≤ 8) : lt_T l (d + 3) mX8_isWorth lt_SA σ [.ref 76, .int law, .int (nI m)] (some (bI (decide (noneN f m < fn) || (decide (noneN f m = fn) && decide (fl < likeN (σ 77) law f m + N - m))))) σ := by
  refine lt_T.of [some (.ref 76), some (.int law), some (.int (nI m)), none] rfl rfl (Nat.le_of_ble_eq_true rfl) ?_
  have q1 : noneN f m ≤ m := sumF_le _ m
  have q2 : likeN (σ 77) law f m ≤ m := sumF_le _ m
  refine g_al0 (pc2 := 1) dX8_isWorth_0 rfl ?_
  refine g_il2 (pc2 := 2) dX8_isWorth_1 rfl ?_
  refine g_cVi (pc2 := 5) (R_m_noneOf l (d + 1) _ f _ (by omega) hf) meX8_noneOf mlX8_158 (by rfl) ⟨_, rfl, rfl⟩ rfl rfl (by simp) ⟨Nat.le_refl _, Nat.le_refl _⟩ dX8_isWorth_2 rfl ?_
  refine g_is3 (pc2 := 6) dX8_isWorth_5 (by decide) rfl ?_
  refine g_il3 (pc2 := 7) dX8_isWorth_6 rfl ?_
  refine g_al0 (pc2 := 8) dX8_isWorth_7 rfl ?_
  refine g_geti (pc2 := 11) (by rfl) (by rfl) flX8_164 dX8_isWorth_8 rfl ?_
  rw [h1]
  refine g_icmpN_lt 44 14 dX8_isWorth_11 rfl rfl (by omega) (by omega) (fun h11 => ?_) (fun h11 => ?_)
  · refine g_iconst (pc2 := 45) dX8_isWorth_44 k_iconst_1 rfl ?_
    refine g_goto 49 dX8_isWorth_45 rfl ?_
    exact g_zretT dX8_isWorth_49 rfl (Nat.le_refl _) (Nat.le_refl _) (by first | (simp [bI, h11]; done) | (rw [decide_eq_false h11, decide_eq_false h19]; rfl) | (rw [decide_eq_false h11, decide_eq_true h19, decide_eq_false (by omega)]; rfl) | (rw [decide_eq_false h11, decide_eq_true h19, decide_eq_true (by omega)]; rfl)) (rfl)
  · refine g_il3 (pc2 := 15) dX8_isWorth_14 rfl ?_
    refine g_al0 (pc2 := 16) dX8_isWorth_15 rfl ?_
    refine g_geti (pc2 := 19) (by rfl) (by rfl) flX8_164 dX8_isWorth_16 rfl ?_
    rw [h1]
    refine g_icmpN_ne 48 22 dX8_isWorth_19 rfl rfl (by omega) (by omega) (fun h19 => ?_) (fun h19 => ?_)
    · refine g_iconst (pc2 := 49) dX8_isWorth_48 k_iconst_0 rfl ?_
      exact g_zretT dX8_isWorth_49 rfl (Nat.le_refl _) (Nat.le_refl _) (by first | (simp [bI, h11]; done) | (rw [decide_eq_false h11, decide_eq_false h19]; rfl) | (rw [decide_eq_false h11, decide_eq_true h19, decide_eq_false (by omega)]; rfl) | (rw [decide_eq_false h11, decide_eq_true h19, decide_eq_true (by omega)]; rfl)) (rfl)
    · refine g_al0 (pc2 := 23) dX8_isWorth_22 rfl ?_
      refine g_il1 (pc2 := 24) dX8_isWorth_23 rfl ?_
      refine g_il2 (pc2 := 25) dX8_isWorth_24 rfl ?_
      refine g_cVi (pc2 := 28) (R_m_like l d _ _ f _ (by omega) hf) meX8_like mlX8_161 (by rfl) ⟨_, rfl, rfl⟩ rfl rfl (by simp) ⟨Nat.le_refl _, Nat.le_refl _⟩ dX8_isWorth_25 rfl ?_
      refine g_al0 (pc2 := 29) dX8_isWorth_28 rfl ?_
      refine g_getr (pc2 := 32) (by rfl) (by rfl) flX8_7 dX8_isWorth_29 rfl ?_
      refine g_iconst (pc2 := 33) dX8_isWorth_32 k_iconst_2 rfl ?_
      refine g_iald (pc2 := 34) (by rfl) (by omega) (by decide) dX8_isWorth_33 rfl ?_
      rw [hn]
      refine g_iaddN (pc2 := 35) dX8_isWorth_34 rfl ?_
      refine g_il2 (pc2 := 36) dX8_isWorth_35 rfl ?_
      refine g_isubN (pc2 := 37) dX8_isWorth_36 rfl (by omega) ?_
      refine g_al0 (pc2 := 38) dX8_isWorth_37 rfl ?_
      refine g_geti (pc2 := 41) (by rfl) (by rfl) flX8_167 dX8_isWorth_38 rfl ?_
      rw [h2]
      refine g_icmpN_le 48 44 dX8_isWorth_41 rfl rfl (by omega) (by omega) (fun h41 => ?_) (fun h41 => ?_)
      · refine g_iconst (pc2 := 49) dX8_isWorth_48 k_iconst_0 rfl ?_
        exact g_zretT dX8_isWorth_49 rfl (Nat.le_refl _) (Nat.le_refl _) (by first | (simp [bI, h11]; done) | (rw [decide_eq_false h11, decide_eq_false h19]; rfl) | (rw [decide_eq_false h11, decide_eq_true h19, decide_eq_false (by omega)]; rfl) | (rw [decide_eq_false h11, decide_eq_true h19, decide_eq_true (by omega)]; rfl)) (rfl)
      · refine g_iconst (pc2 := 45) dX8_isWorth_44 k_iconst_1 rfl ?_
        refine g_goto 49 dX8_isWorth_45 rfl ?_
        exact g_zretT dX8_isWorth_49 rfl (Nat.le_refl _) (Nat.le_refl _) (by first | (simp [bI, h11]; done) | (rw [decide_eq_false h11, decide_eq_false h19]; rfl) | (rw [decide_eq_false h11, decide_eq_true h19, decide_eq_false (by omega)]; rfl) | (rw [decide_eq_false h11, decide_eq_true h19, decide_eq_true (by omega)]; rfl)) (rfl)
theorem R_m_takesIfBetter (l : lt_L) (d : Nat) (σ : lt_S) (law : Int32) {N : Nat} (hN : N ≤ 7) (hn : σ 77 2 = nI N) (f : Nat → Nat) (hf : ∀ j, j < N → σ 84 j = nI (f j) ∧ f j < 5) {fn fl : Nat} (h1 : σ 76 13 = nI fn) (h2 : σ 76 14 = nI fl) (h3 : fn ≤ 8) (h4 : fl ≤ 8) : lt_T l (d + 3) mX8_takesIfBetter lt_SA σ [.ref 76, .int law] none (if decide (noneN f N < fn) || (decide (noneN f N = fn) && decide (fl < likeN (σ 77) law f N)) then lt_ur (lt_up (lt_up σ 76 13 (nI (noneN f N))) 76 14 (nI (likeN (σ 77) law f N))) 85 (va_cpy (σ 84) (σ 85) 0 0 N) else σ) := by
  refine lt_T.of [some (.ref 76), some (.int law), none, none, none, none] rfl rfl (Nat.le_of_ble_eq_true rfl) ?_
  have q1 : noneN f N ≤ N := sumF_le _ N
  have q2 : likeN (σ 77) law f N ≤ N := sumF_le _ N
  generalize hs : (if decide (noneN f N < fn) || (decide (noneN f N = fn) && decide (fl < likeN (σ 77) law f N)) then lt_ur (lt_up (lt_up σ 76 13 (nI (noneN f N))) 76 14 (nI (likeN (σ 77) law f N))) 85 (va_cpy (σ 84) (σ 85) 0 0 N) else σ) = s2
  have yes : (decide (noneN f N < fn) || (decide (noneN f N = fn) && decide (fl < likeN (σ 77) law f N))) = true → lt_g l (d + 3) mX8_takesIfBetter lt_SA σ 46 [some (.ref 76), some (.int law), some (.int (nI N)), some (.int (nI (noneN f N))), some (.int (nI (likeN (σ 77) law f N))), none] [] none s2 := by
    intro hy
    rw [if_pos hy] at hs
    generalize hσ1 : lt_up (lt_up σ 76 13 (nI (noneN f N))) 76 14 (nI (likeN (σ 77) law f N)) = σ1 at hs
    have e84 : σ1 84 = σ 84 := by rw [← hσ1]; rfl
    have e85 : σ1 85 = σ 85 := by rw [← hσ1]; rfl
    rw [← e84, ← e85] at hs
    have key : ∀ k, k ≤ N → lt_g l (d + 3) mX8_takesIfBetter lt_SA (lt_ur σ1 85 (va_cpy (σ1 84) (σ1 85) 0 0 k)) 60 [some (.ref 76), some (.int law), some (.int (nI N)), some (.int (nI (noneN f N))), some (.int (nI (likeN (σ 77) law f N))), some (.int (nI k))] [] none s2 := by
      refine lt_dn N ?_ ?_
      · refine g_il5 (pc2 := 62) dX8_takesIfBetter_60 rfl ?_
        refine g_il2 (pc2 := 63) dX8_takesIfBetter_62 rfl ?_
        refine g_icmpN_ge 86 66 dX8_takesIfBetter_63 rfl rfl (by omega) (by omega) (fun h63 => ?_) (fun h63 => ?_)
        · exact g_retT dX8_takesIfBetter_86 rfl (Nat.le_refl _) (Nat.le_refl _) (hs)
        · omega
      · intro k hk ih
        refine g_il5 (pc2 := 62) dX8_takesIfBetter_60 rfl ?_
        refine g_il2 (pc2 := 63) dX8_takesIfBetter_62 rfl ?_
        refine g_icmpN_ge 86 66 dX8_takesIfBetter_63 rfl rfl (by omega) (by omega) (fun h63 => ?_) (fun h63 => ?_)
        · omega
        · refine g_al0 (pc2 := 67) dX8_takesIfBetter_66 rfl ?_
          refine g_getr (pc2 := 70) (by rfl) (by rfl) flX8_35 dX8_takesIfBetter_67 rfl ?_
          refine g_il5 (pc2 := 72) dX8_takesIfBetter_70 rfl ?_
          refine g_al0 (pc2 := 73) dX8_takesIfBetter_72 rfl ?_
          refine g_getr (pc2 := 76) (by rfl) (by rfl) flX8_32 dX8_takesIfBetter_73 rfl ?_
          refine g_il5 (pc2 := 78) dX8_takesIfBetter_76 rfl ?_
          refine g_iald (pc2 := 79) (by rfl) (by omega) (by decide) dX8_takesIfBetter_78 rfl ?_
          refine g_iast (pc2 := 80) (by rfl) (by omega) (by decide) dX8_takesIfBetter_79 rfl ?_
          refine g_in5 (pc2 := 83) dX8_takesIfBetter_80 (nI_inc _) (by decide) rfl ?_
          refine g_goto 60 dX8_takesIfBetter_83 rfl ?_
          rw [lt_up_ur, lt_ur_eq, lt_ur_ur, show lt_ur σ1 85 (va_cpy (σ1 84) (σ1 85) 0 0 k) 84 k = σ1 84 (0 + k) from congrArg (σ1 84) (Nat.zero_add k).symm]
          have e9 := cpy_s (f := σ1 84) (g := σ1 85) (sp := 0) (dp := 0) (n := k)
          rw [show 0 + k = k from Nat.zero_add k] at e9 ⊢
          rw [e9]
          exact ih
    have k0 := key 0 (Nat.zero_le _)
    rw [cpy_0, lt_ur_self, ← hσ1] at k0
    refine g_al0 (pc2 := 47) dX8_takesIfBetter_46 rfl ?_
    refine g_il3 (pc2 := 48) dX8_takesIfBetter_47 rfl ?_
    refine g_puti (pc2 := 51) (by rfl) (by rfl) flX8_164 (fpX8_13 _) (fun h => by first | cases h | rfl) dX8_takesIfBetter_48 rfl ?_
    refine g_al0 (pc2 := 52) dX8_takesIfBetter_51 rfl ?_
    refine g_il4 (pc2 := 54) dX8_takesIfBetter_52 rfl ?_
    refine g_puti (pc2 := 57) (by rfl) (by rfl) flX8_167 (fpX8_14 _) (fun h => by first | cases h | rfl) dX8_takesIfBetter_54 rfl ?_
    refine g_iconst (pc2 := 58) dX8_takesIfBetter_57 k_iconst_0 rfl ?_
    refine g_is5 (pc2 := 60) dX8_takesIfBetter_58 (by decide) rfl ?_
    exact k0
  refine g_al0 (pc2 := 1) dX8_takesIfBetter_0 rfl ?_
  refine g_getr (pc2 := 4) (by rfl) (by rfl) flX8_7 dX8_takesIfBetter_1 rfl ?_
  refine g_iconst (pc2 := 5) dX8_takesIfBetter_4 k_iconst_2 rfl ?_
  refine g_iald (pc2 := 6) (by rfl) (by omega) (by decide) dX8_takesIfBetter_5 rfl ?_
  rw [hn]
  refine g_is2 (pc2 := 7) dX8_takesIfBetter_6 (by decide) rfl ?_
  refine g_al0 (pc2 := 8) dX8_takesIfBetter_7 rfl ?_
  refine g_il2 (pc2 := 9) dX8_takesIfBetter_8 rfl ?_
  refine g_cVi (pc2 := 12) (R_m_noneOf l (d + 1) _ f _ hN hf) meX8_noneOf mlX8_158 (by rfl) ⟨_, rfl, rfl⟩ rfl rfl (by simp) ⟨Nat.le_refl _, Nat.le_refl _⟩ dX8_takesIfBetter_9 rfl ?_
  refine g_is3 (pc2 := 13) dX8_takesIfBetter_12 (by decide) rfl ?_
  refine g_al0 (pc2 := 14) dX8_takesIfBetter_13 rfl ?_
  refine g_il1 (pc2 := 15) dX8_takesIfBetter_14 rfl ?_
  refine g_il2 (pc2 := 16) dX8_takesIfBetter_15 rfl ?_
  refine g_cVi (pc2 := 19) (R_m_like l d _ _ f _ hN hf) meX8_like mlX8_161 (by rfl) ⟨_, rfl, rfl⟩ rfl rfl (by simp) ⟨Nat.le_refl _, Nat.le_refl _⟩ dX8_takesIfBetter_16 rfl ?_
  refine g_is4 (pc2 := 21) dX8_takesIfBetter_19 (by decide) rfl ?_
  refine g_il3 (pc2 := 22) dX8_takesIfBetter_21 rfl ?_
  refine g_al0 (pc2 := 23) dX8_takesIfBetter_22 rfl ?_
  refine g_geti (pc2 := 26) (by rfl) (by rfl) flX8_164 dX8_takesIfBetter_23 rfl ?_
  rw [h1]
  refine g_icmpN_lt 46 29 dX8_takesIfBetter_26 rfl rfl (by omega) (by omega) (fun h26 => ?_) (fun h26 => ?_)
  · exact yes (by first | (simp [h26]; done) | (simp [h34]; omega))
  · refine g_il3 (pc2 := 30) dX8_takesIfBetter_29 rfl ?_
    refine g_al0 (pc2 := 31) dX8_takesIfBetter_30 rfl ?_
    refine g_geti (pc2 := 34) (by rfl) (by rfl) flX8_164 dX8_takesIfBetter_31 rfl ?_
    rw [h1]
    refine g_icmpN_ne 86 37 dX8_takesIfBetter_34 rfl rfl (by omega) (by omega) (fun h34 => ?_) (fun h34 => ?_)
    · exact g_retT dX8_takesIfBetter_86 rfl (Nat.le_refl _) (Nat.le_refl _) (by rw [← hs, if_neg (by simp; omega)])
    · refine g_il4 (pc2 := 39) dX8_takesIfBetter_37 rfl ?_
      refine g_al0 (pc2 := 40) dX8_takesIfBetter_39 rfl ?_
      refine g_geti (pc2 := 43) (by rfl) (by rfl) flX8_167 dX8_takesIfBetter_40 rfl ?_
      rw [h2]
      refine g_icmpN_le 86 46 dX8_takesIfBetter_43 rfl rfl (by omega) (by omega) (fun h43 => ?_) (fun h43 => ?_)
      · exact g_retT dX8_takesIfBetter_86 rfl (Nat.le_refl _) (Nat.le_refl _) (by rw [← hs, if_neg (by simp; omega)])
      · exact yes (by first | (simp [h26]; done) | (simp [h34]; omega))
