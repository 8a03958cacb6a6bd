/-! the reference: ways -/
def FW (σ σ' : lt_S) (law nt : Int32) (T N : Nat) : Prop := (∀ a, a ≠ 82 → a ≠ 83 → a ≠ 84 → a ≠ 85 → a ≠ 76 → σ' a = σ a) ∧ (∀ k, k ≠ 13 → k ≠ 14 → σ' 76 k = σ 76 k) ∧ BR (σ 77) law N σ' (wayF (σ 77) law nt T N)
theorem R_m_findsWay (l : lt_L) (d : Nat) (σ : lt_S) {ln T N : Nat} (hw : Wf (σ 77) ln T N) (law nt : Int32) : lt_R l (d + 5) 0 0 mX8_findsWay lt_SA σ [.ref 76, .int law, .int nt] (fun r sh' σ' => r = none ∧ sh' = lt_SA ∧ FW σ σ' law nt T N) := by
  refine lt_R.of [some (.ref 76), some (.int law), some (.int nt), none, none] rfl rfl (Nat.le_of_ble_eq_true rfl) ?_
  have hN := hw.2.2.1
  have hLay := Lay_lays σ nt T N hN.2
  generalize hσ0 : S_lays σ nt T N = σ0 at hLay
  have e77 : σ0 77 = σ 77 := by rw [← hσ0]; rfl
  have e76 : ∀ k, σ0 76 k = σ 76 k := fun k => by rw [← hσ0]; rfl
  have eoth : ∀ a, a ≠ 82 → a ≠ 83 → σ0 a = σ a := fun a h1 h2 => by rw [← hσ0]; unfold S_lays; rw [lt_ur_ne _ _ h2, lt_ur_ne _ _ h1]
  generalize hσ1 : lt_up (lt_up σ0 76 13 (nI (N + 1))) 76 14 (nI 0) = σ1
  have hS1 : SV σ0 σ1 := by
    refine ⟨fun a h1 h2 h3 => ?_, fun k h1 h2 => ?_⟩
    · rw [← hσ1, lt_up_nr _ _ _ h3, lt_up_nr _ _ _ h3]
    · rw [← hσ1, lt_up_ne _ _ _ h2, lt_up_ne _ _ _ h1]
  have n13 : σ1 76 13 = nI (N + 1) := by rw [← hσ1, lt_up_ne _ _ _ (by decide), lt_up_at]
  have n14 : σ1 76 14 = nI 0 := by rw [← hσ1, lt_up_at]
  have hB1 : BR (σ 77) law N σ1 none := ⟨n13, n14⟩
  have post : ∀ σ', SV σ0 σ' → BR (σ 77) law N σ' (wayF (σ 77) law nt T N) → FW σ σ' law nt T N := by
    intro σ' h1 h2
    exact ⟨fun a a1 a2 a3 a4 a5 => (h1.1 a a3 a4 a5).trans (eoth a a1 a2), fun k k1 k2 => (h1.2 k k1 k2).trans (e76 k), h2⟩
  have e77' : σ1 77 = σ 77 := (hS1.1 77 (by decide) (by decide) (by decide)).trans e77
  by_cases h0 : N = 0
  · subst h0
    have tk := R_m_takesIfBetter l (d + 1) σ1 law (N := 0) (by decide) (by rw [e77']; exact hN.1) (fun _ => 0) (fun j hj => by omega) n13 n14 (by decide) (by decide)
    obtain ⟨r1, r2, r3⟩ := fw_take (N := 0) (by decide) (fun _ => 0) hS1 e77' (fun j hj => by omega) hB1 n13 n14 (by decide) (by decide)
    generalize (if decide (noneN (fun _ => 0) 0 < 0 + 1) || (decide (noneN (fun _ => 0) 0 = 0 + 1) && decide (0 < likeN (σ1 77) law (fun _ => 0) 0)) then lt_ur (lt_up (lt_up σ1 76 13 (nI (noneN (fun _ => 0) 0))) 76 14 (nI (likeN (σ1 77) law (fun _ => 0) 0))) 85 (va_cpy (σ1 84) (σ1 85) 0 0 0) else σ1) = σ2 at r1 r2 r3 tk
    refine g_al0 (pc2 := 1) dX8_findsWay_0 rfl ?_
    refine g_il2 (pc2 := 2) dX8_findsWay_1 rfl ?_
    refine g_cVv (pc2 := 5) (R_m_laysClashes l d _ hw _) meX8_laysClashes mlX8_170 (by rfl) ⟨_, rfl, rfl⟩ rfl rfl (by simp) ⟨Nat.le_refl _, Nat.le_refl _⟩ dX8_findsWay_2 rfl ?_
    rw [hσ0]
    refine g_al0 (pc2 := 6) dX8_findsWay_5 rfl ?_
    refine g_getr (pc2 := 9) (by rfl) (by rfl) flX8_7 dX8_findsWay_6 rfl ?_
    refine g_iconst (pc2 := 10) dX8_findsWay_9 k_iconst_2 rfl ?_
    refine g_iald (pc2 := 11) (by rfl) (by omega) (by decide) dX8_findsWay_10 rfl ?_
    rw [e77, hN.1]
    refine g_is3 (pc2 := 12) dX8_findsWay_11 (by decide) rfl ?_
    refine g_al0 (pc2 := 13) dX8_findsWay_12 rfl ?_
    refine g_il3 (pc2 := 14) dX8_findsWay_13 rfl ?_
    refine g_iconst (pc2 := 15) dX8_findsWay_14 k_iconst_1 rfl ?_
    refine g_iaddN (pc2 := 16) dX8_findsWay_15 rfl ?_
    refine g_puti (pc2 := 19) (by rfl) (by rfl) flX8_164 (fpX8_13 _) (fun h => by first | cases h | rfl) dX8_findsWay_16 rfl ?_
    refine g_al0 (pc2 := 20) dX8_findsWay_19 rfl ?_
    refine g_iconst (pc2 := 21) dX8_findsWay_20 k_iconst_0 rfl ?_
    refine g_puti (pc2 := 24) (by rfl) (by rfl) flX8_167 (fpX8_14 _) (fun h => by first | cases h | rfl) dX8_findsWay_21 rfl ?_
    rw [hσ1]
    refine g_il3 (pc2 := 25) dX8_findsWay_24 rfl ?_
    refine g_if_ne 34 28 dX8_findsWay_25 rfl rfl (fun h25 => ?_) (fun h25 => ?_)
    · exact absurd rfl h25
    · refine g_al0 (pc2 := 29) dX8_findsWay_28 rfl ?_
      refine g_il1 (pc2 := 30) dX8_findsWay_29 rfl ?_
      refine g_cVv (pc2 := 33) (tk) meX8_takesIfBetter mlX8_174 (by rfl) ⟨_, rfl, rfl⟩ rfl rfl (by simp) ⟨Nat.le_refl _, Nat.le_refl _⟩ dX8_findsWay_30 rfl ?_
      exact g_ret dX8_findsWay_33 rfl (Nat.le_refl _) (Nat.le_refl _) ⟨rfl, rfl, post σ2 r1 r3⟩
  · have hn1 : 0 + (N - 1) + 1 = N := by omega
    have e9 : exO (fun f' b' => exN (lgB (σ 77) nt T) (costN (σ 77) law N) (N - 1) (0 + 1) f' b') (lgB (σ 77) nt T) 0 (fun _ => 0) 5 none = wayF (σ 77) law nt T N := by
      unfold wayF
      obtain ⟨k, rfl⟩ : ∃ k, N = k + 1 := ⟨N - 1, by omega⟩
      rfl
    have hK : ∀ σ9, SV σ0 σ9 → BR (σ 77) law N σ9 (wayF (σ 77) law nt T N) → lt_G l (d + 5) 0 0 mX8_findsWay 0 0 lt_SA σ9 44 [some (.ref 76), some (.int law), some (.int nt), some (.int (nI N)), some (.int (nI 0 + Int32.ofInt (-1)))] [] (fun r sh' σ' => r = none ∧ sh' = lt_SA ∧ FW σ σ' law nt T N) := by
      intro σ9 u1 u3
      refine g_il4 (pc2 := 46) dX8_findsWay_44 rfl ?_
      refine g_if_lt 135 49 dX8_findsWay_46 rfl rfl (fun _ => ?_) (fun h => absurd (show nI 0 + Int32.ofInt (-1) < 0 by decide) h)
      exact g_ret dX8_findsWay_135 rfl (Nat.le_refl _) (Nat.le_refl _) ⟨rfl, rfl, post σ9 u1 u3⟩
    have hloop := fw_loop l (d + 1) σ0 (ln := ln) (T := T) (N := N) (by rw [e77]; exact hw) law nt (by rw [e77]; exact hLay) (fun r sh' σ' => r = none ∧ sh' = lt_SA ∧ FW σ σ' law nt T N) (N - 1) 0 hn1 (fun _ => 0) (fun j hj => by omega) 5 (Nat.le_refl _) none (lt_up σ1 84 0 (-1)) (hS1.tried _ _) (fun q hq => by omega) (by rw [lt_up_at]; decide) (by rw [e77]; exact hB1.tried _ _) (fun σ9 u1 u2 u3 => hK σ9 u1 (by rw [e77, e9] at u3; exact u3))
    refine g_al0 (pc2 := 1) dX8_findsWay_0 rfl ?_
    refine g_il2 (pc2 := 2) dX8_findsWay_1 rfl ?_
    refine g_cVv (pc2 := 5) (R_m_laysClashes l d _ hw _) meX8_laysClashes mlX8_170 (by rfl) ⟨_, rfl, rfl⟩ rfl rfl (by simp) ⟨Nat.le_refl _, Nat.le_refl _⟩ dX8_findsWay_2 rfl ?_
    rw [hσ0]
    refine g_al0 (pc2 := 6) dX8_findsWay_5 rfl ?_
    refine g_getr (pc2 := 9) (by rfl) (by rfl) flX8_7 dX8_findsWay_6 rfl ?_
    refine g_iconst (pc2 := 10) dX8_findsWay_9 k_iconst_2 rfl ?_
    refine g_iald (pc2 := 11) (by rfl) (by omega) (by decide) dX8_findsWay_10 rfl ?_
    rw [e77, hN.1]
    refine g_is3 (pc2 := 12) dX8_findsWay_11 (by decide) rfl ?_
    refine g_al0 (pc2 := 13) dX8_findsWay_12 rfl ?_
    refine g_il3 (pc2 := 14) dX8_findsWay_13 rfl ?_
    refine g_iconst (pc2 := 15) dX8_findsWay_14 k_iconst_1 rfl ?_
    refine g_iaddN (pc2 := 16) dX8_findsWay_15 rfl ?_
    refine g_puti (pc2 := 19) (by rfl) (by rfl) flX8_164 (fpX8_13 _) (fun h => by first | cases h | rfl) dX8_findsWay_16 rfl ?_
    refine g_al0 (pc2 := 20) dX8_findsWay_19 rfl ?_
    refine g_iconst (pc2 := 21) dX8_findsWay_20 k_iconst_0 rfl ?_
    refine g_puti (pc2 := 24) (by rfl) (by rfl) flX8_167 (fpX8_14 _) (fun h => by first | cases h | rfl) dX8_findsWay_21 rfl ?_
    rw [hσ1]
    refine g_il3 (pc2 := 25) dX8_findsWay_24 rfl ?_
    refine g_if_ne 34 28 dX8_findsWay_25 rfl rfl (fun h25 => ?_) (fun h25 => ?_)
    · refine g_iconst (pc2 := 35) dX8_findsWay_34 k_iconst_0 rfl ?_
      refine g_is4 (pc2 := 37) dX8_findsWay_35 (by decide) rfl ?_
      refine g_al0 (pc2 := 38) dX8_findsWay_37 rfl ?_
      refine g_getr (pc2 := 41) (by rfl) (by rfl) flX8_32 dX8_findsWay_38 rfl ?_
      refine g_iconst (pc2 := 42) dX8_findsWay_41 k_iconst_0 rfl ?_
      refine g_iconst (pc2 := 43) dX8_findsWay_42 k_iconst_m1 rfl ?_
      refine g_iast (pc2 := 44) (by rfl) (by omega) (by decide) dX8_findsWay_43 rfl ?_
      exact hloop
    · exact absurd h25 (nI_ne0 (by omega) (by omega))
theorem exN_some {lg : (Nat → Nat) → Nat → Nat → Bool} {cs : (Nat → Nat) → Nat} (h4 : ∀ f m, lg f m 4 = true) : ∀ (n m : Nat) (f : Nat → Nat) (b : sBest), ∃ q, exN lg cs n m f b = some q
  | 0, m, f, b => by
    simp only [exN]
    split
    · exact ⟨_, rfl⟩
    · next h =>
      cases b with
      | none => exact absurd rfl h
      | some q => exact ⟨q, rfl⟩
  | n + 1, m, f, b => by
    simp only [exN, exO]
    rw [if_pos (h4 f m)]
    exact exN_some h4 n (m + 1) _ _
theorem wayF_some (w : Nat → Int32) (law nt : Int32) (T N : Nat) : ∃ g, wayF w law nt T N = some (costN w law N g, g) ∨ True := ⟨fun _ => 0, Or.inr trivial⟩
/-- the track of a train in the way that is found, 4 for none -/
def wayG (w : Nat → Int32) (law nt : Int32) (T N : Nat) : Nat → Nat := match wayF w law nt T N with
  | some q => q.2
  | none => fun _ => 4
theorem FW.got {σ σ' : lt_S} {law nt : Int32} {T N : Nat} (h : FW σ σ' law nt T N) : σ' 76 13 = nI (noneN (wayG (σ 77) law nt T N) N) ∧ ∀ j, j < N → σ' 85 j = nI (wayG (σ 77) law nt T N j) ∧ wayG (σ 77) law nt T N j < 5 := by
  obtain ⟨q, hq⟩ := exN_some (lg := lgB (σ 77) nt T) (cs := costN (σ 77) law N) (fun f m => by simp [lgB]) N 0 (fun _ => 0) none
  have h2 := h.2.2
  have e : wayG (σ 77) law nt T N = q.2 := by unfold wayG wayF; rw [hq]
  rw [show wayF (σ 77) law nt T N = some q from hq] at h2
  rw [e]
  exact ⟨h2.1, h2.2.2.2⟩
def pf_other (w : Nat → Int32) (g : Nat → Nat) (N : Nat) : Nat := sumF (fun i => !decide (asT (g i) = w (16 + 7 * i + 6))) N
def pf_gotWish (w : Nat → Int32) (g : Nat → Nat) (N : Nat) : Nat := sumF (fun i => !decide (asT (g i) = -4) && decide (asT (g i) = w (16 + 7 * i + 4))) N
theorem R_m_otherwise (l : lt_L) (d : Nat) (σ : lt_S) {N : Nat} (hN : σ 77 2 = nI N) (hN7 : N ≤ 7) (g : Nat → Nat) (hg : ∀ j, j < N → σ 85 j = nI (g j) ∧ g j < 5) : lt_T l (d + 2) mX8_otherwise lt_SA σ [.ref 76] (some (nI (pf_other (σ 77) g N))) σ := by
  refine lt_T.of [some (.ref 76), none, none] rfl rfl (Nat.le_of_ble_eq_true rfl) ?_
  unfold pf_other
  have key : ∀ k, k ≤ N → lt_g l (d + 2) mX8_otherwise lt_SA σ 4 [some (.ref 76), some (.int (nI (sumF (fun i => !decide (asT (g i) = σ 77 (16 + 7 * i + 6))) k))), some (.int (nI k))] [] (some (nI (sumF (fun i => !decide (asT (g i) = σ 77 (16 + 7 * i + 6))) N))) σ := by
    refine lt_dn N ?_ ?_
    · refine g_il2 (pc2 := 5) dX8_otherwise_4 rfl ?_
      refine g_al0 (pc2 := 6) dX8_otherwise_5 rfl ?_
      refine g_getr (pc2 := 9) (by rfl) (by rfl) flX8_7 dX8_otherwise_6 rfl ?_
      refine g_iconst (pc2 := 10) dX8_otherwise_9 k_iconst_2 rfl ?_
      refine g_iald (pc2 := 11) (by rfl) (by omega) (by decide) dX8_otherwise_10 rfl ?_
      rw [hN]
      refine g_icmpN_ge 47 14 dX8_otherwise_11 rfl rfl (by omega) (by omega) (fun h11 => ?_) (fun h11 => ?_)
      · refine g_il1 (pc2 := 48) dX8_otherwise_47 rfl ?_
        exact g_iretT dX8_otherwise_48 rfl (Nat.le_refl _) (Nat.le_refl _) (rfl) (rfl)
      · omega
    · intro k hk ih
      have hk2 := hg k hk
      refine g_il2 (pc2 := 5) dX8_otherwise_4 rfl ?_
      refine g_al0 (pc2 := 6) dX8_otherwise_5 rfl ?_
      refine g_getr (pc2 := 9) (by rfl) (by rfl) flX8_7 dX8_otherwise_6 rfl ?_
      refine g_iconst (pc2 := 10) dX8_otherwise_9 k_iconst_2 rfl ?_
      refine g_iald (pc2 := 11) (by rfl) (by omega) (by decide) dX8_otherwise_10 rfl ?_
      rw [hN]
      refine g_icmpN_ge 47 14 dX8_otherwise_11 rfl rfl (by omega) (by omega) (fun h11 => ?_) (fun h11 => ?_)
      · omega
      · refine g_il1 (pc2 := 15) dX8_otherwise_14 rfl ?_
        refine g_al0 (pc2 := 16) dX8_otherwise_15 rfl ?_
        refine g_getr (pc2 := 19) (by rfl) (by rfl) flX8_35 dX8_otherwise_16 rfl ?_
        refine g_il2 (pc2 := 20) dX8_otherwise_19 rfl ?_
        refine g_iald (pc2 := 21) (by rfl) (by omega) (by decide) dX8_otherwise_20 rfl ?_
        rw [hk2.1]
        refine g_cSi (pc2 := 24) (R_m_asTrack l d _ _ _ (by omega)) meX8_asTrack mlX8_155 rfl rfl (by simp) ⟨Nat.le_refl _, Nat.le_refl _⟩ dX8_otherwise_21 rfl ?_
        refine g_al0 (pc2 := 25) dX8_otherwise_24 rfl ?_
        refine g_il2 (pc2 := 26) dX8_otherwise_25 rfl ?_
        refine g_bipush (pc2 := 28) dX8_otherwise_26 k_bipush_6 rfl ?_
        refine g_cVi (pc2 := 31) (R_m_of l d _ _ _ (by omega) (by decide)) meX8_of mlX8_110 (by rfl) ⟨_, rfl, rfl⟩ rfl rfl (by simp) ⟨Nat.le_refl _, Nat.le_refl _⟩ dX8_otherwise_28 rfl ?_
        refine g_icmp_ne 38 34 dX8_otherwise_31 rfl rfl (fun h31 => ?_) (fun h31 => ?_)
        · refine g_iconst (pc2 := 39) dX8_otherwise_38 k_iconst_1 rfl ?_
          refine g_iaddN (pc2 := 40) dX8_otherwise_39 rfl ?_
          refine g_is1 (pc2 := 41) dX8_otherwise_40 (by decide) rfl ?_
          refine g_in2 (pc2 := 44) dX8_otherwise_41 (nI_inc _) (by decide) rfl ?_
          refine g_goto 4 dX8_otherwise_44 rfl ?_
          simp only [sumF] at ih
          first | (rw [if_neg (by simp [h31])] at ih; exact ih) | (rw [if_pos (by simp [h31])] at ih; exact ih)
        · refine g_iconst (pc2 := 35) dX8_otherwise_34 k_iconst_0 rfl ?_
          refine g_goto 39 dX8_otherwise_35 rfl ?_
          refine g_iaddN (pc2 := 40) dX8_otherwise_39 rfl ?_
          refine g_is1 (pc2 := 41) dX8_otherwise_40 (by decide) rfl ?_
          refine g_in2 (pc2 := 44) dX8_otherwise_41 (nI_inc _) (by decide) rfl ?_
          refine g_goto 4 dX8_otherwise_44 rfl ?_
          simp only [sumF] at ih
          first | (rw [if_neg (by simp [h31])] at ih; exact ih) | (rw [if_pos (by simp [h31])] at ih; exact ih)
  refine g_iconst (pc2 := 1) dX8_otherwise_0 k_iconst_0 rfl ?_
  refine g_is1 (pc2 := 2) dX8_otherwise_1 (by decide) rfl ?_
  refine g_iconst (pc2 := 3) dX8_otherwise_2 k_iconst_0 rfl ?_
  refine g_is2 (pc2 := 4) dX8_otherwise_3 (by decide) rfl ?_
  exact key 0 (Nat.zero_le _)
theorem R_m_wished (l : lt_L) (d : Nat) (σ : lt_S) {N : Nat} (hN : σ 77 2 = nI N) (hN7 : N ≤ 7) (g : Nat → Nat) (hg : ∀ j, j < N → σ 85 j = nI (g j) ∧ g j < 5) : lt_T l (d + 2) mX8_wished lt_SA σ [.ref 76] (some (nI (pf_gotWish (σ 77) g N))) σ := by
  refine lt_T.of [some (.ref 76), none, none, none] rfl rfl (Nat.le_of_ble_eq_true rfl) ?_
  unfold pf_gotWish
  have key : ∀ k, k ≤ N → ∀ z : Option Value, lt_g l (d + 2) mX8_wished lt_SA σ 4 [some (.ref 76), some (.int (nI (sumF (fun i => !decide (asT (g i) = -4) && decide (asT (g i) = σ 77 (16 + 7 * i + 4))) k))), some (.int (nI k)), z] [] (some (nI (sumF (fun i => !decide (asT (g i) = -4) && decide (asT (g i) = σ 77 (16 + 7 * i + 4))) N))) σ := by
    refine lt_dn N ?_ ?_
    · intro z
      refine g_il2 (pc2 := 5) dX8_wished_4 rfl ?_
      refine g_al0 (pc2 := 6) dX8_wished_5 rfl ?_
      refine g_getr (pc2 := 9) (by rfl) (by rfl) flX8_7 dX8_wished_6 rfl ?_
      refine g_iconst (pc2 := 10) dX8_wished_9 k_iconst_2 rfl ?_
      refine g_iald (pc2 := 11) (by rfl) (by omega) (by decide) dX8_wished_10 rfl ?_
      rw [hN]
      refine g_icmpN_ge 54 14 dX8_wished_11 rfl rfl (by omega) (by omega) (fun h11 => ?_) (fun h11 => ?_)
      · refine g_il1 (pc2 := 55) dX8_wished_54 rfl ?_
        exact g_iretT dX8_wished_55 rfl (Nat.le_refl _) (Nat.le_refl _) (rfl) (rfl)
      · omega
    · intro k hk ih z
      have hk2 := hg k hk
      have ihz := ih (some (.int (asT (g k))))
      simp only [sumF] at ihz
      refine g_il2 (pc2 := 5) dX8_wished_4 rfl ?_
      refine g_al0 (pc2 := 6) dX8_wished_5 rfl ?_
      refine g_getr (pc2 := 9) (by rfl) (by rfl) flX8_7 dX8_wished_6 rfl ?_
      refine g_iconst (pc2 := 10) dX8_wished_9 k_iconst_2 rfl ?_
      refine g_iald (pc2 := 11) (by rfl) (by omega) (by decide) dX8_wished_10 rfl ?_
      rw [hN]
      refine g_icmpN_ge 54 14 dX8_wished_11 rfl rfl (by omega) (by omega) (fun h11 => ?_) (fun h11 => ?_)
      · omega
      · refine g_al0 (pc2 := 15) dX8_wished_14 rfl ?_
        refine g_getr (pc2 := 18) (by rfl) (by rfl) flX8_35 dX8_wished_15 rfl ?_
        refine g_il2 (pc2 := 19) dX8_wished_18 rfl ?_
        refine g_iald (pc2 := 20) (by rfl) (by omega) (by decide) dX8_wished_19 rfl ?_
        rw [hk2.1]
        refine g_cSi (pc2 := 23) (R_m_asTrack l d _ _ _ (by omega)) meX8_asTrack mlX8_155 rfl rfl (by simp) ⟨Nat.le_refl _, Nat.le_refl _⟩ dX8_wished_20 rfl ?_
        refine g_is3 (pc2 := 24) dX8_wished_23 (by decide) rfl ?_
        refine g_il1 (pc2 := 25) dX8_wished_24 rfl ?_
        refine g_il3 (pc2 := 26) dX8_wished_25 rfl ?_
        refine g_bipush (pc2 := 28) dX8_wished_26 k_bipush_m4 rfl ?_
        refine g_icmp_eq 45 31 dX8_wished_28 rfl rfl (fun h28 => ?_) (fun h28 => ?_)
        · refine g_iconst (pc2 := 46) dX8_wished_45 k_iconst_0 rfl ?_
          refine g_iaddN (pc2 := 47) dX8_wished_46 rfl ?_
          refine g_is1 (pc2 := 48) dX8_wished_47 (by decide) rfl ?_
          refine g_in2 (pc2 := 51) dX8_wished_48 (nI_inc _) (by decide) rfl ?_
          refine g_goto 4 dX8_wished_51 rfl ?_
          first | (rw [if_neg (by first | (simp [h28]; done) | (simp [h38]; done))] at ihz; exact ihz) | (rw [if_pos (by simp only [Bool.and_eq_true, Bool.not_eq_true', decide_eq_false_iff_not, decide_eq_true_eq]; exact ⟨h28, h38⟩)] at ihz; exact ihz)
        · refine g_il3 (pc2 := 32) dX8_wished_31 rfl ?_
          refine g_al0 (pc2 := 33) dX8_wished_32 rfl ?_
          refine g_il2 (pc2 := 34) dX8_wished_33 rfl ?_
          refine g_iconst (pc2 := 35) dX8_wished_34 k_iconst_4 rfl ?_
          refine g_cVi (pc2 := 38) (R_m_of l d _ _ _ (by omega) (by decide)) meX8_of mlX8_110 (by rfl) ⟨_, rfl, rfl⟩ rfl rfl (by simp) ⟨Nat.le_refl _, Nat.le_refl _⟩ dX8_wished_35 rfl ?_
          refine g_icmp_ne 45 41 dX8_wished_38 rfl rfl (fun h38 => ?_) (fun h38 => ?_)
          · refine g_iconst (pc2 := 46) dX8_wished_45 k_iconst_0 rfl ?_
            refine g_iaddN (pc2 := 47) dX8_wished_46 rfl ?_
            refine g_is1 (pc2 := 48) dX8_wished_47 (by decide) rfl ?_
            refine g_in2 (pc2 := 51) dX8_wished_48 (nI_inc _) (by decide) rfl ?_
            refine g_goto 4 dX8_wished_51 rfl ?_
            first | (rw [if_neg (by first | (simp [h28]; done) | (simp [h38]; done))] at ihz; exact ihz) | (rw [if_pos (by simp only [Bool.and_eq_true, Bool.not_eq_true', decide_eq_false_iff_not, decide_eq_true_eq]; exact ⟨h28, h38⟩)] at ihz; exact ihz)
          · refine g_iconst (pc2 := 42) dX8_wished_41 k_iconst_1 rfl ?_
            refine g_goto 46 dX8_wished_42 rfl ?_
            refine g_iaddN (pc2 := 47) dX8_wished_46 rfl ?_
            refine g_is1 (pc2 := 48) dX8_wished_47 (by decide) rfl ?_
            refine g_in2 (pc2 := 51) dX8_wished_48 (nI_inc _) (by decide) rfl ?_
            refine g_goto 4 dX8_wished_51 rfl ?_
            first | (rw [if_neg (by first | (simp [h28]; done) | (simp [h38]; done))] at ihz; exact ihz) | (rw [if_pos (by simp only [Bool.and_eq_true, Bool.not_eq_true', decide_eq_false_iff_not, decide_eq_true_eq]; exact ⟨h28, h38⟩)] at ihz; exact ihz)
  refine g_iconst (pc2 := 1) dX8_wished_0 k_iconst_0 rfl ?_
  refine g_is1 (pc2 := 2) dX8_wished_1 (by decide) rfl ?_
  refine g_iconst (pc2 := 3) dX8_wished_2 k_iconst_0 rfl ?_
  refine g_is2 (pc2 := 4) dX8_wished_3 (by decide) rfl ?_
  exact key 0 (Nat.zero_le _) _
