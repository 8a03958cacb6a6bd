/-! bits of what is against -/
def anyB (p : Nat → Bool) : Nat → Bool
  | 0 => false
  | n + 1 => anyB p n || p n
theorem anyB_iff {p : Nat → Bool} : ∀ {n : Nat}, anyB p n = true ↔ ∃ j, j < n ∧ p j = true
  | 0 => ⟨(fun h => by cases h), (fun ⟨j, h, _⟩ => absurd h (Nat.not_lt_zero j))⟩
  | n + 1 => by
    simp only [anyB, Bool.or_eq_true]
    rw [anyB_iff]
    constructor
    · rintro (⟨j, h1, h2⟩ | h)
      · exact ⟨j, by omega, h2⟩
      · exact ⟨n, by omega, h⟩
    · rintro ⟨j, h1, h2⟩
      by_cases e : j = n
      · subst e; exact Or.inr h2
      · exact Or.inl ⟨j, by omega, h2⟩
theorem bt_0 (b : Nat) : bt (nI 0) b = false := by rw [nI_0]; exact b_0 b
theorem bt_1 (k : Nat) : bt (nI 1) k = decide (k = 0) := by
  by_cases h : k < 32
  · have : ∀ k, k < 32 → bt (nI 1) k = decide (k = 0) := by decide +kernel
    exact this k h
  · rw [b_big (by omega), decide_eq_false (by omega)]
theorem bt_one {s b : Nat} (hs : s < 32) (hb : b < 32) : bt (nI 1 <<< (nI s &&& 31)) b = decide (s = b) := by
  rw [b_shl s hs (nI 1) hb, bt_1]
  by_cases h : s = b
  · subst h; simp
  · rw [decide_eq_false h]
    by_cases h2 : s ≤ b
    · rw [decide_eq_true h2, decide_eq_false (by omega)]; rfl
    · rw [decide_eq_false h2]; rfl
theorem bt_orF (f : Nat → Int32) (b : Nat) : ∀ n, bt (orF f n) b = anyB (fun k => bt (f k) b) n
  | 0 => bt_0 b
  | n + 1 => by simp only [orF, anyB]; rw [b_or, bt_orF f b n]
theorem bt_ag {w : Nat → Int32} {T N i t j o : Nat} (hT : T ≤ 4) (hN : N ≤ 7) (hj : j < N) (ho : o < T) : bt (agF w T N i t) (j * 4 + o) = agB w i t j o := by
  unfold agF
  rw [bt_orF]
  have key : ∀ j', j' < N → bt (orF (agV w i t j') T) (j * 4 + o) = (decide (j' = j) && agB w i t j o) := by
    intro j' hj'
    rw [bt_orF]
    have k2 : ∀ o', o' < T → bt (agV w i t j' o') (j * 4 + o) = (decide (j' = j ∧ o' = o) && agB w i t j o) := by
      intro o' ho'
      unfold agV
      split
      · next h =>
        rw [bt_one (by omega) (by omega)]
        by_cases e : j' = j ∧ o' = o
        · obtain ⟨rfl, rfl⟩ := e
          simp [h]
        · rw [decide_eq_false (show ¬ j' * 4 + o' = j * 4 + o by omega), decide_eq_false e]; rfl
      · next h =>
        rw [bt_0]
        by_cases e : j' = j ∧ o' = o
        · obtain ⟨rfl, rfl⟩ := e
          have : agB w i t j' o' = false := by simpa using h
          rw [this]; simp
        · rw [decide_eq_false e]; rfl
    cases hB : (decide (j' = j) && agB w i t j o) with
    | true =>
      rw [anyB_iff]
      simp only [Bool.and_eq_true, decide_eq_true_eq] at hB
      exact ⟨o, ho, by rw [k2 o ho, hB.2]; simp [hB.1]⟩
    | false =>
      cases hA : anyB (fun k => bt (agV w i t j' k) (j * 4 + o)) T with
      | false => rfl
      | true =>
        obtain ⟨o', h1, h2⟩ := anyB_iff.mp hA
        rw [k2 o' h1] at h2
        simp only [Bool.and_eq_true, decide_eq_true_eq] at h2
        rw [h2.2, decide_eq_true h2.1.1] at hB
        cases hB
  cases hB : agB w i t j o with
  | true =>
    rw [anyB_iff]
    exact ⟨j, hj, by rw [key j hj, hB]; simp⟩
  | false =>
    cases hA : anyB (fun k => bt (orF (agV w i t k) T) (j * 4 + o)) N with
    | false => rfl
    | true =>
      obtain ⟨j', h1, h2⟩ := anyB_iff.mp hA
      rw [key j' h1, hB] at h2
      simp at h2
theorem and1_bt (x : Int32) : x &&& nI 1 = 0 ↔ bt x 0 = false := by
  constructor
  · intro h
    have : bt (x &&& nI 1) 0 = false := by rw [h]; exact b_0 0
    rw [b_and, bt_1] at this
    simpa using this
  · intro h
    refine b_ext (fun k hk => ?_)
    rw [b_and, bt_1, b_0]
    by_cases e : k = 0
    · subst e; rw [h]; rfl
    · rw [decide_eq_false e, Bool.and_false]
theorem shr1_bt {x : Int32} {s : Nat} (hs : s < 32) : (x >>> (nI s &&& 31)) &&& nI 1 = 0 ↔ bt x s = false := by
  rw [and1_bt, b_sshr s hs x (by decide), if_pos (by omega), Nat.add_zero]
/-! the class as it stands for a row -/
def CC (σ : lt_S) (w : Nat → Int32) (ln T N : Nat) : Prop := Wf w ln T N ∧ CY 13 σ w N ∧ CP 18 σ w N ∧ CA σ w T N
theorem pf_against_ag {w : Nat → Int32} {ln T N i t : Nat} (hw : Wf w ln T N) (hf : pf_fit w i t = true) {j o : Nat} (hj : j < N) (ho : o < T) (hp : w (16 + 7 * j + 6) = nI o) (hfo : pf_fit w j o = true) : agB w i t j o = pf_against w i t j := by
  have hT := hw.2.1.2.2
  unfold agB pf_against kindF
  rw [hp, tN_nI (by omega), hf, hfo, decide_eq_false (m4_ne (show o < 2 ^ 31 by omega))]
  simp only [Bool.and_self, if_true, Bool.not_false, Bool.true_and]
  congr 1
  by_cases h : pf_kind w i t j o = 0
  · simp [h]
  · rw [decide_eq_false h, decide_eq_true (by omega)]; rfl
theorem R_c_firstAgainst (l : lt_L) (d : Nat) (t : lt_H) (σ : lt_S) {w : Nat → Int32} {ln T N : Nat} (hc : CC σ w ln T N) (i a : Nat) (hi : i < N) (ha : a < T) (hf : pf_fit w i a = true) : lt_T l (d + 2) mX0_firstAgainst (lt_SC ++ t) σ [.ref 37, .int (nI i), .int (nI a)] (some (oI (pf_clashing w i a))) σ := by
  refine lt_T.of [some (.ref 37), some (.int (nI i)), some (.int (nI a)), none, none, none] rfl rfl (Nat.le_of_ble_eq_true rfl) ?_
  obtain ⟨hw, hy, hp, hA⟩ := hc
  have hN := hw.2.2.1
  have hT := hw.2.1
  have e2 : σ 13 2 = nI N := hy.1.2.2.1.trans hN.1
  have eA := hA i hi a ha
  have htr := hw.tr.2.1
  have key : ∀ k, k ≤ N → fstF (pf_against w i a) k = none → ∀ z : Option Value, lt_g l (d + 2) mX0_firstAgainst (lt_SC ++ t) σ 14 [some (.ref 37), some (.int (nI i)), some (.int (nI a)), some (.int (agF w T N i a)), some (.int (nI k)), z] [] (some (oI (pf_clashing w i a))) σ := by
    refine lt_dn N ?_ ?_
    · intro hk z
      refine g_il4 (pc2 := 16) dX0_firstAgainst_14 rfl ?_
      refine g_al0 (pc2 := 17) dX0_firstAgainst_16 rfl ?_
      refine g_getr (pc2 := 20) (by rfl) (by rfl) flX0_15 dX0_firstAgainst_17 rfl ?_
      refine g_geti (pc2 := 23) (by rfl) (by rfl) flX0_23 dX0_firstAgainst_20 rfl ?_
      rw [e2]
      refine g_icmpN_ge 68 26 dX0_firstAgainst_23 rfl rfl (by omega) (by omega) (fun h23 => ?_) (fun h23 => ?_)
      · refine g_bipush (pc2 := 70) dX0_firstAgainst_68 k_bipush_m4 rfl ?_
        exact g_iretT dX0_firstAgainst_70 rfl (Nat.le_refl _) (Nat.le_refl _) (by unfold pf_clashing; rw [htr, hk]; rfl) (rfl)
      · omega
    · intro k hk ih h0 z
      have e22 : σ 22 k = w (16 + 7 * k + 6) := (hp k hk).2.2.2
      by_cases hpl : w (16 + 7 * k + 6) = -4
      · have hn : pf_against w i a k = false := by simp [pf_against, hpl]
        have ih2 := ih (by simp only [fstF, h0, hn]; rfl)
        refine g_il4 (pc2 := 16) dX0_firstAgainst_14 rfl ?_
        refine g_al0 (pc2 := 17) dX0_firstAgainst_16 rfl ?_
        refine g_getr (pc2 := 20) (by rfl) (by rfl) flX0_15 dX0_firstAgainst_17 rfl ?_
        refine g_geti (pc2 := 23) (by rfl) (by rfl) flX0_23 dX0_firstAgainst_20 rfl ?_
        rw [e2]
        refine g_icmpN_ge 68 26 dX0_firstAgainst_23 rfl rfl (by omega) (by omega) (fun h23 => ?_) (fun h23 => ?_)
        · omega
        · refine g_al0 (pc2 := 27) dX0_firstAgainst_26 rfl ?_
          refine g_getr (pc2 := 30) (by rfl) (by rfl) flX0_19 dX0_firstAgainst_27 rfl ?_
          refine g_getr (pc2 := 33) (by rfl) (by rfl) flX0_83 dX0_firstAgainst_30 rfl ?_
          refine g_il4 (pc2 := 35) dX0_firstAgainst_33 rfl ?_
          refine g_iald (pc2 := 36) (by rfl) (by omega) (by decide) dX0_firstAgainst_35 rfl ?_
          rw [e22]
          refine g_is5 (pc2 := 38) dX0_firstAgainst_36 (by decide) rfl ?_
          refine g_il5 (pc2 := 40) dX0_firstAgainst_38 rfl ?_
          refine g_bipush (pc2 := 42) dX0_firstAgainst_40 k_bipush_m4 rfl ?_
          refine g_icmp_eq 62 45 dX0_firstAgainst_42 rfl rfl (fun h42 => ?_) (fun h42 => ?_)
          · refine g_in4 (pc2 := 65) dX0_firstAgainst_62 (nI_inc _) (by decide) rfl ?_
            refine g_goto 14 dX0_firstAgainst_65 rfl ?_
            exact ih2 _
          · exact absurd hpl h42
      · obtain ⟨o, ho1, ho2, ho3⟩ := hw.pl hk hpl
        have hab := pf_against_ag hw hf hk ho1 ho2 ho3
        have hbt := bt_ag (w := w) (i := i) (t := a) hT.2.2 hN.2 hk ho1
        rw [hab] at hbt
        have hsb : agF w T N i a >>> (nI (k * 4 + o) &&& 31) &&& nI 1 = 0 ↔ pf_against w i a k = false := by rw [shr1_bt (by omega), hbt]
        refine g_il4 (pc2 := 16) dX0_firstAgainst_14 rfl ?_
        refine g_al0 (pc2 := 17) dX0_firstAgainst_16 rfl ?_
        refine g_getr (pc2 := 20) (by rfl) (by rfl) flX0_15 dX0_firstAgainst_17 rfl ?_
        refine g_geti (pc2 := 23) (by rfl) (by rfl) flX0_23 dX0_firstAgainst_20 rfl ?_
        rw [e2]
        refine g_icmpN_ge 68 26 dX0_firstAgainst_23 rfl rfl (by omega) (by omega) (fun h23 => ?_) (fun h23 => ?_)
        · omega
        · refine g_al0 (pc2 := 27) dX0_firstAgainst_26 rfl ?_
          refine g_getr (pc2 := 30) (by rfl) (by rfl) flX0_19 dX0_firstAgainst_27 rfl ?_
          refine g_getr (pc2 := 33) (by rfl) (by rfl) flX0_83 dX0_firstAgainst_30 rfl ?_
          refine g_il4 (pc2 := 35) dX0_firstAgainst_33 rfl ?_
          refine g_iald (pc2 := 36) (by rfl) (by omega) (by decide) dX0_firstAgainst_35 rfl ?_
          rw [e22, ho2]
          refine g_is5 (pc2 := 38) dX0_firstAgainst_36 (by decide) rfl ?_
          refine g_il5 (pc2 := 40) dX0_firstAgainst_38 rfl ?_
          refine g_bipush (pc2 := 42) dX0_firstAgainst_40 k_bipush_m4 rfl ?_
          refine g_icmp_eq 62 45 dX0_firstAgainst_42 rfl rfl (fun h42 => ?_) (fun h42 => ?_)
          · exact absurd h42 (m4_ne (by omega))
          · refine g_il3 (pc2 := 46) dX0_firstAgainst_45 rfl ?_
            refine g_il4 (pc2 := 48) dX0_firstAgainst_46 rfl ?_
            refine g_il5 (pc2 := 50) dX0_firstAgainst_48 rfl ?_
            refine g_cSi (pc2 := 53) (R_c_seat l d _ _ _ _) meX0_seat mlX0_32 rfl rfl (by simp) ⟨Nat.le_refl _, Nat.le_refl _⟩ dX0_firstAgainst_50 rfl ?_
            refine g_ishr (pc2 := 54) dX0_firstAgainst_53 rfl ?_
            refine g_iconst (pc2 := 55) dX0_firstAgainst_54 k_iconst_1 rfl ?_
            refine g_iand (pc2 := 56) dX0_firstAgainst_55 rfl ?_
            refine g_if_eq 62 59 dX0_firstAgainst_56 rfl rfl (fun h56 => ?_) (fun h56 => ?_)
            · refine g_in4 (pc2 := 65) dX0_firstAgainst_62 (nI_inc _) (by decide) rfl ?_
              refine g_goto 14 dX0_firstAgainst_65 rfl ?_
              exact ih (by simp only [fstF, h0, hsb.mp h56]; rfl) _
            · refine g_il4 (pc2 := 61) dX0_firstAgainst_59 rfl ?_
              exact g_iretT dX0_firstAgainst_61 rfl (Nat.le_refl _) (Nat.le_refl _) (by unfold pf_clashing; rw [htr, fstF_at h0 (by simpa using mt hsb.mpr h56) N hk]; rfl) (rfl)
  refine g_al0 (pc2 := 1) dX0_firstAgainst_0 rfl ?_
  refine g_getr (pc2 := 4) (by rfl) (by rfl) flX0_9 dX0_firstAgainst_1 rfl ?_
  refine g_il1 (pc2 := 5) dX0_firstAgainst_4 rfl ?_
  refine g_il2 (pc2 := 6) dX0_firstAgainst_5 rfl ?_
  refine g_cSi (pc2 := 9) (R_c_seat l d _ _ _ _) meX0_seat mlX0_32 rfl rfl (by simp) ⟨Nat.le_refl _, Nat.le_refl _⟩ dX0_firstAgainst_6 rfl ?_
  refine g_iald (pc2 := 10) (by rfl) (by omega) (by decide) dX0_firstAgainst_9 rfl ?_
  rw [eA]
  refine g_is3 (pc2 := 11) dX0_firstAgainst_10 (by decide) rfl ?_
  refine g_iconst (pc2 := 12) dX0_firstAgainst_11 k_iconst_0 rfl ?_
  refine g_is4 (pc2 := 14) dX0_firstAgainst_12 (by decide) rfl ?_
  exact key 0 (Nat.zero_le _) rfl _
theorem R_c_isFree (l : lt_L) (d : Nat) (t : lt_H) (σ : lt_S) {w : Nat → Int32} {ln T N : Nat} (hc : CC σ w ln T N) (i a : Nat) (hi : i < N) (ha : a < T) : lt_T l (d + 3) mX0_isFree (lt_SC ++ t) σ [.ref 37, .int (nI i), .int (nI a)] (some (bI (decide (pf_why w i a = 0)))) σ := by
  refine lt_T.of [some (.ref 37), some (.int (nI i)), some (.int (nI a))] rfl rfl (Nat.le_of_ble_eq_true rfl) ?_
  have hw := hc.1
  have hT := hw.2.1
  cases hf : pf_fit w i a with
  | false =>
    have hn : ¬ pf_why w i a = 0 := fun h => by rw [pf_why_fit h] at hf; cases hf
    refine g_al0 (pc2 := 1) dX0_isFree_0 rfl ?_
    refine g_getr (pc2 := 4) (by rfl) (by rfl) flX0_15 dX0_isFree_1 rfl ?_
    refine g_il1 (pc2 := 5) dX0_isFree_4 rfl ?_
    refine g_il2 (pc2 := 6) dX0_isFree_5 rfl ?_
    refine g_cVi (pc2 := 9) (R_c_fits l d _ _ hc.2.1 _ _ hi (hw.ln hi) (by omega)) meX6_fits mlX0_43 (by rfl) ⟨_, rfl, rfl⟩ rfl rfl (by simp) ⟨Nat.le_refl _, Nat.le_refl _⟩ dX0_isFree_6 rfl ?_
    rw [hf]
    refine g_if_eqB 27 12 dX0_isFree_9 rfl rfl (fun h9 => ?_) (fun h9 => ?_)
    · refine g_iconst (pc2 := 28) dX0_isFree_27 k_iconst_0 rfl ?_
      exact g_zretT dX0_isFree_28 rfl (Nat.le_refl _) (Nat.le_refl _) (by rw [decide_eq_false hn]; rfl) (rfl)
    · cases h9
  | true =>
    have hff := hf
    simp only [pf_fit, Bool.and_eq_true, Bool.not_eq_true', decide_eq_false_iff_not] at hff
    cases hcl : pf_clashing w i a with
    | none =>
      have hn : pf_why w i a = 0 := by unfold pf_why; rw [if_neg hff.1, if_neg hff.2, hcl]
      refine g_al0 (pc2 := 1) dX0_isFree_0 rfl ?_
      refine g_getr (pc2 := 4) (by rfl) (by rfl) flX0_15 dX0_isFree_1 rfl ?_
      refine g_il1 (pc2 := 5) dX0_isFree_4 rfl ?_
      refine g_il2 (pc2 := 6) dX0_isFree_5 rfl ?_
      refine g_cVi (pc2 := 9) (R_c_fits l d _ _ hc.2.1 _ _ hi (hw.ln hi) (by omega)) meX6_fits mlX0_43 (by rfl) ⟨_, rfl, rfl⟩ rfl rfl (by simp) ⟨Nat.le_refl _, Nat.le_refl _⟩ dX0_isFree_6 rfl ?_
      rw [hf]
      refine g_if_eqB 27 12 dX0_isFree_9 rfl rfl (fun h9 => ?_) (fun h9 => ?_)
      · cases h9
      · refine g_al0 (pc2 := 13) dX0_isFree_12 rfl ?_
        refine g_il1 (pc2 := 14) dX0_isFree_13 rfl ?_
        refine g_il2 (pc2 := 15) dX0_isFree_14 rfl ?_
        refine g_cVi (pc2 := 18) (R_c_firstAgainst l d _ _ hc _ _ hi ha hf) meX0_firstAgainst mlX0_86 (by rfl) ⟨_, rfl, rfl⟩ rfl rfl (by simp) ⟨Nat.le_refl _, Nat.le_refl _⟩ dX0_isFree_15 rfl ?_
        rw [hcl]
        refine g_bipush (pc2 := 20) dX0_isFree_18 k_bipush_m4 rfl ?_
        refine g_icmp_ne 27 23 dX0_isFree_20 rfl rfl (fun h20 => ?_) (fun h20 => ?_)
        · exact absurd rfl h20
        · refine g_iconst (pc2 := 24) dX0_isFree_23 k_iconst_1 rfl ?_
          refine g_goto 28 dX0_isFree_24 rfl ?_
          exact g_zretT dX0_isFree_28 rfl (Nat.le_refl _) (Nat.le_refl _) (by rw [decide_eq_true hn]; rfl) (rfl)
    | some j =>
      have hn : ¬ pf_why w i a = 0 := by unfold pf_why; rw [if_neg hff.1, if_neg hff.2, hcl]; simp
      have hj := pf_clashing_lt hw j hcl
      refine g_al0 (pc2 := 1) dX0_isFree_0 rfl ?_
      refine g_getr (pc2 := 4) (by rfl) (by rfl) flX0_15 dX0_isFree_1 rfl ?_
      refine g_il1 (pc2 := 5) dX0_isFree_4 rfl ?_
      refine g_il2 (pc2 := 6) dX0_isFree_5 rfl ?_
      refine g_cVi (pc2 := 9) (R_c_fits l d _ _ hc.2.1 _ _ hi (hw.ln hi) (by omega)) meX6_fits mlX0_43 (by rfl) ⟨_, rfl, rfl⟩ rfl rfl (by simp) ⟨Nat.le_refl _, Nat.le_refl _⟩ dX0_isFree_6 rfl ?_
      rw [hf]
      refine g_if_eqB 27 12 dX0_isFree_9 rfl rfl (fun h9 => ?_) (fun h9 => ?_)
      · cases h9
      · refine g_al0 (pc2 := 13) dX0_isFree_12 rfl ?_
        refine g_il1 (pc2 := 14) dX0_isFree_13 rfl ?_
        refine g_il2 (pc2 := 15) dX0_isFree_14 rfl ?_
        refine g_cVi (pc2 := 18) (R_c_firstAgainst l d _ _ hc _ _ hi ha hf) meX0_firstAgainst mlX0_86 (by rfl) ⟨_, rfl, rfl⟩ rfl rfl (by simp) ⟨Nat.le_refl _, Nat.le_refl _⟩ dX0_isFree_15 rfl ?_
        rw [hcl]
        refine g_bipush (pc2 := 20) dX0_isFree_18 k_bipush_m4 rfl ?_
        refine g_icmp_ne 27 23 dX0_isFree_20 rfl rfl (fun h20 => ?_) (fun h20 => ?_)
        · refine g_iconst (pc2 := 28) dX0_isFree_27 k_iconst_0 rfl ?_
          exact g_zretT dX0_isFree_28 rfl (Nat.le_refl _) (Nat.le_refl _) (by rw [decide_eq_false hn]; rfl) (rfl)
        · exact absurd h20 (m4_ne hj)
theorem R_c_freeTracks (l : lt_L) (d : Nat) (t : lt_H) (σ : lt_S) {w : Nat → Int32} {ln T N : Nat} (hc : CC σ w ln T N) (i : Nat) (hi : i < N) : lt_T l (d + 4) mX0_freeTracks (lt_SC ++ t) σ [.ref 37, .int (nI i)] (some (nI (pf_hard w i))) σ := by
  refine lt_T.of [some (.ref 37), some (.int (nI i)), none, none] rfl rfl (Nat.le_of_ble_eq_true rfl) ?_
  have hw := hc.1
  have hT := hw.2.1
  have e1 : σ 13 1 = nI T := hc.2.1.1.2.1.trans hT.1
  unfold pf_hard
  rw [hw.tr.1]
  have key : ∀ k, k ≤ T → lt_g l (d + 4) mX0_freeTracks (lt_SC ++ t) σ 4 [some (.ref 37), some (.int (nI i)), some (.int (nI (sumF (fun t => decide (pf_why w i t = 0)) k))), some (.int (nI k))] [] (some (nI (sumF (fun t => decide (pf_why w i t = 0)) T))) σ := by
    refine lt_dn T ?_ ?_
    · refine g_il3 (pc2 := 5) dX0_freeTracks_4 rfl ?_
      refine g_al0 (pc2 := 6) dX0_freeTracks_5 rfl ?_
      refine g_getr (pc2 := 9) (by rfl) (by rfl) flX0_15 dX0_freeTracks_6 rfl ?_
      refine g_geti (pc2 := 12) (by rfl) (by rfl) flX0_29 dX0_freeTracks_9 rfl ?_
      rw [e1]
      refine g_icmpN_ge 33 15 dX0_freeTracks_12 rfl rfl (by omega) (by omega) (fun h12 => ?_) (fun h12 => ?_)
      · refine g_il2 (pc2 := 34) dX0_freeTracks_33 rfl ?_
        exact g_iretT dX0_freeTracks_34 rfl (Nat.le_refl _) (Nat.le_refl _) (rfl) (rfl)
      · omega
    · intro k hk ih
      refine g_il3 (pc2 := 5) dX0_freeTracks_4 rfl ?_
      refine g_al0 (pc2 := 6) dX0_freeTracks_5 rfl ?_
      refine g_getr (pc2 := 9) (by rfl) (by rfl) flX0_15 dX0_freeTracks_6 rfl ?_
      refine g_geti (pc2 := 12) (by rfl) (by rfl) flX0_29 dX0_freeTracks_9 rfl ?_
      rw [e1]
      refine g_icmpN_ge 33 15 dX0_freeTracks_12 rfl rfl (by omega) (by omega) (fun h12 => ?_) (fun h12 => ?_)
      · omega
      · refine g_al0 (pc2 := 16) dX0_freeTracks_15 rfl ?_
        refine g_il1 (pc2 := 17) dX0_freeTracks_16 rfl ?_
        refine g_il3 (pc2 := 18) dX0_freeTracks_17 rfl ?_
        refine g_cVi (pc2 := 21) (R_c_isFree l d _ _ hc _ _ hi hk) meX0_isFree mlX0_89 (by rfl) ⟨_, rfl, rfl⟩ rfl rfl (by simp) ⟨Nat.le_refl _, Nat.le_refl _⟩ dX0_freeTracks_18 rfl ?_
        refine g_if_eqB 27 24 dX0_freeTracks_21 rfl rfl (fun h21 => ?_) (fun h21 => ?_)
        · refine g_in3 (pc2 := 30) dX0_freeTracks_27 (nI_inc _) (by decide) rfl ?_
          refine g_goto 4 dX0_freeTracks_30 rfl ?_
          simp only [sumF, h21] at ih; exact ih
        · refine g_in2 (pc2 := 27) dX0_freeTracks_24 (nI_inc _) (by decide) rfl ?_
          refine g_in3 (pc2 := 30) dX0_freeTracks_27 (nI_inc _) (by decide) rfl ?_
          refine g_goto 4 dX0_freeTracks_30 rfl ?_
          simp only [sumF, h21] at ih; exact ih
  refine g_iconst (pc2 := 1) dX0_freeTracks_0 k_iconst_0 rfl ?_
  refine g_is2 (pc2 := 2) dX0_freeTracks_1 (by decide) rfl ?_
  refine g_iconst (pc2 := 3) dX0_freeTracks_2 k_iconst_0 rfl ?_
  refine g_is3 (pc2 := 4) dX0_freeTracks_3 (by decide) rfl ?_
  exact key 0 (Nat.zero_le _)
/-! the class: what is only read -/
theorem R_c_fittingTracks (l : lt_L) (d : Nat) (t : lt_H) (σ : lt_S) {w : Nat → Int32} {ln T N : Nat} (hc : CC σ w ln T N) (i : Nat) (hi : i < N) : lt_T l (d + 3) mX7_fittingTracks (lt_SC ++ t) σ [.ref 10, .int (nI i)] (some (pf_fits w i)) σ := by
  refine lt_T.of [some (.ref 10), some (.int (nI i)), none, none] rfl rfl (Nat.le_of_ble_eq_true rfl) ?_
  have hw := hc.1
  have hT := hw.2.1
  have e1 : σ 13 1 = nI T := hc.2.1.1.2.1.trans hT.1
  unfold pf_fits
  rw [hw.tr.1]
  have key : ∀ k, k ≤ T → lt_g l (d + 3) mX7_fittingTracks (lt_SC ++ t) σ 4 [some (.ref 10), some (.int (nI i)), some (.int (orF (fun t => if pf_fit w i t then nI 1 <<< (nI t &&& 31) else nI 0) k)), some (.int (nI k))] [] (some (orF (fun t => if pf_fit w i t then nI 1 <<< (nI t &&& 31) else nI 0) T)) σ := by
    refine lt_dn T ?_ ?_
    · refine g_il3 (pc2 := 5) dX7_fittingTracks_4 rfl ?_
      refine g_al0 (pc2 := 6) dX7_fittingTracks_5 rfl ?_
      refine g_getr (pc2 := 9) (by rfl) (by rfl) flX7_19 dX7_fittingTracks_6 rfl ?_
      refine g_geti (pc2 := 12) (by rfl) (by rfl) flX7_153 dX7_fittingTracks_9 rfl ?_
      rw [e1]
      refine g_icmpN_ge 39 15 dX7_fittingTracks_12 rfl rfl (by omega) (by omega) (fun h12 => ?_) (fun h12 => ?_)
      · refine g_il2 (pc2 := 40) dX7_fittingTracks_39 rfl ?_
        exact g_iretT dX7_fittingTracks_40 rfl (Nat.le_refl _) (Nat.le_refl _) (rfl) (rfl)
      · omega
    · intro k hk ih
      refine g_il3 (pc2 := 5) dX7_fittingTracks_4 rfl ?_
      refine g_al0 (pc2 := 6) dX7_fittingTracks_5 rfl ?_
      refine g_getr (pc2 := 9) (by rfl) (by rfl) flX7_19 dX7_fittingTracks_6 rfl ?_
      refine g_geti (pc2 := 12) (by rfl) (by rfl) flX7_153 dX7_fittingTracks_9 rfl ?_
      rw [e1]
      refine g_icmpN_ge 39 15 dX7_fittingTracks_12 rfl rfl (by omega) (by omega) (fun h12 => ?_) (fun h12 => ?_)
      · omega
      · refine g_al0 (pc2 := 16) dX7_fittingTracks_15 rfl ?_
        refine g_getr (pc2 := 19) (by rfl) (by rfl) flX7_19 dX7_fittingTracks_16 rfl ?_
        refine g_il1 (pc2 := 20) dX7_fittingTracks_19 rfl ?_
        refine g_il3 (pc2 := 21) dX7_fittingTracks_20 rfl ?_
        refine g_cVi (pc2 := 24) (R_c_fits l d _ _ hc.2.1 _ _ hi (hw.ln hi) (by omega)) meX6_fits mlX7_156 (by rfl) ⟨_, rfl, rfl⟩ rfl rfl (by simp) ⟨Nat.le_refl _, Nat.le_refl _⟩ dX7_fittingTracks_21 rfl ?_
        refine g_if_eqB 33 27 dX7_fittingTracks_24 rfl rfl (fun h24 => ?_) (fun h24 => ?_)
        · refine g_in3 (pc2 := 36) dX7_fittingTracks_33 (nI_inc _) (by decide) rfl ?_
          refine g_goto 4 dX7_fittingTracks_36 rfl ?_
          simp only [orF, h24] at ih
          first | exact ih | (rw [show (if false = true then nI 1 <<< (nI k &&& 31) else nI 0) = nI 0 from rfl, or_0] at ih; exact ih)
        · refine g_il2 (pc2 := 28) dX7_fittingTracks_27 rfl ?_
          refine g_iconst (pc2 := 29) dX7_fittingTracks_28 k_iconst_1 rfl ?_
          refine g_il3 (pc2 := 30) dX7_fittingTracks_29 rfl ?_
          refine g_ishl (pc2 := 31) dX7_fittingTracks_30 rfl ?_
          refine g_ior (pc2 := 32) dX7_fittingTracks_31 rfl ?_
          refine g_is2 (pc2 := 33) dX7_fittingTracks_32 (by decide) rfl ?_
          refine g_in3 (pc2 := 36) dX7_fittingTracks_33 (nI_inc _) (by decide) rfl ?_
          refine g_goto 4 dX7_fittingTracks_36 rfl ?_
          simp only [orF, h24] at ih
          first | exact ih | (rw [show (if false = true then nI 1 <<< (nI k &&& 31) else nI 0) = nI 0 from rfl, or_0] at ih; exact ih)
  refine g_iconst (pc2 := 1) dX7_fittingTracks_0 k_iconst_0 rfl ?_
  refine g_is2 (pc2 := 2) dX7_fittingTracks_1 (by decide) rfl ?_
  refine g_iconst (pc2 := 3) dX7_fittingTracks_2 k_iconst_0 rfl ?_
  refine g_is3 (pc2 := 4) dX7_fittingTracks_3 (by decide) rfl ?_
  exact key 0 (Nat.zero_le _)
theorem R_c_route (l : lt_L) (d : Nat) (t : lt_H) (σ : lt_S) {w : Nat → Int32} {ln T N : Nat} (hc : CC σ w ln T N) (a b : Int32) : lt_T l (d + 2) mX7_route (lt_SC ++ t) σ [.ref 10, .int a, .int b] (some (F_route w a b)) σ := by
  refine lt_T.of [some (.ref 10), some (.int a), some (.int b)] rfl rfl (Nat.le_of_ble_eq_true rfl) ?_
  have hw := hc.1
  have hL := hw.1
  have hT := hw.2.1
  have e0 : σ 13 0 = w 0 := hc.2.1.1.1
  have e1 : σ 13 1 = w 1 := hc.2.1.1.2.1
  refine g_al0 (pc2 := 1) dX7_route_0 rfl ?_
  refine g_getr (pc2 := 4) (by rfl) (by rfl) flX7_19 dX7_route_1 rfl ?_
  refine g_il1 (pc2 := 5) dX7_route_4 rfl ?_
  refine g_cVi (pc2 := 8) (R_c_hasLine13 l d _ _ _) meX6_hasLine mlX7_112 (by rfl) ⟨_, rfl, rfl⟩ rfl rfl (by simp) ⟨Nat.le_refl _, Nat.le_refl _⟩ dX7_route_5 rfl ?_
  rw [e0]
  refine g_if_eqB 22 11 dX7_route_8 rfl rfl (fun h8 => ?_) (fun h8 => ?_)
  · refine g_iconst (pc2 := 23) dX7_route_22 k_iconst_m1 rfl ?_
    exact g_iretT dX7_route_23 rfl (Nat.le_refl _) (Nat.le_refl _) (by first | (simp [F_route, h8]; done) | (simp [F_route, h19]; done)) (rfl)
  · refine g_al0 (pc2 := 12) dX7_route_11 rfl ?_
    refine g_getr (pc2 := 15) (by rfl) (by rfl) flX7_19 dX7_route_12 rfl ?_
    refine g_il2 (pc2 := 16) dX7_route_15 rfl ?_
    refine g_cVi (pc2 := 19) (R_c_hasTrack13 l d _ _ _) meX6_hasTrack mlX7_115 (by rfl) ⟨_, rfl, rfl⟩ rfl rfl (by simp) ⟨Nat.le_refl _, Nat.le_refl _⟩ dX7_route_16 rfl ?_
    rw [e1]
    refine g_if_neB 24 22 dX7_route_19 rfl rfl (fun h19 => ?_) (fun h19 => ?_)
    · have h8b := h8
      have h19b := h19
      rw [hL.1] at h8
      obtain ⟨a, ha, rfl⟩ := hasB_ix (by omega) h8
      rw [hT.1] at h19
      obtain ⟨b, hb, rfl⟩ := hasB_ix (by omega) h19
      have e9 : σ 14 (a * 4 + b) = w (4 + (a * 4 + b)) := hc.2.1.2.1 _ (by omega)
      refine g_al0 (pc2 := 25) dX7_route_24 rfl ?_
      refine g_getr (pc2 := 28) (by rfl) (by rfl) flX7_19 dX7_route_25 rfl ?_
      refine g_il1 (pc2 := 29) dX7_route_28 rfl ?_
      refine g_il2 (pc2 := 30) dX7_route_29 rfl ?_
      refine g_cVi (pc2 := 33) (R_c_switchesOf l d _ _ _ _ (by omega) (by omega)) meX6_switchesOf mlX7_118 (by rfl) ⟨_, rfl, rfl⟩ rfl rfl (by simp) ⟨Nat.le_refl _, Nat.le_refl _⟩ dX7_route_30 rfl ?_
      exact g_iretT dX7_route_33 rfl (Nat.le_refl _) (Nat.le_refl _) (by rw [e9]; simp only [F_route, h8b, h19b, tN_nI (show a < 2 ^ 31 by omega), tN_nI (show b < 2 ^ 31 by omega)]; simp; congr 1; omega) (rfl)
    · refine g_iconst (pc2 := 23) dX7_route_22 k_iconst_m1 rfl ?_
      exact g_iretT dX7_route_23 rfl (Nat.le_refl _) (Nat.le_refl _) (by first | (simp [F_route, h8]; done) | (simp [F_route, h19]; done)) (rfl)
theorem R_c_why (l : lt_L) (d : Nat) (t : lt_H) (σ : lt_S) {w : Nat → Int32} {ln T N : Nat} (hc : CC σ w ln T N) (i b : Int32) : lt_T l (d + 3) mX7_why (lt_SC ++ t) σ [.ref 10, .int i, .int b] (some (F_why w i b)) σ := by
  refine lt_T.of [some (.ref 10), some (.int i), some (.int b), none] rfl rfl (Nat.le_of_ble_eq_true rfl) ?_
  have hw := hc.1
  have hN := hw.2.2.1
  have hT := hw.2.1
  have e2 : σ 13 2 = w 2 := hc.2.1.1.2.2.1
  have e1 : σ 13 1 = w 1 := hc.2.1.1.2.1
  generalize hr : some (F_why w i b) = r
  have fin : hasB i (w 2) = true → hasB b (w 1) = true → lt_g l (d + 3) mX7_why (lt_SC ++ t) σ 24 [some (.ref 10), some (.int i), some (.int b), none] [] r σ := by
    intro h1 h2
    have hF : F_why w i b = nI (pf_why w (tN i) (tN b)) := by simp [F_why, h1, h2]
    rw [hN.1] at h1
    rw [hT.1] at h2
    obtain ⟨i, hi, rfl⟩ := hasB_ix (by omega) h1
    obtain ⟨b, hb, rfl⟩ := hasB_ix (by omega) h2
    rw [← hr, hF, tN_nI (by omega), tN_nI (by omega)]
    have hli := hw.ln hi
    by_cases c1 : pf_in w i b = -4
    · refine g_al0 (pc2 := 25) dX7_why_24 rfl ?_
      refine g_getr (pc2 := 28) (by rfl) (by rfl) flX7_19 dX7_why_25 rfl ?_
      refine g_il1 (pc2 := 29) dX7_why_28 rfl ?_
      refine g_il2 (pc2 := 30) dX7_why_29 rfl ?_
      refine g_cVi (pc2 := 33) (R_c_routeIn l (d + 1) _ _ hc.2.1 _ _ hi hli (by omega)) meX6_routeIn mlX7_170 (by rfl) ⟨_, rfl, rfl⟩ rfl rfl (by simp) ⟨Nat.le_refl _, Nat.le_refl _⟩ dX7_why_30 rfl ?_
      refine g_bipush (pc2 := 35) dX7_why_33 k_bipush_m4 rfl ?_
      refine g_icmp_ne 40 38 dX7_why_35 rfl rfl (fun h35 => ?_) (fun h35 => ?_)
      · exact absurd c1 h35
      · refine g_iconst (pc2 := 39) dX7_why_38 k_iconst_1 rfl ?_
        exact g_iretT dX7_why_39 rfl (Nat.le_refl _) (Nat.le_refl _) (by simp [pf_why, c1]) (rfl)
    · by_cases c2 : pf_out w i b = -4
      · refine g_al0 (pc2 := 25) dX7_why_24 rfl ?_
        refine g_getr (pc2 := 28) (by rfl) (by rfl) flX7_19 dX7_why_25 rfl ?_
        refine g_il1 (pc2 := 29) dX7_why_28 rfl ?_
        refine g_il2 (pc2 := 30) dX7_why_29 rfl ?_
        refine g_cVi (pc2 := 33) (R_c_routeIn l (d + 1) _ _ hc.2.1 _ _ hi hli (by omega)) meX6_routeIn mlX7_170 (by rfl) ⟨_, rfl, rfl⟩ rfl rfl (by simp) ⟨Nat.le_refl _, Nat.le_refl _⟩ dX7_why_30 rfl ?_
        refine g_bipush (pc2 := 35) dX7_why_33 k_bipush_m4 rfl ?_
        refine g_icmp_ne 40 38 dX7_why_35 rfl rfl (fun h35 => ?_) (fun h35 => ?_)
        · refine g_al0 (pc2 := 41) dX7_why_40 rfl ?_
          refine g_getr (pc2 := 44) (by rfl) (by rfl) flX7_19 dX7_why_41 rfl ?_
          refine g_il1 (pc2 := 45) dX7_why_44 rfl ?_
          refine g_il2 (pc2 := 46) dX7_why_45 rfl ?_
          refine g_cVi (pc2 := 49) (R_c_routeOut l (d + 1) _ _ hc.2.1 _ _ hi hli (by omega)) meX6_routeOut mlX7_173 (by rfl) ⟨_, rfl, rfl⟩ rfl rfl (by simp) ⟨Nat.le_refl _, Nat.le_refl _⟩ dX7_why_46 rfl ?_
          refine g_bipush (pc2 := 51) dX7_why_49 k_bipush_m4 rfl ?_
          refine g_icmp_ne 56 54 dX7_why_51 rfl rfl (fun h51 => ?_) (fun h51 => ?_)
          · exact absurd c2 h51
          · refine g_iconst (pc2 := 55) dX7_why_54 k_iconst_2 rfl ?_
            exact g_iretT dX7_why_55 rfl (Nat.le_refl _) (Nat.le_refl _) (by simp [pf_why, c1, c2]) (rfl)
        · exact absurd h35 c1
      · have hf : pf_fit w i b = true := by simp [pf_fit, c1, c2]
        cases hcl : pf_clashing w i b with
        | none =>
          refine g_al0 (pc2 := 25) dX7_why_24 rfl ?_
          refine g_getr (pc2 := 28) (by rfl) (by rfl) flX7_19 dX7_why_25 rfl ?_
          refine g_il1 (pc2 := 29) dX7_why_28 rfl ?_
          refine g_il2 (pc2 := 30) dX7_why_29 rfl ?_
          refine g_cVi (pc2 := 33) (R_c_routeIn l (d + 1) _ _ hc.2.1 _ _ hi hli (by omega)) meX6_routeIn mlX7_170 (by rfl) ⟨_, rfl, rfl⟩ rfl rfl (by simp) ⟨Nat.le_refl _, Nat.le_refl _⟩ dX7_why_30 rfl ?_
          refine g_bipush (pc2 := 35) dX7_why_33 k_bipush_m4 rfl ?_
          refine g_icmp_ne 40 38 dX7_why_35 rfl rfl (fun h35 => ?_) (fun h35 => ?_)
          · refine g_al0 (pc2 := 41) dX7_why_40 rfl ?_
            refine g_getr (pc2 := 44) (by rfl) (by rfl) flX7_19 dX7_why_41 rfl ?_
            refine g_il1 (pc2 := 45) dX7_why_44 rfl ?_
            refine g_il2 (pc2 := 46) dX7_why_45 rfl ?_
            refine g_cVi (pc2 := 49) (R_c_routeOut l (d + 1) _ _ hc.2.1 _ _ hi hli (by omega)) meX6_routeOut mlX7_173 (by rfl) ⟨_, rfl, rfl⟩ rfl rfl (by simp) ⟨Nat.le_refl _, Nat.le_refl _⟩ dX7_why_46 rfl ?_
            refine g_bipush (pc2 := 51) dX7_why_49 k_bipush_m4 rfl ?_
            refine g_icmp_ne 56 54 dX7_why_51 rfl rfl (fun h51 => ?_) (fun h51 => ?_)
            · refine g_al0 (pc2 := 57) dX7_why_56 rfl ?_
              refine g_getr (pc2 := 60) (by rfl) (by rfl) flX7_47 dX7_why_57 rfl ?_
              refine g_il1 (pc2 := 61) dX7_why_60 rfl ?_
              refine g_il2 (pc2 := 62) dX7_why_61 rfl ?_
              refine g_cVi (pc2 := 65) (R_c_firstAgainst l d _ _ hc _ _ hi hb hf) meX0_firstAgainst mlX7_176 (by rfl) ⟨_, rfl, rfl⟩ rfl rfl (by simp) ⟨Nat.le_refl _, Nat.le_refl _⟩ dX7_why_62 rfl ?_
              rw [hcl]
              refine g_is3 (pc2 := 66) dX7_why_65 (by decide) rfl ?_
              refine g_il3 (pc2 := 67) dX7_why_66 rfl ?_
              refine g_bipush (pc2 := 69) dX7_why_67 k_bipush_m4 rfl ?_
              refine g_icmp_ne 76 72 dX7_why_69 rfl rfl (fun h69 => ?_) (fun h69 => ?_)
              · exact absurd rfl h69
              · refine g_iconst (pc2 := 73) dX7_why_72 k_iconst_0 rfl ?_
                refine g_goto 79 dX7_why_73 rfl ?_
                exact g_iretT dX7_why_79 rfl (Nat.le_refl _) (Nat.le_refl _) (by simp [pf_why, c1, c2, hcl]) (rfl)
            · exact absurd h51 c2
          · exact absurd h35 c1
        | some j =>
          have hj := pf_clashing_lt hw j hcl
          refine g_al0 (pc2 := 25) dX7_why_24 rfl ?_
          refine g_getr (pc2 := 28) (by rfl) (by rfl) flX7_19 dX7_why_25 rfl ?_
          refine g_il1 (pc2 := 29) dX7_why_28 rfl ?_
          refine g_il2 (pc2 := 30) dX7_why_29 rfl ?_
          refine g_cVi (pc2 := 33) (R_c_routeIn l (d + 1) _ _ hc.2.1 _ _ hi hli (by omega)) meX6_routeIn mlX7_170 (by rfl) ⟨_, rfl, rfl⟩ rfl rfl (by simp) ⟨Nat.le_refl _, Nat.le_refl _⟩ dX7_why_30 rfl ?_
          refine g_bipush (pc2 := 35) dX7_why_33 k_bipush_m4 rfl ?_
          refine g_icmp_ne 40 38 dX7_why_35 rfl rfl (fun h35 => ?_) (fun h35 => ?_)
          · refine g_al0 (pc2 := 41) dX7_why_40 rfl ?_
            refine g_getr (pc2 := 44) (by rfl) (by rfl) flX7_19 dX7_why_41 rfl ?_
            refine g_il1 (pc2 := 45) dX7_why_44 rfl ?_
            refine g_il2 (pc2 := 46) dX7_why_45 rfl ?_
            refine g_cVi (pc2 := 49) (R_c_routeOut l (d + 1) _ _ hc.2.1 _ _ hi hli (by omega)) meX6_routeOut mlX7_173 (by rfl) ⟨_, rfl, rfl⟩ rfl rfl (by simp) ⟨Nat.le_refl _, Nat.le_refl _⟩ dX7_why_46 rfl ?_
            refine g_bipush (pc2 := 51) dX7_why_49 k_bipush_m4 rfl ?_
            refine g_icmp_ne 56 54 dX7_why_51 rfl rfl (fun h51 => ?_) (fun h51 => ?_)
            · refine g_al0 (pc2 := 57) dX7_why_56 rfl ?_
              refine g_getr (pc2 := 60) (by rfl) (by rfl) flX7_47 dX7_why_57 rfl ?_
              refine g_il1 (pc2 := 61) dX7_why_60 rfl ?_
              refine g_il2 (pc2 := 62) dX7_why_61 rfl ?_
              refine g_cVi (pc2 := 65) (R_c_firstAgainst l d _ _ hc _ _ hi hb hf) meX0_firstAgainst mlX7_176 (by rfl) ⟨_, rfl, rfl⟩ rfl rfl (by simp) ⟨Nat.le_refl _, Nat.le_refl _⟩ dX7_why_62 rfl ?_
              rw [hcl, show oI (some j) = nI j from rfl]
              refine g_is3 (pc2 := 66) dX7_why_65 (by decide) rfl ?_
              refine g_il3 (pc2 := 67) dX7_why_66 rfl ?_
              refine g_bipush (pc2 := 69) dX7_why_67 k_bipush_m4 rfl ?_
              refine g_icmp_ne 76 72 dX7_why_69 rfl rfl (fun h69 => ?_) (fun h69 => ?_)
              · refine g_iconst (pc2 := 77) dX7_why_76 k_iconst_3 rfl ?_
                refine g_il3 (pc2 := 78) dX7_why_77 rfl ?_
                refine g_iaddN (pc2 := 79) dX7_why_78 rfl ?_
                exact g_iretT dX7_why_79 rfl (Nat.le_refl _) (Nat.le_refl _) (by simp [pf_why, c1, c2, hcl]) (rfl)
              · exact absurd h69 (m4_ne hj)
            · exact absurd h51 c2
          · exact absurd h35 c1
  refine g_al0 (pc2 := 1) dX7_why_0 rfl ?_
  refine g_getr (pc2 := 4) (by rfl) (by rfl) flX7_19 dX7_why_1 rfl ?_
  refine g_il1 (pc2 := 5) dX7_why_4 rfl ?_
  refine g_cVi (pc2 := 8) (R_c_hasTrain13 l (d + 1) _ _ _) meX6_hasTrain mlX7_122 (by rfl) ⟨_, rfl, rfl⟩ rfl rfl (by simp) ⟨Nat.le_refl _, Nat.le_refl _⟩ dX7_why_5 rfl ?_
  rw [e2]
  refine g_if_eqB 22 11 dX7_why_8 rfl rfl (fun h8 => ?_) (fun h8 => ?_)
  · subst hr
    refine g_iconst (pc2 := 23) dX7_why_22 k_iconst_m1 rfl ?_
    exact g_iretT dX7_why_23 rfl (Nat.le_refl _) (Nat.le_refl _) (by first | (simp [F_why, h8]; done) | (simp [F_why, h19]; done)) (rfl)
  · refine g_al0 (pc2 := 12) dX7_why_11 rfl ?_
    refine g_getr (pc2 := 15) (by rfl) (by rfl) flX7_19 dX7_why_12 rfl ?_
    refine g_il2 (pc2 := 16) dX7_why_15 rfl ?_
    refine g_cVi (pc2 := 19) (R_c_hasTrack13 l (d + 1) _ _ _) meX6_hasTrack mlX7_115 (by rfl) ⟨_, rfl, rfl⟩ rfl rfl (by simp) ⟨Nat.le_refl _, Nat.le_refl _⟩ dX7_why_16 rfl ?_
    rw [e1]
    refine g_if_neB 24 22 dX7_why_19 rfl rfl (fun h19 => ?_) (fun h19 => ?_)
    · exact fin h8 h19
    · subst hr
      refine g_iconst (pc2 := 23) dX7_why_22 k_iconst_m1 rfl ?_
      exact g_iretT dX7_why_23 rfl (Nat.le_refl _) (Nat.le_refl _) (by first | (simp [F_why, h8]; done) | (simp [F_why, h19]; done)) (rfl)
theorem R_c_clash (l : lt_L) (d : Nat) (t : lt_H) (σ : lt_S) {w : Nat → Int32} {ln T N : Nat} (hc : CC σ w ln T N) (i a j b : Int32) : lt_T l (d + 4) mX7_clash (lt_SC ++ t) σ [.ref 10, .int i, .int a, .int j, .int b] (some (F_clash w i a j b)) σ := by
  refine lt_T.of [some (.ref 10), some (.int i), some (.int a), some (.int j), some (.int b)] rfl rfl (Nat.le_of_ble_eq_true rfl) ?_
  have hw := hc.1
  have hN := hw.2.2.1
  have hT := hw.2.1
  have e2 : σ 13 2 = w 2 := hc.2.1.1.2.2.1
  have e1 : σ 13 1 = w 1 := hc.2.1.1.2.1
  refine g_al0 (pc2 := 1) dX7_clash_0 rfl ?_
  refine g_getr (pc2 := 4) (by rfl) (by rfl) flX7_19 dX7_clash_1 rfl ?_
  refine g_il1 (pc2 := 5) dX7_clash_4 rfl ?_
  refine g_cVi (pc2 := 8) (R_c_hasTrain13 l (d + 2) _ _ _) meX6_hasTrain mlX7_122 (by rfl) ⟨_, rfl, rfl⟩ rfl rfl (by simp) ⟨Nat.le_refl _, Nat.le_refl _⟩ dX7_clash_5 rfl ?_
  rw [e2]
  refine g_if_eqB 27 11 dX7_clash_8 rfl rfl (fun h8 => ?_) (fun h8 => ?_)
  · refine g_iconst (pc2 := 28) dX7_clash_27 k_iconst_m1 rfl ?_
    exact g_iretT dX7_clash_28 rfl (Nat.le_refl _) (Nat.le_refl _) (by first | (simp [F_clash, h8]; done) | (simp [F_clash, h19]; done) | (simp [F_clash, h24]; done) | (simp [F_clash, h37]; done) | (simp [F_clash, h49]; done)) (rfl)
  · refine g_al0 (pc2 := 12) dX7_clash_11 rfl ?_
    refine g_getr (pc2 := 15) (by rfl) (by rfl) flX7_19 dX7_clash_12 rfl ?_
    refine g_il3 (pc2 := 16) dX7_clash_15 rfl ?_
    refine g_cVi (pc2 := 19) (R_c_hasTrain13 l (d + 2) _ _ _) meX6_hasTrain mlX7_122 (by rfl) ⟨_, rfl, rfl⟩ rfl rfl (by simp) ⟨Nat.le_refl _, Nat.le_refl _⟩ dX7_clash_16 rfl ?_
    rw [e2]
    refine g_if_eqB 27 22 dX7_clash_19 rfl rfl (fun h19 => ?_) (fun h19 => ?_)
    · refine g_iconst (pc2 := 28) dX7_clash_27 k_iconst_m1 rfl ?_
      exact g_iretT dX7_clash_28 rfl (Nat.le_refl _) (Nat.le_refl _) (by first | (simp [F_clash, h8]; done) | (simp [F_clash, h19]; done) | (simp [F_clash, h24]; done) | (simp [F_clash, h37]; done) | (simp [F_clash, h49]; done)) (rfl)
    · refine g_il1 (pc2 := 23) dX7_clash_22 rfl ?_
      refine g_il3 (pc2 := 24) dX7_clash_23 rfl ?_
      refine g_icmp_ne 29 27 dX7_clash_24 rfl rfl (fun h24 => ?_) (fun h24 => ?_)
      · refine g_al0 (pc2 := 30) dX7_clash_29 rfl ?_
        refine g_getr (pc2 := 33) (by rfl) (by rfl) flX7_19 dX7_clash_30 rfl ?_
        refine g_il2 (pc2 := 34) dX7_clash_33 rfl ?_
        refine g_cVi (pc2 := 37) (R_c_hasTrack13 l (d + 2) _ _ _) meX6_hasTrack mlX7_115 (by rfl) ⟨_, rfl, rfl⟩ rfl rfl (by simp) ⟨Nat.le_refl _, Nat.le_refl _⟩ dX7_clash_34 rfl ?_
        rw [e1]
        refine g_if_eqB 52 40 dX7_clash_37 rfl rfl (fun h37 => ?_) (fun h37 => ?_)
        · refine g_iconst (pc2 := 53) dX7_clash_52 k_iconst_m1 rfl ?_
          exact g_iretT dX7_clash_53 rfl (Nat.le_refl _) (Nat.le_refl _) (by first | (simp [F_clash, h8]; done) | (simp [F_clash, h19]; done) | (simp [F_clash, h24]; done) | (simp [F_clash, h37]; done) | (simp [F_clash, h49]; done)) (rfl)
        · refine g_al0 (pc2 := 41) dX7_clash_40 rfl ?_
          refine g_getr (pc2 := 44) (by rfl) (by rfl) flX7_19 dX7_clash_41 rfl ?_
          refine g_il4 (pc2 := 46) dX7_clash_44 rfl ?_
          refine g_cVi (pc2 := 49) (R_c_hasTrack13 l (d + 2) _ _ _) meX6_hasTrack mlX7_115 (by rfl) ⟨_, rfl, rfl⟩ rfl rfl (by simp) ⟨Nat.le_refl _, Nat.le_refl _⟩ dX7_clash_46 rfl ?_
          rw [e1]
          refine g_if_neB 54 52 dX7_clash_49 rfl rfl (fun h49 => ?_) (fun h49 => ?_)
          · have hF : F_clash w i a j b = (if pf_fit w (tN i) (tN a) && pf_fit w (tN j) (tN b) then nI (pf_kind w (tN i) (tN a) (tN j) (tN b)) else nI 0) := by simp [F_clash, h8, h19, h24, h37, h49]
            rw [hF]
            rw [hN.1] at h8 h19
            rw [hT.1] at h37 h49
            obtain ⟨i, hi, rfl⟩ := hasB_ix (by omega) h8
            obtain ⟨j, hj, rfl⟩ := hasB_ix (by omega) h19
            obtain ⟨a, ha, rfl⟩ := hasB_ix (by omega) h37
            obtain ⟨b, hb, rfl⟩ := hasB_ix (by omega) h49
            rw [tN_nI (by omega), tN_nI (by omega), tN_nI (by omega), tN_nI (by omega)]
            refine g_al0 (pc2 := 55) dX7_clash_54 rfl ?_
            refine g_getr (pc2 := 58) (by rfl) (by rfl) flX7_47 dX7_clash_55 rfl ?_
            refine g_il1 (pc2 := 59) dX7_clash_58 rfl ?_
            refine g_il2 (pc2 := 60) dX7_clash_59 rfl ?_
            refine g_il3 (pc2 := 61) dX7_clash_60 rfl ?_
            refine g_il4 (pc2 := 63) dX7_clash_61 rfl ?_
            refine g_cVi (pc2 := 66) (R_c_kind l d _ _ hN.2 hc.2.1 hc.2.2.1 _ _ _ _ hi hj (hw.ln hi) (hw.ln hj) (by omega) (by omega)) meX0_kind mlX7_179 (by rfl) ⟨_, rfl, rfl⟩ rfl rfl (by simp) ⟨Nat.le_refl _, Nat.le_refl _⟩ dX7_clash_63 rfl ?_
            exact g_iretT dX7_clash_66 rfl (Nat.le_refl _) (Nat.le_refl _) (by unfold kindF; split <;> rfl) (rfl)
          · refine g_iconst (pc2 := 53) dX7_clash_52 k_iconst_m1 rfl ?_
            exact g_iretT dX7_clash_53 rfl (Nat.le_refl _) (Nat.le_refl _) (by first | (simp [F_clash, h8]; done) | (simp [F_clash, h19]; done) | (simp [F_clash, h24]; done) | (simp [F_clash, h37]; done) | (simp [F_clash, h49]; done)) (rfl)
      · refine g_iconst (pc2 := 28) dX7_clash_27 k_iconst_m1 rfl ?_
        exact g_iretT dX7_clash_28 rfl (Nat.le_refl _) (Nat.le_refl _) (by first | (simp [F_clash, h8]; done) | (simp [F_clash, h19]; done) | (simp [F_clash, h24]; done) | (simp [F_clash, h37]; done) | (simp [F_clash, h49]; done)) (rfl)
