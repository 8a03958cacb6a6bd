/-! rows of one yard -/
def SameY (w w' : Nat → Int32) (N : Nat) : Prop := (∀ j, j < 16 → w' j = w j) ∧ ∀ i, i < N → w' (16 + 7 * i + 0) = w (16 + 7 * i + 0) ∧ w' (16 + 7 * i + 1) = w (16 + 7 * i + 1) ∧ w' (16 + 7 * i + 5) = w (16 + 7 * i + 5)
def Pl (w w' : Nat → Int32) (T i : Nat) : Prop := (∃ p q, 1 ≤ p ∧ p ≤ q ∧ q ≤ 98 ∧ w' (16 + 7 * i + 2) = nI p ∧ w' (16 + 7 * i + 3) = nI q) ∧ (w' (16 + 7 * i + 4) = -4 ∨ ∃ t, t < T ∧ w' (16 + 7 * i + 4) = nI t) ∧ (w' (16 + 7 * i + 6) = -4 ∨ ∃ t, t < T ∧ w' (16 + 7 * i + 6) = nI t ∧ pf_fit w i t = true)
theorem Wf.pl2 {w : Nat → Int32} {ln T N : Nat} (h : Wf w ln T N) {i : Nat} (hi : i < N) : Pl w w T i := by
  obtain ⟨-, -, h3, h4, -, h6⟩ := h.2.2.2.2 i hi
  exact ⟨h3, h4, h6⟩
theorem SameY.pin {w w' : Nat → Int32} {N i t : Nat} (h : SameY w w' N) (hi : i < N) (hl : Ln w i) (ht : t < 4) : pf_in w' i t = pf_in w i t := by
  obtain ⟨-, ⟨a, ha, e⟩, -⟩ := hl
  unfold pf_in
  rw [(h.2 i hi).1, e, tN_nI (by omega), h.1 _ (by omega)]
theorem SameY.pout {w w' : Nat → Int32} {N i t : Nat} (h : SameY w w' N) (hi : i < N) (hl : Ln w i) (ht : t < 4) : pf_out w' i t = pf_out w i t := by
  obtain ⟨-, -, ⟨a, ha, e⟩⟩ := hl
  unfold pf_out
  rw [(h.2 i hi).2.1, e, tN_nI (by omega), h.1 _ (by omega)]
theorem SameY.fit {w w' : Nat → Int32} {N i t : Nat} (h : SameY w w' N) (hi : i < N) (hl : Ln w i) (ht : t < 4) : pf_fit w' i t = pf_fit w i t := by
  unfold pf_fit
  rw [h.pin hi hl ht, h.pout hi hl ht]
theorem Wf.of {w w' : Nat → Int32} {ln T N : Nat} (h : Wf w ln T N) (hs : SameY w w' N) (hp : ∀ i, i < N → Pl w w' T i) : Wf w' ln T N := by
  obtain ⟨h0, h1, h2, h3, h4⟩ := h
  have hh : Wf w ln T N := ⟨h0, h1, h2, h3, h4⟩
  refine ⟨⟨by rw [hs.1 0 (by decide)]; exact h0.1, h0.2⟩, ⟨by rw [hs.1 1 (by decide)]; exact h1.1, h1.2⟩, ⟨by rw [hs.1 2 (by decide)]; exact h2.1, h2.2⟩, by rw [hs.1 3 (by decide)]; exact h3, fun i hi => ?_⟩
  obtain ⟨a1, a2, -, -, a5, -⟩ := h4 i hi
  obtain ⟨b1, b2, b3⟩ := hp i hi
  obtain ⟨e1, e2, e3⟩ := hs.2 i hi
  refine ⟨by rw [e1]; exact a1, by rw [e2]; exact a2, b1, b2, by rw [e3]; exact a5, ?_⟩
  rcases b3 with b | ⟨t, ht, q1, q2⟩
  · exact Or.inl b
  · exact Or.inr ⟨t, ht, q1, by rw [hs.fit hi (hh.ln hi) (by omega)]; exact q2⟩
theorem SameY.rf (w : Nat → Int32) (N : Nat) : SameY w w N := ⟨fun _ _ => rfl, fun _ _ => ⟨rfl, rfl, rfl⟩⟩
theorem SameY.tr {w w' w2 : Nat → Int32} {N : Nat} (h : SameY w w' N) (h2 : SameY w' w2 N) : SameY w w2 N := ⟨fun j hj => (h2.1 j hj).trans (h.1 j hj), fun i hi => ⟨(h2.2 i hi).1.trans (h.2 i hi).1, (h2.2 i hi).2.1.trans (h.2 i hi).2.1, (h2.2 i hi).2.2.trans (h.2 i hi).2.2⟩⟩
theorem SameY.sy {w w' : Nat → Int32} {N : Nat} (h : SameY w w' N) : SameY w' w N := ⟨fun j hj => (h.1 j hj).symm, fun i hi => ⟨(h.2 i hi).1.symm, (h.2 i hi).2.1.symm, (h.2 i hi).2.2.symm⟩⟩
theorem SameY.upd (w : Nat → Int32) (N i k : Nat) (v : Int32) (hk : k = 2 ∨ k = 3 ∨ k = 4 ∨ k = 6) : SameY w (upd w (16 + 7 * i + k) v) N := by
  refine ⟨fun j hj => pk_un (by omega), fun j hj => ⟨pk_un (by omega), pk_un (by omega), pk_un (by omega)⟩⟩
/-- one place changed -/
theorem Wf.upd6 {w : Nat → Int32} {ln T N i : Nat} {v : Int32} (h : Wf w ln T N) (hi : i < N) (hv : v = -4 ∨ ∃ t, t < T ∧ v = nI t ∧ pf_fit w i t = true) : Wf (upd w (16 + 7 * i + 6) v) ln T N := by
  refine h.of (SameY.upd w N i 6 v (by omega)) (fun j hj => ?_)
  obtain ⟨b1, b2, b3⟩ := h.pl2 hj
  refine ⟨by rw [pk_un (by omega), pk_un (by omega)]; exact b1, by rw [pk_un (by omega)]; exact b2, ?_⟩
  by_cases e : j = i
  · subst e; rw [pk_us]; exact hv
  · rw [pk_un (by omega)]; exact b3
theorem Wf.upd4 {w : Nat → Int32} {ln T N i : Nat} {v : Int32} (h : Wf w ln T N) (hi : i < N) (hv : v = -4 ∨ ∃ t, t < T ∧ v = nI t) : Wf (upd w (16 + 7 * i + 4) v) ln T N := by
  refine h.of (SameY.upd w N i 4 v (by omega)) (fun j hj => ?_)
  obtain ⟨b1, b2, b3⟩ := h.pl2 hj
  refine ⟨by rw [pk_un (by omega), pk_un (by omega)]; exact b1, ?_, by rw [pk_un (by omega)]; exact b3⟩
  by_cases e : j = i
  · subst e; rw [pk_us]; exact hv
  · rw [pk_un (by omega)]; exact b2
def pf_late (w : Nat → Int32) (i : Nat) (x : Int32) : Nat → Int32 := upd (upd w (16 + 7 * i + 2) (w (16 + 7 * i + 2) + x)) (16 + 7 * i + 3) (w (16 + 7 * i + 3) + x)
theorem pf_late_at (w : Nat → Int32) (i : Nat) (x : Int32) (j k : Nat) (hk : k < 7) : pf_late w i x (16 + 7 * j + k) = if j = i ∧ (k = 2 ∨ k = 3) then w (16 + 7 * j + k) + x else w (16 + 7 * j + k) := by
  unfold pf_late
  by_cases e3 : j = i ∧ k = 3
  · obtain ⟨rfl, rfl⟩ := e3
    rw [pk_us, if_pos ⟨rfl, Or.inr rfl⟩]
  · rw [pk_un (by omega)]
    by_cases e2 : j = i ∧ k = 2
    · obtain ⟨rfl, rfl⟩ := e2
      rw [pk_us, if_pos ⟨rfl, Or.inl rfl⟩]
    · rw [pk_un (by omega), if_neg (by omega)]
theorem pf_late_sy (w : Nat → Int32) (N i : Nat) (x : Int32) : SameY w (pf_late w i x) N := (SameY.upd w N i 2 _ (by omega)).tr (SameY.upd _ N i 3 _ (by omega))
theorem inB_60 {x : Int32} (h : inB x (-20) (nI 60) = true) : -20 ≤ x.toInt ∧ x.toInt ≤ 60 := by
  unfold inB at h
  simp only [Bool.and_eq_true, Bool.not_eq_true', decide_eq_false_iff_not] at h
  have h1 := Int32.le_iff_toInt_le.mp (Int32.not_lt.mp h.1)
  have h2 := Int32.le_iff_toInt_le.mp (Int32.not_lt.mp h.2)
  rw [nI_toInt (by decide)] at h2
  have e : (-20 : Int32).toInt = -20 := by decide
  rw [e] at h1
  exact ⟨h1, h2⟩
theorem add_toInt {p : Nat} {x : Int32} (hp : p ≤ 200) (h1 : -200 ≤ x.toInt) (h2 : x.toInt ≤ 200) : (nI p + x).toInt = p + x.toInt := by
  rw [Int32.toInt_add, nI_toInt (by omega)]
  rw [Int.bmod_eq_of_le (by omega) (by omega)]
theorem Wf.late {w : Nat → Int32} {ln T N i : Nat} {x : Int32} (h : Wf w ln T N) (hi : i < N) (hx : inB x (-20) (nI 60) = true) (h1 : ¬ w (16 + 7 * i + 2) + x < nI 1) (h2 : w (16 + 7 * i + 3) + x ≤ nI 98) : Wf (pf_late w i x) ln T N := by
  refine h.of (pf_late_sy w N i x) (fun j hj => ?_)
  obtain ⟨⟨p, q, b1, b2, b3, b4, b5⟩, b6, b7⟩ := h.pl2 hj
  rw [Pl, pf_late_at w i x j 2 (by decide), pf_late_at w i x j 3 (by decide), pf_late_at w i x j 4 (by decide), pf_late_at w i x j 6 (by decide)]
  rw [if_neg (show ¬ (j = i ∧ (4 = 2 ∨ 4 = 3)) by omega), if_neg (show ¬ (j = i ∧ (6 = 2 ∨ 6 = 3)) by omega)]
  refine ⟨?_, b6, b7⟩
  by_cases e : j = i
  · subst e
    rw [if_pos ⟨rfl, Or.inl rfl⟩, if_pos ⟨rfl, Or.inr rfl⟩, b4, b5]
    rw [b4] at h1
    rw [b5] at h2
    obtain ⟨x1, x2⟩ := inB_60 hx
    have t1 := add_toInt (p := p) (x := x) (by omega) (by omega) (by omega)
    have t2 := add_toInt (p := q) (x := x) (by omega) (by omega) (by omega)
    have g1 := Int32.le_iff_toInt_le.mp (Int32.not_lt.mp h1)
    have g2 := Int32.le_iff_toInt_le.mp h2
    rw [t1, nI_toInt (by decide)] at g1
    rw [t2, nI_toInt (by decide)] at g2
    refine ⟨(p + x.toInt).toNat, (q + x.toInt).toNat, by omega, by omega, by omega, Int32.toInt_inj.mp ?_, Int32.toInt_inj.mp ?_⟩
    · rw [t1, nI_toInt (by omega)]; omega
    · rw [t2, nI_toInt (by omega)]; omega
  · rw [if_neg (by omega), if_neg (by omega)]
    exact ⟨p, q, b1, b2, b3, b4, b5⟩
theorem S_keep_ne (σ : lt_S) (c : Nat) {b : Nat} (h1 : b ≠ 79) (h2 : b ≠ 76) : S_keep σ c b = σ b := by
  unfold S_keep
  split
  · rw [lt_up_nr _ _ _ h2, lt_ur_ne _ _ h1]
  · rw [lt_up_nr _ _ _ h2, lt_ur_ne _ _ h1]
/-! the reference: changes -/
def ok_give (w : Nat → Int32) (i t : Int32) : Bool := hasB i (w 2) && hasB t (w 1)
def can_give (w : Nat → Int32) (i t : Nat) : Bool := decide (w (16 + 7 * i + 6) = -4) && decide (pf_why w i t = 0)
def F_give (w : Nat → Int32) (i t : Int32) : Int32 := if ok_give w i t then (if can_give w (tN i) (tN t) then nI (pf_placed (upd w (16 + 7 * tN i + 6) t)) else -2) else -1
def S_give (σ : lt_S) (c : Nat) (i t : Int32) : lt_S := if ok_give (σ 77) i t && can_give (σ 77) (tN i) (tN t) then lt_up (S_keep σ c) 77 (16 + 7 * tN i + 6) t else σ
theorem pf_why_fit {w : Nat → Int32} {i t : Nat} (h : pf_why w i t = 0) : pf_fit w i t = true := by
  unfold pf_why at h
  unfold pf_fit
  by_cases h1 : pf_in w i t = -4
  · rw [if_pos h1] at h; cases h
  · by_cases h2 : pf_out w i t = -4
    · rw [if_neg h1, if_pos h2] at h; cases h
    · simp [h1, h2]
theorem R_m_give (l : lt_L) (d : Nat) (σ : lt_S) {ln T N c : Nat} (hw : Wf (σ 77) ln T N) (hc : σ 76 3 = nI c) (hc6 : c ≤ 6) (i t : Int32) : lt_T l (d + 6) mX8_give lt_SA σ [.ref 76, .int i, .int t] (some (F_give (σ 77) i t)) (S_give σ c i t) := by
  refine lt_T.of [some (.ref 76), some (.int i), some (.int t)] rfl rfl (Nat.le_of_ble_eq_true rfl) ?_
  have hN := hw.2.2.1
  have hT := hw.2.1
  refine g_al0 (pc2 := 1) dX8_give_0 rfl ?_
  refine g_il1 (pc2 := 2) dX8_give_1 rfl ?_
  refine g_cVi (pc2 := 5) (R_m_isTrain l (d + 3) _ _ hN.1 (by omega)) meX8_isTrain mlX8_135 (by rfl) ⟨_, rfl, rfl⟩ rfl rfl (by simp) ⟨Nat.le_refl _, Nat.le_refl _⟩ dX8_give_2 rfl ?_
  refine g_if_eqB 16 8 dX8_give_5 rfl rfl (fun h5 => ?_) (fun h5 => ?_)
  · refine g_iconst (pc2 := 17) dX8_give_16 k_iconst_m1 rfl ?_
    exact g_iretT dX8_give_17 rfl (Nat.le_refl _) (Nat.le_refl _) (by first | (simp [F_give, ok_give, h5]; done) | (simp [F_give, ok_give, h13]; done)) (by first | (simp [S_give, ok_give, h5]; done) | (simp [S_give, ok_give, h13]; done))
  · refine g_al0 (pc2 := 9) dX8_give_8 rfl ?_
    refine g_il2 (pc2 := 10) dX8_give_9 rfl ?_
    refine g_cVi (pc2 := 13) (R_m_isTrack l (d + 3) _ _ hT.1 (by omega)) meX8_isTrack mlX8_102 (by rfl) ⟨_, rfl, rfl⟩ rfl rfl (by simp) ⟨Nat.le_refl _, Nat.le_refl _⟩ dX8_give_10 rfl ?_
    refine g_if_neB 18 16 dX8_give_13 rfl rfl (fun h13 => ?_) (fun h13 => ?_)
    · have hok : ok_give (σ 77) i t = true := by simp [ok_give, h5, h13]
      rw [hN.1] at h5
      obtain ⟨i, hi, rfl⟩ := hasB_ix (by omega) h5
      rw [hT.1] at h13
      obtain ⟨t, ht, rfl⟩ := hasB_ix (by omega) h13
      have e1 := tN_nI (show i < 2 ^ 31 by omega)
      have e2 := tN_nI (show t < 2 ^ 31 by omega)
      have hy := pf_why_le (i := i) (t := t) hw
      refine g_al0 (pc2 := 19) dX8_give_18 rfl ?_
      refine g_il1 (pc2 := 20) dX8_give_19 rfl ?_
      refine g_bipush (pc2 := 22) dX8_give_20 k_bipush_6 rfl ?_
      refine g_cVi (pc2 := 25) (R_m_of l (d + 4) _ _ _ (by omega) (by decide)) meX8_of mlX8_110 (by rfl) ⟨_, rfl, rfl⟩ rfl rfl (by simp) ⟨Nat.le_refl _, Nat.le_refl _⟩ dX8_give_22 rfl ?_
      refine g_bipush (pc2 := 27) dX8_give_25 k_bipush_m4 rfl ?_
      refine g_icmp_ne 39 30 dX8_give_27 rfl rfl (fun h27 => ?_) (fun h27 => ?_)
      · refine g_bipush (pc2 := 41) dX8_give_39 k_bipush_m2 rfl ?_
        exact g_iretT dX8_give_41 rfl (Nat.le_refl _) (Nat.le_refl _) (by first | (simp [F_give, hok, can_give, e1, e2, h27]; done) | (rw [← nI_0, nI_eq (by omega) (by decide)] at h36; simp [F_give, hok, can_give, e1, e2, h36]; done)) (by first | (simp [S_give, hok, can_give, e1, e2, h27]; done) | (rw [← nI_0, nI_eq (by omega) (by decide)] at h36; simp [S_give, hok, can_give, e1, e2, h36]; done))
      · refine g_al0 (pc2 := 31) dX8_give_30 rfl ?_
        refine g_il1 (pc2 := 32) dX8_give_31 rfl ?_
        refine g_il2 (pc2 := 33) dX8_give_32 rfl ?_
        refine g_cVi (pc2 := 36) (R_m_whyNot l d _ hw _ _ (by omega) (by omega)) meX8_whyNot mlX8_132 (by rfl) ⟨_, rfl, rfl⟩ rfl rfl (by simp) ⟨Nat.le_refl _, Nat.le_refl _⟩ dX8_give_33 rfl ?_
        refine g_if_eq 42 39 dX8_give_36 rfl rfl (fun h36 => ?_) (fun h36 => ?_)
        · rw [← nI_0, nI_eq (by omega) (by decide)] at h36
          have hcan : can_give (σ 77) i t = true := by simp [can_give, h27, h36]
          refine g_al0 (pc2 := 43) dX8_give_42 rfl ?_
          refine g_cVv (pc2 := 46) (R_m_keeps l (d + 4) _ hc hc6) meX8_keeps mlX8_145 (by rfl) ⟨_, rfl, rfl⟩ rfl rfl (by simp) ⟨Nat.le_refl _, Nat.le_refl _⟩ dX8_give_43 rfl ?_
          refine g_al0 (pc2 := 47) dX8_give_46 rfl ?_
          refine g_il1 (pc2 := 48) dX8_give_47 rfl ?_
          refine g_bipush (pc2 := 50) dX8_give_48 k_bipush_6 rfl ?_
          refine g_il2 (pc2 := 51) dX8_give_50 rfl ?_
          refine g_cVv (pc2 := 54) (R_m_becomes l (d + 4) _ _ _ _ (by omega) (by decide)) meX8_becomes mlX8_148 (by rfl) ⟨_, rfl, rfl⟩ rfl rfl (by simp) ⟨Nat.le_refl _, Nat.le_refl _⟩ dX8_give_51 rfl ?_
          have hrow : lt_up (S_keep σ c) 77 (16 + 7 * i + 6) (nI t) 77 = upd (σ 77) (16 + 7 * i + 6) (nI t) := by rw [lt_up_row, S_keep_ne _ _ (by decide) (by decide)]
          have hw2 : Wf (lt_up (S_keep σ c) 77 (16 + 7 * i + 6) (nI t) 77) ln T N := by rw [hrow]; exact hw.upd6 hi (Or.inr ⟨t, ht, rfl, pf_why_fit h36⟩)
          refine g_al0 (pc2 := 55) dX8_give_54 rfl ?_
          refine g_cVi (pc2 := 58) (R_m_placed l (d + 3) _ hw2) meX8_placed mlX8_152 (by rfl) ⟨_, rfl, rfl⟩ rfl rfl (by simp) ⟨Nat.le_refl _, Nat.le_refl _⟩ dX8_give_55 rfl ?_
          exact g_iretT dX8_give_58 rfl (Nat.le_refl _) (Nat.le_refl _) (by rw [hrow]; simp [F_give, hok, e1, e2, hcan]) (by simp [S_give, hok, e1, e2, hcan])
        · refine g_bipush (pc2 := 41) dX8_give_39 k_bipush_m2 rfl ?_
          exact g_iretT dX8_give_41 rfl (Nat.le_refl _) (Nat.le_refl _) (by first | (simp [F_give, hok, can_give, e1, e2, h27]; done) | (rw [← nI_0, nI_eq (by omega) (by decide)] at h36; simp [F_give, hok, can_give, e1, e2, h36]; done)) (by first | (simp [S_give, hok, can_give, e1, e2, h27]; done) | (rw [← nI_0, nI_eq (by omega) (by decide)] at h36; simp [S_give, hok, can_give, e1, e2, h36]; done))
    · refine g_iconst (pc2 := 17) dX8_give_16 k_iconst_m1 rfl ?_
      exact g_iretT dX8_give_17 rfl (Nat.le_refl _) (Nat.le_refl _) (by first | (simp [F_give, ok_give, h5]; done) | (simp [F_give, ok_give, h13]; done)) (by first | (simp [S_give, ok_give, h5]; done) | (simp [S_give, ok_give, h13]; done))
def F_take (w : Nat → Int32) (i : Int32) : Int32 := if hasB i (w 2) then (if w (16 + 7 * tN i + 6) = -4 then -2 else w (16 + 7 * tN i + 6)) else -1
def S_take (σ : lt_S) (c : Nat) (i : Int32) : lt_S := if hasB i (σ 77 2) && !decide (σ 77 (16 + 7 * tN i + 6) = -4) then lt_up (S_keep σ c) 77 (16 + 7 * tN i + 6) (-4) else σ
theorem R_m_take (l : lt_L) (d : Nat) (σ : lt_S) {ln T N c : Nat} (hw : Wf (σ 77) ln T N) (hc : σ 76 3 = nI c) (hc6 : c ≤ 6) (i : Int32) : lt_T l (d + 3) mX8_take lt_SA σ [.ref 76, .int i] (some (F_take (σ 77) i)) (S_take σ c i) := by
  refine lt_T.of [some (.ref 76), some (.int i), none] rfl rfl (Nat.le_of_ble_eq_true rfl) ?_
  have hN := hw.2.2.1
  refine g_al0 (pc2 := 1) dX8_take_0 rfl ?_
  refine g_il1 (pc2 := 2) dX8_take_1 rfl ?_
  refine g_cVi (pc2 := 5) (R_m_isTrain l d _ _ hN.1 (by omega)) meX8_isTrain mlX8_135 (by rfl) ⟨_, rfl, rfl⟩ rfl rfl (by simp) ⟨Nat.le_refl _, Nat.le_refl _⟩ dX8_take_2 rfl ?_
  refine g_if_neB 10 8 dX8_take_5 rfl rfl (fun h5 => ?_) (fun h5 => ?_)
  · have hok := h5
    rw [hN.1] at h5
    obtain ⟨i, hi, rfl⟩ := hasB_ix (by omega) h5
    have e1 := tN_nI (show i < 2 ^ 31 by omega)
    refine g_al0 (pc2 := 11) dX8_take_10 rfl ?_
    refine g_il1 (pc2 := 12) dX8_take_11 rfl ?_
    refine g_bipush (pc2 := 14) dX8_take_12 k_bipush_6 rfl ?_
    refine g_cVi (pc2 := 17) (R_m_of l (d + 1) _ _ _ (by omega) (by decide)) meX8_of mlX8_110 (by rfl) ⟨_, rfl, rfl⟩ rfl rfl (by simp) ⟨Nat.le_refl _, Nat.le_refl _⟩ dX8_take_14 rfl ?_
    refine g_is2 (pc2 := 18) dX8_take_17 (by decide) rfl ?_
    refine g_il2 (pc2 := 19) dX8_take_18 rfl ?_
    refine g_bipush (pc2 := 21) dX8_take_19 k_bipush_m4 rfl ?_
    refine g_icmp_ne 27 24 dX8_take_21 rfl rfl (fun h21 => ?_) (fun h21 => ?_)
    · refine g_al0 (pc2 := 28) dX8_take_27 rfl ?_
      refine g_cVv (pc2 := 31) (R_m_keeps l (d + 1) _ hc hc6) meX8_keeps mlX8_145 (by rfl) ⟨_, rfl, rfl⟩ rfl rfl (by simp) ⟨Nat.le_refl _, Nat.le_refl _⟩ dX8_take_28 rfl ?_
      refine g_al0 (pc2 := 32) dX8_take_31 rfl ?_
      refine g_il1 (pc2 := 33) dX8_take_32 rfl ?_
      refine g_bipush (pc2 := 35) dX8_take_33 k_bipush_6 rfl ?_
      refine g_bipush (pc2 := 37) dX8_take_35 k_bipush_m4 rfl ?_
      refine g_cVv (pc2 := 40) (R_m_becomes l (d + 1) _ _ _ _ (by omega) (by decide)) meX8_becomes mlX8_148 (by rfl) ⟨_, rfl, rfl⟩ rfl rfl (by simp) ⟨Nat.le_refl _, Nat.le_refl _⟩ dX8_take_37 rfl ?_
      refine g_il2 (pc2 := 41) dX8_take_40 rfl ?_
      exact g_iretT dX8_take_41 rfl (Nat.le_refl _) (Nat.le_refl _) (by simp [F_take, hok, e1, h21]) (by simp [S_take, hok, e1, h21])
    · refine g_bipush (pc2 := 26) dX8_take_24 k_bipush_m2 rfl ?_
      exact g_iretT dX8_take_26 rfl (Nat.le_refl _) (Nat.le_refl _) (by simp [F_take, hok, e1, h21]) (by simp [S_take, e1, h21])
  · refine g_iconst (pc2 := 9) dX8_take_8 k_iconst_m1 rfl ?_
    exact g_iretT dX8_take_9 rfl (Nat.le_refl _) (Nat.le_refl _) (by simp [F_take, h5]) (by simp [S_take, h5])
def ok_wish (w : Nat → Int32) (i t : Int32) : Bool := hasB i (w 2) && (decide (t = nI 9) || hasB t (w 1))
def F_wish (w : Nat → Int32) (i t : Int32) : Int32 := if ok_wish w i t then (if w (16 + 7 * tN i + 4) = (if t = nI 9 then -4 else t) then -2 else if w (16 + 7 * tN i + 4) = -4 then nI 9 else w (16 + 7 * tN i + 4)) else -1
def S_wish (σ : lt_S) (c : Nat) (i t : Int32) : lt_S := if ok_wish (σ 77) i t && !decide (σ 77 (16 + 7 * tN i + 4) = (if t = nI 9 then -4 else t)) then lt_up (S_keep σ c) 77 (16 + 7 * tN i + 4) (if t = nI 9 then -4 else t) else σ
theorem R_m_wish (l : lt_L) (d : Nat) (σ : lt_S) {ln T N c : Nat} (hw : Wf (σ 77) ln T N) (hc : σ 76 3 = nI c) (hc6 : c ≤ 6) (i t : Int32) : lt_T l (d + 3) mX8_wish lt_SA σ [.ref 76, .int i, .int t] (some (F_wish (σ 77) i t)) (S_wish σ c i t) := by
  refine lt_T.of [some (.ref 76), some (.int i), some (.int t), none, none] rfl rfl (Nat.le_of_ble_eq_true rfl) ?_
  have hN := hw.2.2.1
  have hT := hw.2.1
  generalize hr : some (F_wish (σ 77) i t) = r
  generalize hs : S_wish σ c i t = s2
  have fin : hasB i (σ 77 2) = true → ok_wish (σ 77) i t = true → ∀ v : Int32, v = (if t = nI 9 then -4 else t) → lt_g l (d + 3) mX8_wish lt_SA σ 37 [some (.ref 76), some (.int i), some (.int t), some (.int v), none] [] r s2 := by
    intro hb hok v hv
    rw [hN.1] at hb
    obtain ⟨i, hi, rfl⟩ := hasB_ix (by omega) hb
    have e1 := tN_nI (show i < 2 ^ 31 by omega)
    subst hr
    subst hs
    simp only [F_wish, S_wish, hok, e1, ← hv]
    refine g_al0 (pc2 := 38) dX8_wish_37 rfl ?_
    refine g_il1 (pc2 := 39) dX8_wish_38 rfl ?_
    refine g_iconst (pc2 := 40) dX8_wish_39 k_iconst_4 rfl ?_
    refine g_cVi (pc2 := 43) (R_m_of l (d + 1) _ _ _ (by omega) (by decide)) meX8_of mlX8_110 (by rfl) ⟨_, rfl, rfl⟩ rfl rfl (by simp) ⟨Nat.le_refl _, Nat.le_refl _⟩ dX8_wish_40 rfl ?_
    refine g_is4 (pc2 := 45) dX8_wish_43 (by decide) rfl ?_
    refine g_il4 (pc2 := 47) dX8_wish_45 rfl ?_
    refine g_il3 (pc2 := 48) dX8_wish_47 rfl ?_
    refine g_icmp_ne 54 51 dX8_wish_48 rfl rfl (fun h48 => ?_) (fun h48 => ?_)
    · refine g_al0 (pc2 := 55) dX8_wish_54 rfl ?_
      refine g_cVv (pc2 := 58) (R_m_keeps l (d + 1) _ hc hc6) meX8_keeps mlX8_145 (by rfl) ⟨_, rfl, rfl⟩ rfl rfl (by simp) ⟨Nat.le_refl _, Nat.le_refl _⟩ dX8_wish_55 rfl ?_
      refine g_al0 (pc2 := 59) dX8_wish_58 rfl ?_
      refine g_il1 (pc2 := 60) dX8_wish_59 rfl ?_
      refine g_iconst (pc2 := 61) dX8_wish_60 k_iconst_4 rfl ?_
      refine g_il3 (pc2 := 62) dX8_wish_61 rfl ?_
      refine g_cVv (pc2 := 65) (R_m_becomes l (d + 1) _ _ _ _ (by omega) (by decide)) meX8_becomes mlX8_148 (by rfl) ⟨_, rfl, rfl⟩ rfl rfl (by simp) ⟨Nat.le_refl _, Nat.le_refl _⟩ dX8_wish_62 rfl ?_
      refine g_il4 (pc2 := 67) dX8_wish_65 rfl ?_
      refine g_bipush (pc2 := 69) dX8_wish_67 k_bipush_m4 rfl ?_
      refine g_icmp_ne 77 72 dX8_wish_69 rfl rfl (fun h69 => ?_) (fun h69 => ?_)
      · refine g_il4 (pc2 := 79) dX8_wish_77 rfl ?_
        exact g_iretT dX8_wish_79 rfl (Nat.le_refl _) (Nat.le_refl _) (by first | (simp [h48]; done) | (simp only [if_neg h48, if_pos h69, if_true]; done) | (simp only [if_neg h48, if_neg h69, if_true]; done)) (by simp [h48])
      · refine g_bipush (pc2 := 74) dX8_wish_72 k_bipush_9 rfl ?_
        refine g_goto 79 dX8_wish_74 rfl ?_
        exact g_iretT dX8_wish_79 rfl (Nat.le_refl _) (Nat.le_refl _) (by first | (simp [h48]; done) | (simp only [if_neg h48, if_pos h69, if_true]; done) | (simp only [if_neg h48, if_neg h69, if_true]; done)) (by simp [h48])
    · refine g_bipush (pc2 := 53) dX8_wish_51 k_bipush_m2 rfl ?_
      exact g_iretT dX8_wish_53 rfl (Nat.le_refl _) (Nat.le_refl _) (by first | (simp [h48]; done) | (simp only [if_neg h48, if_pos h69, if_true]; done) | (simp only [if_neg h48, if_neg h69, if_true]; done)) (by simp [h48])
  refine g_al0 (pc2 := 1) dX8_wish_0 rfl ?_
  refine g_il1 (pc2 := 2) dX8_wish_1 rfl ?_
  refine g_cVi (pc2 := 5) (R_m_isTrain l d _ _ hN.1 (by omega)) meX8_isTrain mlX8_135 (by rfl) ⟨_, rfl, rfl⟩ rfl rfl (by simp) ⟨Nat.le_refl _, Nat.le_refl _⟩ dX8_wish_2 rfl ?_
  refine g_if_eqB 22 8 dX8_wish_5 rfl rfl (fun h5 => ?_) (fun h5 => ?_)
  · subst hr
    subst hs
    refine g_iconst (pc2 := 23) dX8_wish_22 k_iconst_m1 rfl ?_
    exact g_iretT dX8_wish_23 rfl (Nat.le_refl _) (Nat.le_refl _) (by first | (simp [F_wish, ok_wish, h5]; done) | (simp [F_wish, ok_wish, h11, h19]; done)) (by first | (simp [S_wish, ok_wish, h5]; done) | (simp [S_wish, ok_wish, h11, h19]; done))
  · refine g_il2 (pc2 := 9) dX8_wish_8 rfl ?_
    refine g_bipush (pc2 := 11) dX8_wish_9 k_bipush_9 rfl ?_
    refine g_icmp_eq 24 14 dX8_wish_11 rfl rfl (fun h11 => ?_) (fun h11 => ?_)
    · refine g_il2 (pc2 := 25) dX8_wish_24 rfl ?_
      refine g_bipush (pc2 := 27) dX8_wish_25 k_bipush_9 rfl ?_
      refine g_icmp_ne 35 30 dX8_wish_27 rfl rfl (fun h27 => ?_) (fun h27 => ?_)
      · refine g_il2 (pc2 := 36) dX8_wish_35 rfl ?_
        refine g_is3 (pc2 := 37) dX8_wish_36 (by decide) rfl ?_
        exact fin h5 (by first | (simp [ok_wish, h5, h11]; done) | (simp [ok_wish, h5, h19]; done)) _ (by first | (rw [if_pos h27]; done) | (rw [if_neg h27]; done))
      · refine g_bipush (pc2 := 32) dX8_wish_30 k_bipush_m4 rfl ?_
        refine g_goto 36 dX8_wish_32 rfl ?_
        refine g_is3 (pc2 := 37) dX8_wish_36 (by decide) rfl ?_
        exact fin h5 (by first | (simp [ok_wish, h5, h11]; done) | (simp [ok_wish, h5, h19]; done)) _ (by first | (rw [if_pos h27]; done) | (rw [if_neg h27]; done))
    · refine g_al0 (pc2 := 15) dX8_wish_14 rfl ?_
      refine g_il2 (pc2 := 16) dX8_wish_15 rfl ?_
      refine g_cVi (pc2 := 19) (R_m_isTrack l d _ _ hT.1 (by omega)) meX8_isTrack mlX8_102 (by rfl) ⟨_, rfl, rfl⟩ rfl rfl (by simp) ⟨Nat.le_refl _, Nat.le_refl _⟩ dX8_wish_16 rfl ?_
      refine g_if_neB 24 22 dX8_wish_19 rfl rfl (fun h19 => ?_) (fun h19 => ?_)
      · refine g_il2 (pc2 := 25) dX8_wish_24 rfl ?_
        refine g_bipush (pc2 := 27) dX8_wish_25 k_bipush_9 rfl ?_
        refine g_icmp_ne 35 30 dX8_wish_27 rfl rfl (fun h27 => ?_) (fun h27 => ?_)
        · refine g_il2 (pc2 := 36) dX8_wish_35 rfl ?_
          refine g_is3 (pc2 := 37) dX8_wish_36 (by decide) rfl ?_
          exact fin h5 (by first | (simp [ok_wish, h5, h11]; done) | (simp [ok_wish, h5, h19]; done)) _ (by first | (rw [if_pos h27]; done) | (rw [if_neg h27]; done))
        · refine g_bipush (pc2 := 32) dX8_wish_30 k_bipush_m4 rfl ?_
          refine g_goto 36 dX8_wish_32 rfl ?_
          refine g_is3 (pc2 := 37) dX8_wish_36 (by decide) rfl ?_
          exact fin h5 (by first | (simp [ok_wish, h5, h11]; done) | (simp [ok_wish, h5, h19]; done)) _ (by first | (rw [if_pos h27]; done) | (rw [if_neg h27]; done))
      · subst hr
        subst hs
        refine g_iconst (pc2 := 23) dX8_wish_22 k_iconst_m1 rfl ?_
        exact g_iretT dX8_wish_23 rfl (Nat.le_refl _) (Nat.le_refl _) (by first | (simp [F_wish, ok_wish, h5]; done) | (simp [F_wish, ok_wish, h11, h19]; done)) (by first | (simp [S_wish, ok_wish, h5]; done) | (simp [S_wish, ok_wish, h11, h19]; done))
def ok_late (w : Nat → Int32) (i x : Int32) : Bool := hasB i (w 2) && (!decide (x = 0) && inB x (-20) (nI 60))
def can_late (w : Nat → Int32) (i : Nat) (x : Int32) : Bool := !decide (w (16 + 7 * i + 2) + x < nI 1) && decide (w (16 + 7 * i + 3) + x ≤ nI 98)
def lost_late (w : Nat → Int32) (i : Nat) : Bool := !decide (w (16 + 7 * i + 6) = -4) && !decide (pf_clashing w i (tN (w (16 + 7 * i + 6))) = none)
def F_late (w : Nat → Int32) (i x : Int32) : Int32 := if ok_late w i x then (if can_late w (tN i) x then (if lost_late (pf_late w (tN i) x) (tN i) then nI 1 else nI 0) else -2) else -1
def S_late (σ : lt_S) (c : Nat) (i x : Int32) : lt_S := if ok_late (σ 77) i x && can_late (σ 77) (tN i) x then lt_ur (S_keep σ c) 77 (if lost_late (pf_late (σ 77) (tN i) x) (tN i) then upd (pf_late (σ 77) (tN i) x) (16 + 7 * tN i + 6) (-4) else pf_late (σ 77) (tN i) x) else σ
theorem R_m_late (l : lt_L) (d : Nat) (σ : lt_S) {ln T N c : Nat} (hw : Wf (σ 77) ln T N) (hc : σ 76 3 = nI c) (hc6 : c ≤ 6) (i x : Int32) : lt_T l (d + 5) mX8_late lt_SA σ [.ref 76, .int i, .int x] (some (F_late (σ 77) i x)) (S_late σ c i x) := by
  refine lt_T.of [some (.ref 76), some (.int i), some (.int x)] rfl rfl (Nat.le_of_ble_eq_true rfl) ?_
  have hN := hw.2.2.1
  have hT := hw.2.1
  generalize hr : some (F_late (σ 77) i x) = r
  generalize hs : S_late σ c i x = s2
  have fin : hasB i (σ 77 2) = true → ok_late (σ 77) i x = true → lt_g l (d + 5) mX8_late lt_SA σ 25 [some (.ref 76), some (.int i), some (.int x)] [] r s2 := by
    intro hb hok
    rw [hN.1] at hb
    obtain ⟨i, hi, rfl⟩ := hasB_ix (by omega) hb
    have e1 := tN_nI (show i < 2 ^ 31 by omega)
    have hx : inB x (-20) (nI 60) = true := by simp [ok_late] at hok; exact hok.2.2
    subst hr
    subst hs
    simp only [F_late, S_late, hok, e1]
    by_cases hcan : can_late (σ 77) i x = true
    · have h1 : ¬ σ 77 (16 + 7 * i + 2) + x < nI 1 := by simp [can_late] at hcan; exact Int32.not_lt.mpr hcan.1
      have h2 : σ 77 (16 + 7 * i + 3) + x ≤ nI 98 := by simp [can_late] at hcan; exact hcan.2
      have hwl := hw.late hi hx h1 h2
      have hrow : lt_up (lt_up (S_keep σ c) 77 (16 + 7 * i + 2) (σ 77 (16 + 7 * i + 2) + x)) 77 (16 + 7 * i + 3) (σ 77 (16 + 7 * i + 3) + x) = lt_ur (S_keep σ c) 77 (pf_late (σ 77) i x) := by
        rw [lt_up_ur, lt_up_row, lt_up_ur, lt_ur_ur, S_keep_ne _ _ (by decide) (by decide)]
        rfl
      have h77 : lt_ur (S_keep σ c) 77 (pf_late (σ 77) i x) 77 = pf_late (σ 77) i x := lt_ur_eq _ _ _
      have e6 : pf_late (σ 77) i x (16 + 7 * i + 6) = σ 77 (16 + 7 * i + 6) := by rw [pf_late_at _ _ _ _ _ (by decide), if_neg (by omega)]
      simp only [hcan]
      by_cases hp : pf_late (σ 77) i x (16 + 7 * i + 6) = -4
      · refine g_al0 (pc2 := 26) dX8_late_25 rfl ?_
        refine g_il1 (pc2 := 27) dX8_late_26 rfl ?_
        refine g_iconst (pc2 := 28) dX8_late_27 k_iconst_2 rfl ?_
        refine g_cVi (pc2 := 31) (R_m_of l (d + 3) _ _ _ (by omega) (by decide)) meX8_of mlX8_110 (by rfl) ⟨_, rfl, rfl⟩ rfl rfl (by simp) ⟨Nat.le_refl _, Nat.le_refl _⟩ dX8_late_28 rfl ?_
        refine g_il2 (pc2 := 32) dX8_late_31 rfl ?_
        refine g_iadd (pc2 := 33) dX8_late_32 rfl ?_
        refine g_iconst (pc2 := 34) dX8_late_33 k_iconst_1 rfl ?_
        refine g_icmp_lt 50 37 dX8_late_34 rfl rfl (fun h34 => ?_) (fun h34 => ?_)
        · exact absurd h34 h1
        · refine g_al0 (pc2 := 38) dX8_late_37 rfl ?_
          refine g_il1 (pc2 := 39) dX8_late_38 rfl ?_
          refine g_iconst (pc2 := 40) dX8_late_39 k_iconst_3 rfl ?_
          refine g_cVi (pc2 := 43) (R_m_of l (d + 3) _ _ _ (by omega) (by decide)) meX8_of mlX8_110 (by rfl) ⟨_, rfl, rfl⟩ rfl rfl (by simp) ⟨Nat.le_refl _, Nat.le_refl _⟩ dX8_late_40 rfl ?_
          refine g_il2 (pc2 := 44) dX8_late_43 rfl ?_
          refine g_iadd (pc2 := 45) dX8_late_44 rfl ?_
          refine g_bipush (pc2 := 47) dX8_late_45 k_bipush_98 rfl ?_
          refine g_icmp_le 53 50 dX8_late_47 rfl rfl (fun h47 => ?_) (fun h47 => ?_)
          · refine g_al0 (pc2 := 54) dX8_late_53 rfl ?_
            refine g_cVv (pc2 := 57) (R_m_keeps l (d + 3) _ hc hc6) meX8_keeps mlX8_145 (by rfl) ⟨_, rfl, rfl⟩ rfl rfl (by simp) ⟨Nat.le_refl _, Nat.le_refl _⟩ dX8_late_54 rfl ?_
            refine g_al0 (pc2 := 58) dX8_late_57 rfl ?_
            refine g_il1 (pc2 := 59) dX8_late_58 rfl ?_
            refine g_iconst (pc2 := 60) dX8_late_59 k_iconst_2 rfl ?_
            refine g_al0 (pc2 := 61) dX8_late_60 rfl ?_
            refine g_il1 (pc2 := 62) dX8_late_61 rfl ?_
            refine g_iconst (pc2 := 63) dX8_late_62 k_iconst_2 rfl ?_
            refine g_cVi (pc2 := 66) (R_m_of l (d + 3) _ _ _ (by omega) (by decide)) meX8_of mlX8_110 (by rfl) ⟨_, rfl, rfl⟩ rfl rfl (by simp) ⟨Nat.le_refl _, Nat.le_refl _⟩ dX8_late_63 rfl ?_
            rw [S_keep_ne σ c (show (77 : Nat) ≠ 79 by decide) (show (77 : Nat) ≠ 76 by decide)]
            refine g_il2 (pc2 := 67) dX8_late_66 rfl ?_
            refine g_iadd (pc2 := 68) dX8_late_67 rfl ?_
            refine g_cVv (pc2 := 71) (R_m_becomes l (d + 3) _ _ _ _ (by omega) (by decide)) meX8_becomes mlX8_148 (by rfl) ⟨_, rfl, rfl⟩ rfl rfl (by simp) ⟨Nat.le_refl _, Nat.le_refl _⟩ dX8_late_68 rfl ?_
            refine g_al0 (pc2 := 72) dX8_late_71 rfl ?_
            refine g_il1 (pc2 := 73) dX8_late_72 rfl ?_
            refine g_iconst (pc2 := 74) dX8_late_73 k_iconst_3 rfl ?_
            refine g_al0 (pc2 := 75) dX8_late_74 rfl ?_
            refine g_il1 (pc2 := 76) dX8_late_75 rfl ?_
            refine g_iconst (pc2 := 77) dX8_late_76 k_iconst_3 rfl ?_
            refine g_cVi (pc2 := 80) (R_m_of l (d + 3) _ _ _ (by omega) (by decide)) meX8_of mlX8_110 (by rfl) ⟨_, rfl, rfl⟩ rfl rfl (by simp) ⟨Nat.le_refl _, Nat.le_refl _⟩ dX8_late_77 rfl ?_
            rw [lt_up_ne _ _ _ (show 16 + 7 * i + 3 ≠ 16 + 7 * i + 2 by omega), S_keep_ne σ c (show (77 : Nat) ≠ 79 by decide) (show (77 : Nat) ≠ 76 by decide)]
            refine g_il2 (pc2 := 81) dX8_late_80 rfl ?_
            refine g_iadd (pc2 := 82) dX8_late_81 rfl ?_
            refine g_cVv (pc2 := 85) (R_m_becomes l (d + 3) _ _ _ _ (by omega) (by decide)) meX8_becomes mlX8_148 (by rfl) ⟨_, rfl, rfl⟩ rfl rfl (by simp) ⟨Nat.le_refl _, Nat.le_refl _⟩ dX8_late_82 rfl ?_
            rw [hrow]
            refine g_al0 (pc2 := 86) dX8_late_85 rfl ?_
            refine g_il1 (pc2 := 87) dX8_late_86 rfl ?_
            refine g_bipush (pc2 := 89) dX8_late_87 k_bipush_6 rfl ?_
            refine g_cVi (pc2 := 92) (R_m_of l (d + 3) _ _ _ (by omega) (by decide)) meX8_of mlX8_110 (by rfl) ⟨_, rfl, rfl⟩ rfl rfl (by simp) ⟨Nat.le_refl _, Nat.le_refl _⟩ dX8_late_89 rfl ?_
            refine g_bipush (pc2 := 94) dX8_late_92 k_bipush_m4 rfl ?_
            refine g_icmp_eq 114 97 dX8_late_94 rfl rfl (fun h94 => ?_) (fun h94 => ?_)
            · refine g_iconst (pc2 := 115) dX8_late_114 k_iconst_0 rfl ?_
              exact g_iretT dX8_late_115 rfl (Nat.le_refl _) (Nat.le_refl _) (by simp [lost_late, hp]) (by simp [lost_late, hp])
            · exact absurd hp (by rw [← h77]; exact h94)
          · exact absurd h2 h47
      · obtain ⟨t, ht, q1, q2⟩ := hwl.pl hi hp
        have ht4 : t < 4 := by omega
        cases hcl : pf_clashing (pf_late (σ 77) i x) i t with
        | none =>
          refine g_al0 (pc2 := 26) dX8_late_25 rfl ?_
          refine g_il1 (pc2 := 27) dX8_late_26 rfl ?_
          refine g_iconst (pc2 := 28) dX8_late_27 k_iconst_2 rfl ?_
          refine g_cVi (pc2 := 31) (R_m_of l (d + 3) _ _ _ (by omega) (by decide)) meX8_of mlX8_110 (by rfl) ⟨_, rfl, rfl⟩ rfl rfl (by simp) ⟨Nat.le_refl _, Nat.le_refl _⟩ dX8_late_28 rfl ?_
          refine g_il2 (pc2 := 32) dX8_late_31 rfl ?_
          refine g_iadd (pc2 := 33) dX8_late_32 rfl ?_
          refine g_iconst (pc2 := 34) dX8_late_33 k_iconst_1 rfl ?_
          refine g_icmp_lt 50 37 dX8_late_34 rfl rfl (fun h34 => ?_) (fun h34 => ?_)
          · exact absurd h34 h1
          · refine g_al0 (pc2 := 38) dX8_late_37 rfl ?_
            refine g_il1 (pc2 := 39) dX8_late_38 rfl ?_
            refine g_iconst (pc2 := 40) dX8_late_39 k_iconst_3 rfl ?_
            refine g_cVi (pc2 := 43) (R_m_of l (d + 3) _ _ _ (by omega) (by decide)) meX8_of mlX8_110 (by rfl) ⟨_, rfl, rfl⟩ rfl rfl (by simp) ⟨Nat.le_refl _, Nat.le_refl _⟩ dX8_late_40 rfl ?_
            refine g_il2 (pc2 := 44) dX8_late_43 rfl ?_
            refine g_iadd (pc2 := 45) dX8_late_44 rfl ?_
            refine g_bipush (pc2 := 47) dX8_late_45 k_bipush_98 rfl ?_
            refine g_icmp_le 53 50 dX8_late_47 rfl rfl (fun h47 => ?_) (fun h47 => ?_)
            · refine g_al0 (pc2 := 54) dX8_late_53 rfl ?_
              refine g_cVv (pc2 := 57) (R_m_keeps l (d + 3) _ hc hc6) meX8_keeps mlX8_145 (by rfl) ⟨_, rfl, rfl⟩ rfl rfl (by simp) ⟨Nat.le_refl _, Nat.le_refl _⟩ dX8_late_54 rfl ?_
              refine g_al0 (pc2 := 58) dX8_late_57 rfl ?_
              refine g_il1 (pc2 := 59) dX8_late_58 rfl ?_
              refine g_iconst (pc2 := 60) dX8_late_59 k_iconst_2 rfl ?_
              refine g_al0 (pc2 := 61) dX8_late_60 rfl ?_
              refine g_il1 (pc2 := 62) dX8_late_61 rfl ?_
              refine g_iconst (pc2 := 63) dX8_late_62 k_iconst_2 rfl ?_
              refine g_cVi (pc2 := 66) (R_m_of l (d + 3) _ _ _ (by omega) (by decide)) meX8_of mlX8_110 (by rfl) ⟨_, rfl, rfl⟩ rfl rfl (by simp) ⟨Nat.le_refl _, Nat.le_refl _⟩ dX8_late_63 rfl ?_
              rw [S_keep_ne σ c (show (77 : Nat) ≠ 79 by decide) (show (77 : Nat) ≠ 76 by decide)]
              refine g_il2 (pc2 := 67) dX8_late_66 rfl ?_
              refine g_iadd (pc2 := 68) dX8_late_67 rfl ?_
              refine g_cVv (pc2 := 71) (R_m_becomes l (d + 3) _ _ _ _ (by omega) (by decide)) meX8_becomes mlX8_148 (by rfl) ⟨_, rfl, rfl⟩ rfl rfl (by simp) ⟨Nat.le_refl _, Nat.le_refl _⟩ dX8_late_68 rfl ?_
              refine g_al0 (pc2 := 72) dX8_late_71 rfl ?_
              refine g_il1 (pc2 := 73) dX8_late_72 rfl ?_
              refine g_iconst (pc2 := 74) dX8_late_73 k_iconst_3 rfl ?_
              refine g_al0 (pc2 := 75) dX8_late_74 rfl ?_
              refine g_il1 (pc2 := 76) dX8_late_75 rfl ?_
              refine g_iconst (pc2 := 77) dX8_late_76 k_iconst_3 rfl ?_
              refine g_cVi (pc2 := 80) (R_m_of l (d + 3) _ _ _ (by omega) (by decide)) meX8_of mlX8_110 (by rfl) ⟨_, rfl, rfl⟩ rfl rfl (by simp) ⟨Nat.le_refl _, Nat.le_refl _⟩ dX8_late_77 rfl ?_
              rw [lt_up_ne _ _ _ (show 16 + 7 * i + 3 ≠ 16 + 7 * i + 2 by omega), S_keep_ne σ c (show (77 : Nat) ≠ 79 by decide) (show (77 : Nat) ≠ 76 by decide)]
              refine g_il2 (pc2 := 81) dX8_late_80 rfl ?_
              refine g_iadd (pc2 := 82) dX8_late_81 rfl ?_
              refine g_cVv (pc2 := 85) (R_m_becomes l (d + 3) _ _ _ _ (by omega) (by decide)) meX8_becomes mlX8_148 (by rfl) ⟨_, rfl, rfl⟩ rfl rfl (by simp) ⟨Nat.le_refl _, Nat.le_refl _⟩ dX8_late_82 rfl ?_
              rw [hrow]
              refine g_al0 (pc2 := 86) dX8_late_85 rfl ?_
              refine g_il1 (pc2 := 87) dX8_late_86 rfl ?_
              refine g_bipush (pc2 := 89) dX8_late_87 k_bipush_6 rfl ?_
              refine g_cVi (pc2 := 92) (R_m_of l (d + 3) _ _ _ (by omega) (by decide)) meX8_of mlX8_110 (by rfl) ⟨_, rfl, rfl⟩ rfl rfl (by simp) ⟨Nat.le_refl _, Nat.le_refl _⟩ dX8_late_89 rfl ?_
              refine g_bipush (pc2 := 94) dX8_late_92 k_bipush_m4 rfl ?_
              refine g_icmp_eq 114 97 dX8_late_94 rfl rfl (fun h94 => ?_) (fun h94 => ?_)
              · exact absurd (h77 ▸ h94) hp
              · refine g_al0 (pc2 := 98) dX8_late_97 rfl ?_
                refine g_il1 (pc2 := 99) dX8_late_98 rfl ?_
                refine g_al0 (pc2 := 100) dX8_late_99 rfl ?_
                refine g_il1 (pc2 := 101) dX8_late_100 rfl ?_
                refine g_bipush (pc2 := 103) dX8_late_101 k_bipush_6 rfl ?_
                refine g_cVi (pc2 := 106) (R_m_of l (d + 3) _ _ _ (by omega) (by decide)) meX8_of mlX8_110 (by rfl) ⟨_, rfl, rfl⟩ rfl rfl (by simp) ⟨Nat.le_refl _, Nat.le_refl _⟩ dX8_late_103 rfl ?_
                rw [h77, q1]
                refine g_cVi (pc2 := 109) (R_m_clashing l d _ (by rw [h77]; exact hwl) _ _ hi ht4) meX8_clashing mlX8_126 (by rfl) ⟨_, rfl, rfl⟩ rfl rfl (by simp) ⟨Nat.le_refl _, Nat.le_refl _⟩ dX8_late_106 rfl ?_
                rw [h77, hcl]
                refine g_bipush (pc2 := 111) dX8_late_109 k_bipush_m4 rfl ?_
                refine g_icmp_ne 116 114 dX8_late_111 rfl rfl (fun h111 => ?_) (fun h111 => ?_)
                · exact absurd rfl h111
                · refine g_iconst (pc2 := 115) dX8_late_114 k_iconst_0 rfl ?_
                  exact g_iretT dX8_late_115 rfl (Nat.le_refl _) (Nat.le_refl _) (by simp [lost_late, hp, q1, m4_ne (show t < 2 ^ 31 by omega), tN_nI (show t < 2 ^ 31 by omega), hcl]) (by simp [lost_late, hp, q1, m4_ne (show t < 2 ^ 31 by omega), tN_nI (show t < 2 ^ 31 by omega), hcl])
            · exact absurd h2 h47
        | some j =>
          have hj := pf_clashing_lt hwl j hcl
          refine g_al0 (pc2 := 26) dX8_late_25 rfl ?_
          refine g_il1 (pc2 := 27) dX8_late_26 rfl ?_
          refine g_iconst (pc2 := 28) dX8_late_27 k_iconst_2 rfl ?_
          refine g_cVi (pc2 := 31) (R_m_of l (d + 3) _ _ _ (by omega) (by decide)) meX8_of mlX8_110 (by rfl) ⟨_, rfl, rfl⟩ rfl rfl (by simp) ⟨Nat.le_refl _, Nat.le_refl _⟩ dX8_late_28 rfl ?_
          refine g_il2 (pc2 := 32) dX8_late_31 rfl ?_
          refine g_iadd (pc2 := 33) dX8_late_32 rfl ?_
          refine g_iconst (pc2 := 34) dX8_late_33 k_iconst_1 rfl ?_
          refine g_icmp_lt 50 37 dX8_late_34 rfl rfl (fun h34 => ?_) (fun h34 => ?_)
          · exact absurd h34 h1
          · refine g_al0 (pc2 := 38) dX8_late_37 rfl ?_
            refine g_il1 (pc2 := 39) dX8_late_38 rfl ?_
            refine g_iconst (pc2 := 40) dX8_late_39 k_iconst_3 rfl ?_
            refine g_cVi (pc2 := 43) (R_m_of l (d + 3) _ _ _ (by omega) (by decide)) meX8_of mlX8_110 (by rfl) ⟨_, rfl, rfl⟩ rfl rfl (by simp) ⟨Nat.le_refl _, Nat.le_refl _⟩ dX8_late_40 rfl ?_
            refine g_il2 (pc2 := 44) dX8_late_43 rfl ?_
            refine g_iadd (pc2 := 45) dX8_late_44 rfl ?_
            refine g_bipush (pc2 := 47) dX8_late_45 k_bipush_98 rfl ?_
            refine g_icmp_le 53 50 dX8_late_47 rfl rfl (fun h47 => ?_) (fun h47 => ?_)
            · refine g_al0 (pc2 := 54) dX8_late_53 rfl ?_
              refine g_cVv (pc2 := 57) (R_m_keeps l (d + 3) _ hc hc6) meX8_keeps mlX8_145 (by rfl) ⟨_, rfl, rfl⟩ rfl rfl (by simp) ⟨Nat.le_refl _, Nat.le_refl _⟩ dX8_late_54 rfl ?_
              refine g_al0 (pc2 := 58) dX8_late_57 rfl ?_
              refine g_il1 (pc2 := 59) dX8_late_58 rfl ?_
              refine g_iconst (pc2 := 60) dX8_late_59 k_iconst_2 rfl ?_
              refine g_al0 (pc2 := 61) dX8_late_60 rfl ?_
              refine g_il1 (pc2 := 62) dX8_late_61 rfl ?_
              refine g_iconst (pc2 := 63) dX8_late_62 k_iconst_2 rfl ?_
              refine g_cVi (pc2 := 66) (R_m_of l (d + 3) _ _ _ (by omega) (by decide)) meX8_of mlX8_110 (by rfl) ⟨_, rfl, rfl⟩ rfl rfl (by simp) ⟨Nat.le_refl _, Nat.le_refl _⟩ dX8_late_63 rfl ?_
              rw [S_keep_ne σ c (show (77 : Nat) ≠ 79 by decide) (show (77 : Nat) ≠ 76 by decide)]
              refine g_il2 (pc2 := 67) dX8_late_66 rfl ?_
              refine g_iadd (pc2 := 68) dX8_late_67 rfl ?_
              refine g_cVv (pc2 := 71) (R_m_becomes l (d + 3) _ _ _ _ (by omega) (by decide)) meX8_becomes mlX8_148 (by rfl) ⟨_, rfl, rfl⟩ rfl rfl (by simp) ⟨Nat.le_refl _, Nat.le_refl _⟩ dX8_late_68 rfl ?_
              refine g_al0 (pc2 := 72) dX8_late_71 rfl ?_
              refine g_il1 (pc2 := 73) dX8_late_72 rfl ?_
              refine g_iconst (pc2 := 74) dX8_late_73 k_iconst_3 rfl ?_
              refine g_al0 (pc2 := 75) dX8_late_74 rfl ?_
              refine g_il1 (pc2 := 76) dX8_late_75 rfl ?_
              refine g_iconst (pc2 := 77) dX8_late_76 k_iconst_3 rfl ?_
              refine g_cVi (pc2 := 80) (R_m_of l (d + 3) _ _ _ (by omega) (by decide)) meX8_of mlX8_110 (by rfl) ⟨_, rfl, rfl⟩ rfl rfl (by simp) ⟨Nat.le_refl _, Nat.le_refl _⟩ dX8_late_77 rfl ?_
              rw [lt_up_ne _ _ _ (show 16 + 7 * i + 3 ≠ 16 + 7 * i + 2 by omega), S_keep_ne σ c (show (77 : Nat) ≠ 79 by decide) (show (77 : Nat) ≠ 76 by decide)]
              refine g_il2 (pc2 := 81) dX8_late_80 rfl ?_
              refine g_iadd (pc2 := 82) dX8_late_81 rfl ?_
              refine g_cVv (pc2 := 85) (R_m_becomes l (d + 3) _ _ _ _ (by omega) (by decide)) meX8_becomes mlX8_148 (by rfl) ⟨_, rfl, rfl⟩ rfl rfl (by simp) ⟨Nat.le_refl _, Nat.le_refl _⟩ dX8_late_82 rfl ?_
              rw [hrow]
              refine g_al0 (pc2 := 86) dX8_late_85 rfl ?_
              refine g_il1 (pc2 := 87) dX8_late_86 rfl ?_
              refine g_bipush (pc2 := 89) dX8_late_87 k_bipush_6 rfl ?_
              refine g_cVi (pc2 := 92) (R_m_of l (d + 3) _ _ _ (by omega) (by decide)) meX8_of mlX8_110 (by rfl) ⟨_, rfl, rfl⟩ rfl rfl (by simp) ⟨Nat.le_refl _, Nat.le_refl _⟩ dX8_late_89 rfl ?_
              refine g_bipush (pc2 := 94) dX8_late_92 k_bipush_m4 rfl ?_
              refine g_icmp_eq 114 97 dX8_late_94 rfl rfl (fun h94 => ?_) (fun h94 => ?_)
              · exact absurd (h77 ▸ h94) hp
              · refine g_al0 (pc2 := 98) dX8_late_97 rfl ?_
                refine g_il1 (pc2 := 99) dX8_late_98 rfl ?_
                refine g_al0 (pc2 := 100) dX8_late_99 rfl ?_
                refine g_il1 (pc2 := 101) dX8_late_100 rfl ?_
                refine g_bipush (pc2 := 103) dX8_late_101 k_bipush_6 rfl ?_
                refine g_cVi (pc2 := 106) (R_m_of l (d + 3) _ _ _ (by omega) (by decide)) meX8_of mlX8_110 (by rfl) ⟨_, rfl, rfl⟩ rfl rfl (by simp) ⟨Nat.le_refl _, Nat.le_refl _⟩ dX8_late_103 rfl ?_
                rw [h77, q1]
                refine g_cVi (pc2 := 109) (R_m_clashing l d _ (by rw [h77]; exact hwl) _ _ hi ht4) meX8_clashing mlX8_126 (by rfl) ⟨_, rfl, rfl⟩ rfl rfl (by simp) ⟨Nat.le_refl _, Nat.le_refl _⟩ dX8_late_106 rfl ?_
                rw [h77, hcl]
                refine g_bipush (pc2 := 111) dX8_late_109 k_bipush_m4 rfl ?_
                refine g_icmp_ne 116 114 dX8_late_111 rfl rfl (fun h111 => ?_) (fun h111 => ?_)
                · refine g_al0 (pc2 := 117) dX8_late_116 rfl ?_
                  refine g_il1 (pc2 := 118) dX8_late_117 rfl ?_
                  refine g_bipush (pc2 := 120) dX8_late_118 k_bipush_6 rfl ?_
                  refine g_bipush (pc2 := 122) dX8_late_120 k_bipush_m4 rfl ?_
                  refine g_cVv (pc2 := 125) (R_m_becomes l (d + 3) _ _ _ _ (by omega) (by decide)) meX8_becomes mlX8_148 (by rfl) ⟨_, rfl, rfl⟩ rfl rfl (by simp) ⟨Nat.le_refl _, Nat.le_refl _⟩ dX8_late_122 rfl ?_
                  refine g_iconst (pc2 := 126) dX8_late_125 k_iconst_1 rfl ?_
                  exact g_iretT dX8_late_126 rfl (Nat.le_refl _) (Nat.le_refl _) (by simp [lost_late, hp, q1, m4_ne (show t < 2 ^ 31 by omega), tN_nI (show t < 2 ^ 31 by omega), hcl]) (by simp [lost_late, hp, q1, m4_ne (show t < 2 ^ 31 by omega), tN_nI (show t < 2 ^ 31 by omega), hcl]; rw [lt_up_ur, lt_ur_eq, lt_ur_ur])
                · exact absurd h111 (m4_ne hj)
            · exact absurd h2 h47
    · have hcan2 : can_late (σ 77) i x = false := by simpa using hcan
      simp only [hcan2]
      refine g_al0 (pc2 := 26) dX8_late_25 rfl ?_
      refine g_il1 (pc2 := 27) dX8_late_26 rfl ?_
      refine g_iconst (pc2 := 28) dX8_late_27 k_iconst_2 rfl ?_
      refine g_cVi (pc2 := 31) (R_m_of l (d + 3) _ _ _ (by omega) (by decide)) meX8_of mlX8_110 (by rfl) ⟨_, rfl, rfl⟩ rfl rfl (by simp) ⟨Nat.le_refl _, Nat.le_refl _⟩ dX8_late_28 rfl ?_
      refine g_il2 (pc2 := 32) dX8_late_31 rfl ?_
      refine g_iadd (pc2 := 33) dX8_late_32 rfl ?_
      refine g_iconst (pc2 := 34) dX8_late_33 k_iconst_1 rfl ?_
      refine g_icmp_lt 50 37 dX8_late_34 rfl rfl (fun h34 => ?_) (fun h34 => ?_)
      · refine g_bipush (pc2 := 52) dX8_late_50 k_bipush_m2 rfl ?_
        exact g_iretT dX8_late_52 rfl (Nat.le_refl _) (Nat.le_refl _) (by rfl) (by rfl)
      · refine g_al0 (pc2 := 38) dX8_late_37 rfl ?_
        refine g_il1 (pc2 := 39) dX8_late_38 rfl ?_
        refine g_iconst (pc2 := 40) dX8_late_39 k_iconst_3 rfl ?_
        refine g_cVi (pc2 := 43) (R_m_of l (d + 3) _ _ _ (by omega) (by decide)) meX8_of mlX8_110 (by rfl) ⟨_, rfl, rfl⟩ rfl rfl (by simp) ⟨Nat.le_refl _, Nat.le_refl _⟩ dX8_late_40 rfl ?_
        refine g_il2 (pc2 := 44) dX8_late_43 rfl ?_
        refine g_iadd (pc2 := 45) dX8_late_44 rfl ?_
        refine g_bipush (pc2 := 47) dX8_late_45 k_bipush_98 rfl ?_
        refine g_icmp_le 53 50 dX8_late_47 rfl rfl (fun h47 => ?_) (fun h47 => ?_)
        · exact absurd hcan2 (by simp [can_late, h34, h47])
        · refine g_bipush (pc2 := 52) dX8_late_50 k_bipush_m2 rfl ?_
          exact g_iretT dX8_late_52 rfl (Nat.le_refl _) (Nat.le_refl _) (by rfl) (by rfl)
  refine g_al0 (pc2 := 1) dX8_late_0 rfl ?_
  refine g_il1 (pc2 := 2) dX8_late_1 rfl ?_
  refine g_cVi (pc2 := 5) (R_m_isTrain l (d + 2) _ _ hN.1 (by omega)) meX8_isTrain mlX8_135 (by rfl) ⟨_, rfl, rfl⟩ rfl rfl (by simp) ⟨Nat.le_refl _, Nat.le_refl _⟩ dX8_late_2 rfl ?_
  refine g_if_eqB 23 8 dX8_late_5 rfl rfl (fun h5 => ?_) (fun h5 => ?_)
  · subst hr
    subst hs
    refine g_iconst (pc2 := 24) dX8_late_23 k_iconst_m1 rfl ?_
    exact g_iretT dX8_late_24 rfl (Nat.le_refl _) (Nat.le_refl _) (by first | (simp [F_late, ok_late, h5]; done) | (simp [F_late, ok_late, h9]; done) | (simp [F_late, ok_late, h20]; done)) (by first | (simp [S_late, ok_late, h5]; done) | (simp [S_late, ok_late, h9]; done) | (simp [S_late, ok_late, h20]; done))
  · refine g_il2 (pc2 := 9) dX8_late_8 rfl ?_
    refine g_if_eq 23 12 dX8_late_9 rfl rfl (fun h9 => ?_) (fun h9 => ?_)
    · subst hr
      subst hs
      refine g_iconst (pc2 := 24) dX8_late_23 k_iconst_m1 rfl ?_
      exact g_iretT dX8_late_24 rfl (Nat.le_refl _) (Nat.le_refl _) (by first | (simp [F_late, ok_late, h5]; done) | (simp [F_late, ok_late, h9]; done) | (simp [F_late, ok_late, h20]; done)) (by first | (simp [S_late, ok_late, h5]; done) | (simp [S_late, ok_late, h9]; done) | (simp [S_late, ok_late, h20]; done))
    · refine g_il2 (pc2 := 13) dX8_late_12 rfl ?_
      refine g_bipush (pc2 := 15) dX8_late_13 k_bipush_m20 rfl ?_
      refine g_bipush (pc2 := 17) dX8_late_15 k_bipush_60 rfl ?_
      refine g_cSi (pc2 := 20) (R_m_in l (d + 3) _ _ _ _ _) meX8_in mlX8_58 rfl rfl (by simp) ⟨Nat.le_refl _, Nat.le_refl _⟩ dX8_late_17 rfl ?_
      refine g_if_neB 25 23 dX8_late_20 rfl rfl (fun h20 => ?_) (fun h20 => ?_)
      · exact fin h5 (by simp [ok_late, h5, h9, h20])
      · subst hr
        subst hs
        refine g_iconst (pc2 := 24) dX8_late_23 k_iconst_m1 rfl ?_
        exact g_iretT dX8_late_24 rfl (Nat.le_refl _) (Nat.le_refl _) (by first | (simp [F_late, ok_late, h5]; done) | (simp [F_late, ok_late, h9]; done) | (simp [F_late, ok_late, h20]; done)) (by first | (simp [S_late, ok_late, h5]; done) | (simp [S_late, ok_late, h9]; done) | (simp [S_late, ok_late, h20]; done))
