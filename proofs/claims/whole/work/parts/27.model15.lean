/-! rows stay well while a text is read -/
theorem Wp.wf {r : Nat → Int32} {ln T N : Nat} (h : Wp r ln T N) (h0 : ¬ r 0 = nI 0) : Wf r ln T N := by
  obtain ⟨h1, h2, h3, h4, h5, h6⟩ := h
  have hl : ln ≠ 0 := fun e => h0 (by rw [h1.1, e])
  exact ⟨⟨h1.1, by omega, h1.2⟩, ⟨h2.1, by omega, h2.2⟩, h3, h4, fun i hi => (h6 i hi).1⟩
theorem Beg.wp {r : Nat → Int32} (h : Beg r) : Wp r 0 0 0 := ⟨⟨h.1, by decide⟩, ⟨h.2.1, by decide⟩, ⟨h.2.2.1, by decide⟩, ⟨1, h.2.2.2.1, by decide⟩, Or.inl rfl, fun i hi => by omega⟩
theorem Wt.grow {r r' : Nat → Int32} {ln T N N' i : Nat} (h : Wt r ln T N i) (hN : N ≤ N') (hs : ∀ k, k < 7 → k ≠ 5 → r' (16 + 7 * i + k) = r (16 + 7 * i + k)) (h5 : r' (16 + 7 * i + 5) = -4 ∨ ∃ j, j < N' ∧ r' (16 + 7 * i + 5) = nI j) (h6 : r (16 + 7 * i + 6) = -4) : Wt r' ln T N' i ∧ r' (16 + 7 * i + 6) = -4 := by
  obtain ⟨a0, a1, a2, a4, -, -⟩ := h
  refine ⟨⟨by rw [hs 0 (by decide) (by decide)]; exact a0, by rw [hs 1 (by decide) (by decide)]; exact a1, by rw [hs 2 (by decide) (by decide), hs 3 (by decide) (by decide)]; exact a2, by rw [hs 4 (by decide) (by decide)]; exact a4, h5, Or.inl ?_⟩, ?_⟩
  · rw [hs 6 (by decide) (by decide)]; exact h6
  · rw [hs 6 (by decide) (by decide)]; exact h6
theorem Wp.item {r r' : Nat → Int32} {ln T N k : Nat} {ns : List Nat} (h : Wp r ln T N) (hk : itemR r k ns = some r') : ∃ ln' T' N', Wp r' ln' T' N' := by
  obtain ⟨h1, h2, h3, ⟨g, h4, h4b⟩, h5, h6⟩ := h
  have e0 : tN (r 0) = ln := by rw [h1.1]; exact tN_nI (by omega)
  have e1 : tN (r 1) = T := by rw [h2.1]; exact tN_nI (by omega)
  have e2 : tN (r 2) = N := by rw [h3.1]; exact tN_nI (by omega)
  unfold itemR at hk
  split at hk
  · split at hk
    · next hok =>
      cases hk
      simp only [okYard, Bool.and_eq_true, decide_eq_true_eq] at hok
      obtain ⟨q1, q2, q3, q4, q5, q6⟩ := hok
      have hN0 : ln = 0 := (nI_eq (by omega) (by decide)).mp (h1.1.symm.trans q1)
      have hNN : N = 0 := by
        rcases Nat.eq_zero_or_pos N with e | e
        · exact e
        · obtain ⟨⟨a, ha, -⟩, -⟩ := (h6 0 e).1
          omega
      subst hNN
      refine ⟨ns.getD 0 0, ns.getD 1 0, 0, ⟨?_, q4⟩, ⟨?_, q6⟩, ⟨?_, by decide⟩, ⟨g, ?_, h4b⟩, Or.inr ⟨q3, q5⟩, fun i hi => by omega⟩
      · show upd (upd r 0 _) 1 _ 0 = _; rw [pk_un (by decide), pk_us]
      · show upd (upd r 0 _) 1 _ 1 = _; rw [pk_us]
      · show upd (upd r 0 _) 1 _ 2 = _; rw [pk_un (by decide), pk_un (by decide)]; exact h3.1
      · show upd (upd r 0 _) 1 _ 3 = _; rw [pk_un (by decide), pk_un (by decide)]; exact h4
    · cases hk
  · split at hk
    · cases hk
    · split at hk
      · split at hk
        · next hok =>
          cases hk
          simp only [okPath, Bool.and_eq_true, decide_eq_true_eq] at hok
          rw [e0, e1] at hok
          obtain ⟨q1, q2, q3, q4, q5⟩ := hok
          have hne : ∀ j, (j < 4 ∨ 16 ≤ j) → rowPath r ns j = r j := fun j hj => pk_un (by omega)
          refine ⟨ln, T, N, ⟨by rw [hne 0 (by omega)]; exact h1.1, h1.2⟩, ⟨by rw [hne 1 (by omega)]; exact h2.1, h2.2⟩, ⟨by rw [hne 2 (by omega)]; exact h3.1, h3.2⟩, ⟨g, by rw [hne 3 (by omega)]; exact h4, h4b⟩, h5, fun i hi => ?_⟩
          exact (h6 i hi).1.grow (Nat.le_refl _) (fun k _ _ => hne _ (by omega)) (by rw [hne _ (by omega)]; exact (h6 i hi).1.2.2.2.2.1) (h6 i hi).2
        · cases hk
      · split at hk
        · split at hk
          · next hok =>
            cases hk
            simp only [okCome, Bool.and_eq_true, Bool.or_eq_true, decide_eq_true_eq] at hok
            rw [e0, e1, e2] at hok
            obtain ⟨q1, q2, q3, q4, q5, q6, q7, q8⟩ := hok
            have hne : ∀ j, j ≠ 2 → (j < 16 + 7 * N ∨ 16 + 7 * N + 7 ≤ j) → rowCome r ns j = r j := by
              intro j j2 hj
              unfold rowCome comeRow
              rw [e2, pk_un j2, pk_un (by omega), pk_un (by omega), pk_un (by omega), pk_un (by omega), pk_un (by omega), pk_un (by omega), pk_un (by omega)]
            have n2 : rowCome r ns 2 = nI (N + 1) := by unfold rowCome comeRow; rw [e2, pk_us]
            refine ⟨ln, T, N + 1, ⟨by rw [hne 0 (by decide) (by omega)]; exact h1.1, h1.2⟩, ⟨by rw [hne 1 (by decide) (by omega)]; exact h2.1, h2.2⟩, ⟨n2, by omega⟩, ⟨g, by rw [hne 3 (by decide) (by omega)]; exact h4, h4b⟩, h5, fun i hi => ?_⟩
            by_cases hiN : i = N
            · subst hiN
              have f0 : rowCome r ns (16 + 7 * i + 0) = nI (ns.getD 0 0) := by unfold rowCome comeRow; rw [e2, pk_un (by omega), pk_un (by omega), pk_un (by omega), pk_un (by omega), pk_un (by omega), pk_un (by omega), pk_un (by omega), pk_us]
              have f1 : rowCome r ns (16 + 7 * i + 1) = nI (ns.getD 1 0) := by unfold rowCome comeRow; rw [e2, pk_un (by omega), pk_un (by omega), pk_un (by omega), pk_un (by omega), pk_un (by omega), pk_un (by omega), pk_us]
              have f2 : rowCome r ns (16 + 7 * i + 2) = nI (ns.getD 2 0) := by unfold rowCome comeRow; rw [e2, pk_un (by omega), pk_un (by omega), pk_un (by omega), pk_un (by omega), pk_un (by omega), pk_us]
              have f3 : rowCome r ns (16 + 7 * i + 3) = nI (ns.getD 3 0) := by unfold rowCome comeRow; rw [e2, pk_un (by omega), pk_un (by omega), pk_un (by omega), pk_un (by omega), pk_us]
              have f4 : rowCome r ns (16 + 7 * i + 4) = if ns.getD 4 0 = 9 then -4 else nI (ns.getD 4 0) := by unfold rowCome comeRow; rw [e2, pk_un (by omega), pk_un (by omega), pk_un (by omega), pk_us]
              have f5 : rowCome r ns (16 + 7 * i + 5) = -4 := by unfold rowCome comeRow; rw [e2, pk_un (by omega), pk_un (by omega), pk_us]
              have f6 : rowCome r ns (16 + 7 * i + 6) = -4 := by unfold rowCome comeRow; rw [e2, pk_un (by omega), pk_us]
              refine ⟨⟨⟨_, q3, f0⟩, ⟨_, q4, f1⟩, ⟨_, _, q5, q6, q7, f2, f3⟩, ?_, Or.inl f5, Or.inl f6⟩, f6⟩
              rw [f4]
              by_cases h9 : ns.getD 4 0 = 9
              · rw [if_pos h9]; exact Or.inl rfl
              · rw [if_neg h9]; exact Or.inr ⟨_, by omega, rfl⟩
            · have hi2 : i < N := by omega
              refine (h6 i hi2).1.grow (by omega) (fun k _ _ => hne _ (by omega) (by omega)) ?_ (h6 i hi2).2
              rw [hne _ (by omega) (by omega)]
              rcases (h6 i hi2).1.2.2.2.2.1 with e | ⟨j, hj, e⟩
              · exact Or.inl e
              · exact Or.inr ⟨j, by omega, e⟩
          · cases hk
        · split at hk
          · split at hk
            · next hok =>
              cases hk
              simp only [okPair, Bool.and_eq_true, Bool.not_eq_true', decide_eq_true_eq, decide_eq_false_iff_not] at hok
              rw [e2] at hok
              obtain ⟨q1, q2, q3, q4, q5, q6⟩ := hok
              have hne : ∀ j, (j < 16 ∨ (j - 16) % 7 ≠ 5) → rowPair r ns j = r j := fun j hj => by
                unfold rowPair
                rw [pk_un (by omega), pk_un (by omega)]
              refine ⟨ln, T, N, ⟨by rw [hne 0 (by omega)]; exact h1.1, h1.2⟩, ⟨by rw [hne 1 (by omega)]; exact h2.1, h2.2⟩, ⟨by rw [hne 2 (by omega)]; exact h3.1, h3.2⟩, ⟨g, by rw [hne 3 (by omega)]; exact h4, h4b⟩, h5, fun i hi => ?_⟩
              refine (h6 i hi).1.grow (Nat.le_refl _) (fun k _ _ => hne _ (by omega)) ?_ (h6 i hi).2
              unfold rowPair
              by_cases c1 : i = ns.getD 1 0
              · right; exact ⟨ns.getD 0 0, q3, by rw [c1, pk_us]⟩
              · rw [pk_un (by omega)]
                by_cases c0 : i = ns.getD 0 0
                · right; exact ⟨ns.getD 1 0, q4, by rw [c0, pk_us]⟩
                · rw [pk_un (by omega)]; exact (h6 i hi).1.2.2.2.2.1
            · cases hk
          · split at hk
            · next hok =>
              cases hk
              simp only [okGap, Bool.and_eq_true, decide_eq_true_eq] at hok
              have hne : ∀ j, j ≠ 3 → rowGap r ns j = r j := fun j hj => pk_un hj
              refine ⟨ln, T, N, ⟨by rw [hne 0 (by decide)]; exact h1.1, h1.2⟩, ⟨by rw [hne 1 (by decide)]; exact h2.1, h2.2⟩, ⟨by rw [hne 2 (by decide)]; exact h3.1, h3.2⟩, ⟨ns.getD 0 0, pk_us, by omega⟩, h5, fun i hi => ?_⟩
              exact (h6 i hi).1.grow (Nat.le_refl _) (fun k _ _ => hne _ (by omega)) (by rw [hne _ (by omega)]; exact (h6 i hi).1.2.2.2.2.1) (h6 i hi).2
            · cases hk
theorem itemAt_some {tx : Nat → Nat} {n : Nat} {r : Nat → Int32} {p : Nat} {u : (Nat → Int32) × Nat} (h : itemAt tx n r p = some u) : ∃ k q, kindAt tx n p = some k ∧ numsAt tx n 6 (p + 5) = some q ∧ itemR r k q.1 = some u.1 ∧ u.2 = q.2 := by
  unfold itemAt at h
  cases hk : kindAt tx n p with
  | none => rw [hk] at h; cases h
  | some k =>
    rw [hk] at h
    simp only at h
    cases hq : numsAt tx n 6 (p + 5) with
    | none => rw [hq] at h; cases h
    | some q =>
      rw [hq] at h
      simp only at h
      cases hr : itemR r k q.1 with
      | none => rw [hr] at h; cases h
      | some r' =>
        rw [hr] at h
        cases h
        exact ⟨k, q, rfl, rfl, hr, rfl⟩
theorem parseL_wp {tx : Nat → Nat} {n : Nat} : ∀ (f : Nat) (r : Nat → Int32) (p : Nat), (∃ ln T N, Wp r ln T N) → ∃ ln T N, Wp (parseL tx n f r p).2 ln T N
  | 0, r, p, h => h
  | f + 1, r, p, h => by
    simp only [parseL]
    split
    · cases hi : itemAt tx n r p with
      | none => exact h
      | some u =>
        obtain ⟨k, q, -, -, h3, -⟩ := itemAt_some hi
        obtain ⟨ln, T, N, hW⟩ := h
        exact parseL_wp f u.1 u.2 (hW.item h3)
    · exact h
/-! the reference: reads, fault, lay -/
def begRow (f : Nat → Int32) : Nat → Int32 := upd (fillF (fun j => if 4 ≤ j ∧ j < 16 then -4 else nI 0) f 65) 3 (nI 1)
theorem begRow_beg (f : Nat → Int32) : Beg (begRow f) := by
  unfold begRow fillF
  refine ⟨?_, ?_, ?_, ?_, fun j h1 h2 => ?_⟩
  · rw [pk_un (by decide), if_pos (by decide)]; exact if_neg (by decide)
  · rw [pk_un (by decide), if_pos (by decide)]; exact if_neg (by decide)
  · rw [pk_un (by decide), if_pos (by decide)]; exact if_neg (by decide)
  · rw [pk_us]
  · rw [pk_un (by omega), if_pos (by omega)]; exact if_pos ⟨h1, h2⟩
theorem R_m_begins (l : lt_L) (d : Nat) (σ : lt_S) : lt_T l (d + 1) mX8_begins lt_SA σ [.ref 76] none (lt_ur σ 78 (begRow (σ 78))) := by
  refine lt_T.of [some (.ref 76), none] rfl rfl (Nat.le_of_ble_eq_true rfl) ?_
  have key : ∀ k, k ≤ 65 → lt_g l (d + 1) mX8_begins lt_SA (lt_ur σ 78 (fillF (fun j => if 4 ≤ j ∧ j < 16 then -4 else nI 0) (σ 78) k)) 2 [some (.ref 76), some (.int (nI k))] [] none (lt_ur σ 78 (begRow (σ 78))) := by
    refine lt_dn 65 ?_ ?_
    · refine g_il1 (pc2 := 3) dX8_begins_2 rfl ?_
      refine g_bipush (pc2 := 5) dX8_begins_3 k_bipush_65 rfl ?_
      refine g_icmpN_ge 37 8 dX8_begins_5 rfl rfl (by omega) (by omega) (fun h5 => ?_) (fun h5 => ?_)
      · refine g_al0 (pc2 := 38) dX8_begins_37 rfl ?_
        refine g_getr (pc2 := 41) (by rfl) (by rfl) flX8_13 dX8_begins_38 rfl ?_
        refine g_iconst (pc2 := 42) dX8_begins_41 k_iconst_3 rfl ?_
        refine g_iconst (pc2 := 43) dX8_begins_42 k_iconst_1 rfl ?_
        refine g_iast (pc2 := 44) (by rfl) (by omega) (by decide) dX8_begins_43 rfl ?_
        exact g_retT dX8_begins_44 rfl (Nat.le_refl _) (Nat.le_refl _) (by rw [lt_up_ur, lt_ur_eq, lt_ur_ur]; rfl)
      · omega
    · intro k hk ih
      refine g_il1 (pc2 := 3) dX8_begins_2 rfl ?_
      refine g_bipush (pc2 := 5) dX8_begins_3 k_bipush_65 rfl ?_
      refine g_icmpN_ge 37 8 dX8_begins_5 rfl rfl (by omega) (by omega) (fun h5 => ?_) (fun h5 => ?_)
      · omega
      · refine g_al0 (pc2 := 9) dX8_begins_8 rfl ?_
        refine g_getr (pc2 := 12) (by rfl) (by rfl) flX8_13 dX8_begins_9 rfl ?_
        refine g_il1 (pc2 := 13) dX8_begins_12 rfl ?_
        refine g_il1 (pc2 := 14) dX8_begins_13 rfl ?_
        refine g_iconst (pc2 := 15) dX8_begins_14 k_iconst_4 rfl ?_
        refine g_icmpN_lt 29 18 dX8_begins_15 rfl rfl (by omega) (by omega) (fun h15 => ?_) (fun h15 => ?_)
        · refine g_iconst (pc2 := 30) dX8_begins_29 k_iconst_0 rfl ?_
          refine g_iast (pc2 := 31) (by rfl) (by omega) (by decide) dX8_begins_30 rfl ?_
          refine g_in1 (pc2 := 34) dX8_begins_31 (nI_inc _) (by decide) rfl ?_
          refine g_goto 2 dX8_begins_34 rfl ?_
          rw [lt_up_ur, lt_ur_eq, lt_ur_ur]
          have e9 := fillF_s (fun j => if 4 ≤ j ∧ j < 16 then (-4 : Int32) else nI 0) (σ 78) k
          first | (rw [show (if 4 ≤ k ∧ k < 16 then (-4 : Int32) else nI 0) = -4 from if_pos (by omega)] at e9; rw [e9]; exact ih) | (rw [show (if 4 ≤ k ∧ k < 16 then (-4 : Int32) else nI 0) = nI 0 from if_neg (by omega)] at e9; rw [e9]; exact ih)
        · refine g_il1 (pc2 := 19) dX8_begins_18 rfl ?_
          refine g_bipush (pc2 := 21) dX8_begins_19 k_bipush_16 rfl ?_
          refine g_icmpN_ge 29 24 dX8_begins_21 rfl rfl (by omega) (by omega) (fun h21 => ?_) (fun h21 => ?_)
          · refine g_iconst (pc2 := 30) dX8_begins_29 k_iconst_0 rfl ?_
            refine g_iast (pc2 := 31) (by rfl) (by omega) (by decide) dX8_begins_30 rfl ?_
            refine g_in1 (pc2 := 34) dX8_begins_31 (nI_inc _) (by decide) rfl ?_
            refine g_goto 2 dX8_begins_34 rfl ?_
            rw [lt_up_ur, lt_ur_eq, lt_ur_ur]
            have e9 := fillF_s (fun j => if 4 ≤ j ∧ j < 16 then (-4 : Int32) else nI 0) (σ 78) k
            first | (rw [show (if 4 ≤ k ∧ k < 16 then (-4 : Int32) else nI 0) = -4 from if_pos (by omega)] at e9; rw [e9]; exact ih) | (rw [show (if 4 ≤ k ∧ k < 16 then (-4 : Int32) else nI 0) = nI 0 from if_neg (by omega)] at e9; rw [e9]; exact ih)
          · refine g_bipush (pc2 := 26) dX8_begins_24 k_bipush_m4 rfl ?_
            refine g_goto 30 dX8_begins_26 rfl ?_
            refine g_iast (pc2 := 31) (by rfl) (by omega) (by decide) dX8_begins_30 rfl ?_
            refine g_in1 (pc2 := 34) dX8_begins_31 (nI_inc _) (by decide) rfl ?_
            refine g_goto 2 dX8_begins_34 rfl ?_
            rw [lt_up_ur, lt_ur_eq, lt_ur_ur]
            have e9 := fillF_s (fun j => if 4 ≤ j ∧ j < 16 then (-4 : Int32) else nI 0) (σ 78) k
            first | (rw [show (if 4 ≤ k ∧ k < 16 then (-4 : Int32) else nI 0) = -4 from if_pos (by omega)] at e9; rw [e9]; exact ih) | (rw [show (if 4 ≤ k ∧ k < 16 then (-4 : Int32) else nI 0) = nI 0 from if_neg (by omega)] at e9; rw [e9]; exact ih)
  have k0 := key 0 (Nat.zero_le _)
  rw [fillF_0, lt_ur_self] at k0
  refine g_iconst (pc2 := 1) dX8_begins_0 k_iconst_0 rfl ?_
  refine g_is1 (pc2 := 2) dX8_begins_1 (by decide) rfl ?_
  exact k0
theorem R_m_readsL (l : lt_L) (d : Nat) (σ0 : lt_S) {n : Nat} {tx : Nat → Nat} (hT0 : TX σ0 n tx) : ∀ (f p : Nat) (σ : lt_S) (z : Option Value), n < f + p → p ≤ n → PR σ0 σ → σ 76 6 = nI p → (∃ ln T N, Wp (σ 78) ln T N) → lt_G l (d + 7) 0 0 mX8_reads 0 0 lt_SA σ 9 [some (.ref 76), z] [] (fun r sh' σ' => r = some (oI (parseL tx n f (σ 78) p).1) ∧ sh' = lt_SA ∧ PR σ0 σ' ∧ ((parseL tx n f (σ 78) p).1 = none → σ' 78 = (parseL tx n f (σ 78) p).2)) := by
  intro f
  induction f with
  | zero =>
    intro p σ z hf hpn
    omega
  | succ f ih =>
    intro p σ z hf hpn hP hp hW
    have hT := hP.tx hT0
    have t1 := hT.1
    have hn := hT.2.1
    obtain ⟨ln, T, N, hWp⟩ := hW
    by_cases hlt : p < n
    · cases hi : itemAt tx n (σ 78) p with
      | none =>
        have e : parseL tx n (f + 1) (σ 78) p = (some p, σ 78) := by simp only [parseL]; rw [if_pos hlt, hi]
        rw [e]
        refine g_al0 (pc2 := 10) dX8_reads_9 rfl ?_
        refine g_geti (pc2 := 13) (by rfl) (by rfl) flX8_52 dX8_reads_10 rfl ?_
        rw [hp]
        refine g_al0 (pc2 := 14) dX8_reads_13 rfl ?_
        refine g_geti (pc2 := 17) (by rfl) (by rfl) flX8_55 dX8_reads_14 rfl ?_
        rw [t1]
        refine g_icmpN_ge 37 20 dX8_reads_17 rfl rfl (by omega) (by omega) (fun h17 => ?_) (fun h17 => ?_)
        · omega
        · refine g_al0 (pc2 := 21) dX8_reads_20 rfl ?_
          refine g_geti (pc2 := 24) (by rfl) (by rfl) flX8_52 dX8_reads_21 rfl ?_
          rw [hp]
          refine g_is1 (pc2 := 25) dX8_reads_24 (by decide) rfl ?_
          refine g_al0 (pc2 := 26) dX8_reads_25 rfl ?_
          refine g_callV (pc2 := 29) (R_m_takesItem l d σ hT hp (by omega) hWp) meX8_takesItem mlX8_95 (by rfl) ⟨_, rfl, rfl⟩ rfl rfl (by simp) ⟨Nat.le_refl _, Nat.le_refl _⟩ dX8_reads_26 rfl ?_
          rintro r sh2 σ1 ⟨rfl, rfl, hP1, hu⟩
          rw [hi]
          refine g_if_neB 34 32 dX8_reads_29 rfl rfl (fun h => by cases h) (fun _ => ?_)
          refine g_il1 (pc2 := 33) dX8_reads_32 rfl ?_
          exact g_iret dX8_reads_33 rfl (Nat.le_refl _) (Nat.le_refl _) ⟨rfl, rfl, hP.tr hP1, fun h => by cases h⟩
      | some u =>
        obtain ⟨k, q, hk1, hk2, hk3, hk4⟩ := itemAt_some hi
        have hq := numsAt_le hk2
        have e : parseL tx n (f + 1) (σ 78) p = parseL tx n f u.1 u.2 := by simp only [parseL]; rw [if_pos hlt, hi]
        rw [e]
        refine g_al0 (pc2 := 10) dX8_reads_9 rfl ?_
        refine g_geti (pc2 := 13) (by rfl) (by rfl) flX8_52 dX8_reads_10 rfl ?_
        rw [hp]
        refine g_al0 (pc2 := 14) dX8_reads_13 rfl ?_
        refine g_geti (pc2 := 17) (by rfl) (by rfl) flX8_55 dX8_reads_14 rfl ?_
        rw [t1]
        refine g_icmpN_ge 37 20 dX8_reads_17 rfl rfl (by omega) (by omega) (fun h17 => ?_) (fun h17 => ?_)
        · omega
        · refine g_al0 (pc2 := 21) dX8_reads_20 rfl ?_
          refine g_geti (pc2 := 24) (by rfl) (by rfl) flX8_52 dX8_reads_21 rfl ?_
          rw [hp]
          refine g_is1 (pc2 := 25) dX8_reads_24 (by decide) rfl ?_
          refine g_al0 (pc2 := 26) dX8_reads_25 rfl ?_
          refine g_callV (pc2 := 29) (R_m_takesItem l d σ hT hp (by omega) hWp) meX8_takesItem mlX8_95 (by rfl) ⟨_, rfl, rfl⟩ rfl rfl (by simp) ⟨Nat.le_refl _, Nat.le_refl _⟩ dX8_reads_26 rfl ?_
          rintro r sh2 σ1 ⟨rfl, rfl, hP1, hu⟩
          obtain ⟨u1, u2⟩ := hu u hi
          rw [hi]
          refine g_if_neB 34 32 dX8_reads_29 rfl rfl (fun _ => ?_) (fun h => by cases h)
          refine g_goto 9 dX8_reads_34 rfl ?_
          rw [← u1]
          exact ih u.2 σ1 _ (by omega) (by omega) (hP.tr hP1) u2 (by rw [u1]; exact hWp.item hk3)
    · have e : parseL tx n (f + 1) (σ 78) p = (none, σ 78) := by simp only [parseL]; rw [if_neg hlt]
      rw [e]
      refine g_al0 (pc2 := 10) dX8_reads_9 rfl ?_
      refine g_geti (pc2 := 13) (by rfl) (by rfl) flX8_52 dX8_reads_10 rfl ?_
      rw [hp]
      refine g_al0 (pc2 := 14) dX8_reads_13 rfl ?_
      refine g_geti (pc2 := 17) (by rfl) (by rfl) flX8_55 dX8_reads_14 rfl ?_
      rw [t1]
      refine g_icmpN_ge 37 20 dX8_reads_17 rfl rfl (by omega) (by omega) (fun h17 => ?_) (fun h17 => ?_)
      · refine g_bipush (pc2 := 39) dX8_reads_37 k_bipush_m4 rfl ?_
        exact g_iret dX8_reads_39 rfl (Nat.le_refl _) (Nat.le_refl _) ⟨rfl, rfl, hP, fun _ => rfl⟩
      · omega
/-- a text's fault and row, as the reference begins -/
def parseM (tx : Nat → Nat) (n : Nat) (r : Nat → Int32) : Option Nat × (Nat → Int32) := parseL tx n (n + 1) r 0
theorem R_m_reads (l : lt_L) (d : Nat) (σ : lt_S) {n : Nat} {tx : Nat → Nat} (hT : TX σ n tx) : lt_R l (d + 7) 0 0 mX8_reads lt_SA σ [.ref 76] (fun r sh' σ' => r = some (oI (parseM tx n (begRow (σ 78))).1) ∧ sh' = lt_SA ∧ PR σ σ' ∧ ((parseM tx n (begRow (σ 78))).1 = none → σ' 78 = (parseM tx n (begRow (σ 78))).2)) := by
  refine lt_R.of [some (.ref 76), none] rfl rfl (Nat.le_of_ble_eq_true rfl) ?_
  have hP : PR σ (lt_up (lt_ur σ 78 (begRow (σ 78))) 76 6 (nI 0)) := ⟨fun a h1 h3 h4 => by rw [lt_up_nr _ _ _ h1, lt_ur_ne _ _ h3], fun k h1 h3 => by rw [lt_up_ne _ _ _ h1]; rfl⟩
  have e78 : lt_up (lt_ur σ 78 (begRow (σ 78))) 76 6 (nI 0) 78 = begRow (σ 78) := by rw [lt_up_nr _ _ _ (by decide), lt_ur_eq]
  have lp := R_m_readsL l d σ hT (n + 1) 0 (lt_up (lt_ur σ 78 (begRow (σ 78))) 76 6 (nI 0)) none (by omega) (Nat.zero_le _) hP (by rw [lt_up_at]) ⟨0, 0, 0, by rw [e78]; exact (begRow_beg _).wp⟩
  rw [e78] at lp
  refine g_al0 (pc2 := 1) dX8_reads_0 rfl ?_
  refine g_cVv (pc2 := 4) (R_m_begins l (d + 5) _) meX8_begins mlX8_38 (by rfl) ⟨_, rfl, rfl⟩ rfl rfl (by simp) ⟨Nat.le_refl _, Nat.le_refl _⟩ dX8_reads_1 rfl ?_
  refine g_al0 (pc2 := 5) dX8_reads_4 rfl ?_
  refine g_iconst (pc2 := 6) dX8_reads_5 k_iconst_0 rfl ?_
  refine g_puti (pc2 := 9) (by rfl) (by rfl) flX8_52 (fpX8_6 _) (fun h => by first | cases h | rfl) dX8_reads_6 rfl ?_
  exact lp
theorem R_m_fault (l : lt_L) (d : Nat) (σ : lt_S) {n : Nat} {tx : Nat → Nat} (hT : TX σ n tx) : lt_R l (d + 8) 0 0 mX8_fault lt_SA σ [.ref 76] (fun r sh' σ' => r = some (oI (parseM tx n (begRow (σ 78))).1) ∧ sh' = lt_SA ∧ PR σ σ') := by
  refine lt_R.of [some (.ref 76)] rfl rfl (Nat.le_of_ble_eq_true rfl) ?_
  refine g_al0 (pc2 := 1) dX8_fault_0 rfl ?_
  refine g_callV (pc2 := 4) (R_m_reads l d σ hT) meX8_reads mlX8_98 (by rfl) ⟨_, rfl, rfl⟩ rfl rfl (by simp) ⟨Nat.le_refl _, Nat.le_refl _⟩ dX8_fault_1 rfl ?_
  rintro r sh2 σ1 ⟨rfl, rfl, hP1, hu⟩
  exact g_iret dX8_fault_4 rfl (Nat.le_refl _) (Nat.le_refl _) ⟨rfl, rfl, hP1⟩
theorem R_m_takesAll (l : lt_L) (d : Nat) (σ : lt_S) : lt_T l (d + 1) mX8_takesAll lt_SA σ [.ref 76] none (lt_up (lt_ur σ 77 (va_cpy (σ 78) (σ 77) 0 0 65)) 76 3 (nI 0)) := by
  refine lt_T.of [some (.ref 76), none] rfl rfl (Nat.le_of_ble_eq_true rfl) ?_
  have key : ∀ k, k ≤ 65 → lt_g l (d + 1) mX8_takesAll lt_SA (lt_ur σ 77 (va_cpy (σ 78) (σ 77) 0 0 k)) 2 [some (.ref 76), some (.int (nI k))] [] none (lt_up (lt_ur σ 77 (va_cpy (σ 78) (σ 77) 0 0 65)) 76 3 (nI 0)) := by
    refine lt_dn 65 ?_ ?_
    · refine g_il1 (pc2 := 3) dX8_takesAll_2 rfl ?_
      refine g_bipush (pc2 := 5) dX8_takesAll_3 k_bipush_65 rfl ?_
      refine g_icmpN_ge 26 8 dX8_takesAll_5 rfl rfl (by omega) (by omega) (fun h5 => ?_) (fun h5 => ?_)
      · refine g_al0 (pc2 := 27) dX8_takesAll_26 rfl ?_
        refine g_iconst (pc2 := 28) dX8_takesAll_27 k_iconst_0 rfl ?_
        refine g_puti (pc2 := 31) (by rfl) (by rfl) flX8_48 (fpX8_3 _) (fun h => by first | cases h | rfl) dX8_takesAll_28 rfl ?_
        exact g_retT dX8_takesAll_31 rfl (Nat.le_refl _) (Nat.le_refl _) (rfl)
      · omega
    · intro k hk ih
      refine g_il1 (pc2 := 3) dX8_takesAll_2 rfl ?_
      refine g_bipush (pc2 := 5) dX8_takesAll_3 k_bipush_65 rfl ?_
      refine g_icmpN_ge 26 8 dX8_takesAll_5 rfl rfl (by omega) (by omega) (fun h5 => ?_) (fun h5 => ?_)
      · omega
      · refine g_al0 (pc2 := 9) dX8_takesAll_8 rfl ?_
        refine g_getr (pc2 := 12) (by rfl) (by rfl) flX8_7 dX8_takesAll_9 rfl ?_
        refine g_il1 (pc2 := 13) dX8_takesAll_12 rfl ?_
        refine g_al0 (pc2 := 14) dX8_takesAll_13 rfl ?_
        refine g_getr (pc2 := 17) (by rfl) (by rfl) flX8_13 dX8_takesAll_14 rfl ?_
        refine g_il1 (pc2 := 18) dX8_takesAll_17 rfl ?_
        refine g_iald (pc2 := 19) (by rfl) (by omega) (by decide) dX8_takesAll_18 rfl ?_
        refine g_iast (pc2 := 20) (by rfl) (by omega) (by decide) dX8_takesAll_19 rfl ?_
        refine g_in1 (pc2 := 23) dX8_takesAll_20 (nI_inc _) (by decide) rfl ?_
        refine g_goto 2 dX8_takesAll_23 rfl ?_
        have e9 := cpy_s (f := σ 78) (g := σ 77) (sp := 0) (dp := 0) (n := k)
        rw [show 0 + k = k from Nat.zero_add k] at e9
        rw [lt_up_ur, lt_ur_eq, lt_ur_ur, show lt_ur σ 77 (va_cpy (σ 78) (σ 77) 0 0 k) 78 k = σ 78 k from rfl, e9]
        exact ih
  have k0 := key 0 (Nat.zero_le _)
  rw [cpy_0, lt_ur_self] at k0
  refine g_iconst (pc2 := 1) dX8_takesAll_0 k_iconst_0 rfl ?_
  refine g_is1 (pc2 := 2) dX8_takesAll_1 (by decide) rfl ?_
  exact k0
def layOk (q : Option Nat × (Nat → Int32)) : Bool := decide (q.1 = none) && !decide (q.2 0 = nI 0)
theorem oI_lt {o : Option Nat} {n : Nat} (h : ∀ j, o = some j → j < n) (hn : n < 2 ^ 31) : oI o = -4 ↔ o = none := oI_none (fun j hj => by have := h j hj; omega)
theorem parseL_lt {tx : Nat → Nat} {n : Nat} : ∀ (f : Nat) (r : Nat → Int32) (p : Nat), n < f + p → p ≤ n → ∀ j, (parseL tx n f r p).1 = some j → j < n
  | 0, r, p, hf, hp, j, h => by omega
  | f + 1, r, p, hf, hp, j, h => by
    simp only [parseL] at h
    split at h
    · next hlt =>
      cases hi : itemAt tx n r p with
      | none => rw [hi] at h; cases h; exact hlt
      | some u =>
        rw [hi] at h
        obtain ⟨k, q, -, hk2, -, hk4⟩ := itemAt_some hi
        have hq := numsAt_le hk2
        exact parseL_lt f u.1 u.2 (by omega) (by omega) j h
    · cases h
theorem R_m_lay (l : lt_L) (d : Nat) (σ : lt_S) {n : Nat} {tx : Nat → Nat} (hT : TX σ n tx) : lt_R l (d + 8) 0 0 mX8_lay lt_SA σ [.ref 76] (fun r sh' σ' => r = some (if layOk (parseM tx n (begRow (σ 78))) then (parseM tx n (begRow (σ 78))).2 2 else -2) ∧ sh' = lt_SA ∧ (if layOk (parseM tx n (begRow (σ 78))) then ∃ σ1, PR σ σ1 ∧ σ' = lt_up (lt_ur σ1 77 (va_cpy (parseM tx n (begRow (σ 78))).2 (σ 77) 0 0 65)) 76 3 (nI 0) else PR σ σ')) := by
  refine lt_R.of [some (.ref 76)] rfl rfl (Nat.le_of_ble_eq_true rfl) ?_
  have hlt : ∀ j, (parseM tx n (begRow (σ 78))).1 = some j → j < n := parseL_lt (n + 1) _ 0 (by omega) (Nat.zero_le _)
  have hn := hT.2.1
  have e0 : nI 0 = 0 := nI_0
  refine g_al0 (pc2 := 1) dX8_lay_0 rfl ?_
  refine g_callV (pc2 := 4) (R_m_reads l d σ hT) meX8_reads mlX8_98 (by rfl) ⟨_, rfl, rfl⟩ rfl rfl (by simp) ⟨Nat.le_refl _, Nat.le_refl _⟩ dX8_lay_1 rfl ?_
  rintro r sh2 σ1 ⟨rfl, rfl, hP1, hu⟩
  generalize hq : parseM tx n (begRow (σ 78)) = q at hlt hu ⊢
  have e77 : σ1 77 = σ 77 := hP1.1 77 (by decide) (by decide) (by decide)
  by_cases h1 : q.1 = none
  · have hu1 := hu h1
    by_cases h2 : q.2 0 = nI 0
    · have hl : layOk q = false := by simp [layOk, h1, h2]
      rw [hl]
      refine g_bipush (pc2 := 6) dX8_lay_4 k_bipush_m4 rfl ?_
      refine g_icmp_ne 18 9 dX8_lay_6 rfl rfl (fun h6 => ?_) (fun h6 => ?_)
      · exact absurd ((oI_lt hlt (by omega)).mpr h1) h6
      · refine g_al0 (pc2 := 10) dX8_lay_9 rfl ?_
        refine g_getr (pc2 := 13) (by rfl) (by rfl) flX8_13 dX8_lay_10 rfl ?_
        refine g_iconst (pc2 := 14) dX8_lay_13 k_iconst_0 rfl ?_
        refine g_iald (pc2 := 15) (by rfl) (by omega) (by decide) dX8_lay_14 rfl ?_
        rw [hu1, h2]
        refine g_if_ne 21 18 dX8_lay_15 rfl rfl (fun h15 => ?_) (fun h15 => ?_)
        · exact absurd nI_0 h15
        · refine g_bipush (pc2 := 20) dX8_lay_18 k_bipush_m2 rfl ?_
          exact g_iret dX8_lay_20 rfl (Nat.le_refl _) (Nat.le_refl _) ⟨rfl, rfl, hP1⟩
    · have hl : layOk q = true := by simp [layOk, h1, h2]
      rw [hl]
      refine g_bipush (pc2 := 6) dX8_lay_4 k_bipush_m4 rfl ?_
      refine g_icmp_ne 18 9 dX8_lay_6 rfl rfl (fun h6 => ?_) (fun h6 => ?_)
      · exact absurd ((oI_lt hlt (by omega)).mpr h1) h6
      · refine g_al0 (pc2 := 10) dX8_lay_9 rfl ?_
        refine g_getr (pc2 := 13) (by rfl) (by rfl) flX8_13 dX8_lay_10 rfl ?_
        refine g_iconst (pc2 := 14) dX8_lay_13 k_iconst_0 rfl ?_
        refine g_iald (pc2 := 15) (by rfl) (by omega) (by decide) dX8_lay_14 rfl ?_
        rw [hu1]
        refine g_if_ne 21 18 dX8_lay_15 rfl rfl (fun h15 => ?_) (fun h15 => ?_)
        · refine g_al0 (pc2 := 22) dX8_lay_21 rfl ?_
          refine g_cVv (pc2 := 25) (R_m_takesAll l (d + 6) _) meX8_takesAll mlX8_45 (by rfl) ⟨_, rfl, rfl⟩ rfl rfl (by simp) ⟨Nat.le_refl _, Nat.le_refl _⟩ dX8_lay_22 rfl ?_
          refine g_al0 (pc2 := 26) dX8_lay_25 rfl ?_
          refine g_getr (pc2 := 29) (by rfl) (by rfl) flX8_7 dX8_lay_26 rfl ?_
          refine g_iconst (pc2 := 30) dX8_lay_29 k_iconst_2 rfl ?_
          refine g_iald (pc2 := 31) (by rfl) (by omega) (by decide) dX8_lay_30 rfl ?_
          exact g_iret dX8_lay_31 rfl (Nat.le_refl _) (Nat.le_refl _) ⟨by rw [lt_up_nr _ _ _ (by decide), lt_ur_eq, hu1, pk_cpy_in (by decide) (by decide)]; rfl, rfl, ⟨σ1, hP1, by rw [hu1, e77]⟩⟩
        · exact absurd (h15.trans nI_0.symm) h2
  · have hl : layOk q = false := by simp [layOk, h1]
    rw [hl]
    refine g_bipush (pc2 := 6) dX8_lay_4 k_bipush_m4 rfl ?_
    refine g_icmp_ne 18 9 dX8_lay_6 rfl rfl (fun h6 => ?_) (fun h6 => ?_)
    · refine g_bipush (pc2 := 20) dX8_lay_18 k_bipush_m2 rfl ?_
      exact g_iret dX8_lay_20 rfl (Nat.le_refl _) (Nat.le_refl _) ⟨rfl, rfl, hP1⟩
    · exact absurd ((oI_lt hlt (by omega)).mp h6) h1
