/-! between calls: late, undo, adopt, the text, a text laid -/
theorem pf_late_far (w : Nat → Int32) {i : Nat} (x : Int32) {j : Nat} (hi : i < 7) (hj : 65 ≤ j) : pf_late w i x j = w j := by
  unfold pf_late
  rw [pk_un (by omega), pk_un (by omega)]
theorem Rel.late {σ : lt_S} {n : Nat} {tx : Nat → Nat} {ln T N nx c : Nat} (h : Rel σ n tx ln T N nx c) (i x : Int32) : RelE (S_late (if ok_late (σ 77) i x && can_late (σ 77) (tN i) x then S_clate σ nx c (σ 77) T N (tN i) x else σ) c i x) := by
  have hw := h.1.1
  have hN := hw.2.2.1
  have hT := hw.2.1
  have hx := h.2.1.2.1
  cases hb : ok_late (σ 77) i x && can_late (σ 77) (tN i) x with
  | false =>
    rw [if_neg (by decide)]
    unfold S_late
    rw [hb, if_neg (by decide)]
    exact ⟨n, tx, ln, T, N, nx, c, h⟩
  | true =>
    rw [if_pos rfl]
    have hbb := hb
    simp only [Bool.and_eq_true] at hb
    obtain ⟨hok, hcan⟩ := hb
    unfold ok_late at hok
    unfold can_late at hcan
    simp only [Bool.and_eq_true, Bool.not_eq_true', decide_eq_false_iff_not, decide_eq_true_eq] at hok hcan
    have h1 := hok.1
    rw [hN.1] at h1
    obtain ⟨j, hj, rfl⟩ := hasB_ix (by omega) h1
    rw [tN_nI (show j < 2 ^ 31 by omega)] at *
    have hwl := hw.late hj hok.2.2 hcan.1 hcan.2
    have far1 : ∀ a, a < 44 ∨ 75 < a → a ≠ 19 → a ≠ 20 → S_clate1 σ nx c (σ 77) j x a = σ a := fun a ha h1 h2 => S_clate1_far σ _ _ _ hx ha h1 h2
    have far : ∀ a, (a < 39 ∨ 75 < a) → a ≠ 19 → a ≠ 20 → a ≠ 22 → a ≠ 38 → S_clate σ nx c (σ 77) T N j x a = σ a := by
      intro a ha h1 h2 h3 h4
      unfold S_clate
      split
      · rw [lt_up_nr _ _ _ h3, S_work_ne _ _ _ _ h4, far1 a (by omega) h1 h2]
      · rw [S_work_ne _ _ _ _ h4, far1 a (by omega) h1 h2]
    have mid : ∀ a, 44 ≤ a → S_clate σ nx c (σ 77) T N j x a = S_ckeep σ nx c a := by
      intro a ha
      unfold S_clate S_clate1
      split
      · rw [lt_up_nr _ _ _ (by omega), S_work_ne _ _ _ _ (by omega), lt_up_nr _ _ _ (by omega), lt_up_nr _ _ _ (by omega)]
      · rw [S_work_ne _ _ _ _ (by omega), lt_up_nr _ _ _ (by omega), lt_up_nr _ _ _ (by omega)]
    have e77 : S_clate σ nx c (σ 77) T N j x 77 = σ 77 := far 77 (by omega) (by decide) (by decide) (by decide) (by decide)
    unfold S_late
    rw [e77, tN_nI (show j < 2 ^ 31 by omega), if_pos hbb]
    obtain ⟨cy, cp⟩ := CC.late (c := c) hx h.1 hwl
    have hcw := CC.work hwl cy cp
    have hcc : CC (S_clate σ nx c (σ 77) T N j x) (if lost_late (pf_late (σ 77) j x) j then upd (pf_late (σ 77) j x) (16 + 7 * j + 6) (-4) else pf_late (σ 77) j x) ln T N := by
      unfold S_clate
      cases hl : lost_late (pf_late (σ 77) j x) j with
      | false => rw [if_neg (by decide), if_neg (by decide)]; exact hcw
      | true => rw [if_pos rfl, if_pos rfl]; exact hcw.put6 hj (hwl.upd6 hj (Or.inl rfl)) (fun _ _ => rfl)
    refine h.both _ hcc ?_ ?_ (fun a ha => far a (by omega) (by omega) (by omega) (by omega) (by omega)) ((ck_cp hN.2 h.1.2.2.1).cells (fun k _ _ => mid _ (by omega))) (fun a a1 a2 a3 => by rw [mid a (by omega)]; exact ck_ne σ a1 a3) (by rw [mid 44 (by decide)]; exact ck_1 _ _ _) (by rw [mid 44 (by decide)]; exact ck_2 _ _ _) (far 11 (by decide) (by decide) (by decide) (by decide) (by decide)) (far 12 (by decide) (by decide) (by decide) (by decide) (by decide)) (Scr.rf _) rfl
    · split
      · exact (pf_late_sy (σ 77) N j x).tr (SameY.upd _ N j 6 _ (by omega))
      · exact pf_late_sy (σ 77) N j x
    · intro q hq
      split
      · rw [pk_un (by omega)]; exact pf_late_far _ _ (by omega) hq
      · exact pf_late_far _ _ (by omega) hq
theorem Rel.prev {σ : lt_S} {n : Nat} {tx : Nat → Nat} {ln T N nx c : Nat} (h : Rel σ n tx ln T N nx c) (hc : 0 < c) : Wf (va_cpy (σ 79) (σ 77) (65 * (c - 1)) 0 65) ln T N ∧ SameY (σ 77) (va_cpy (σ 79) (σ 77) (65 * (c - 1)) 0 65) N ∧ CP (46 + 5 * (if nx = 0 then 5 else nx - 1)) σ (va_cpy (σ 79) (σ 77) (65 * (c - 1)) 0 65) N := by
  obtain ⟨r1, r2, rc, rx, r4, hh, hr⟩ := h
  have hnx := r2.2.1
  obtain ⟨q1, q2, q3, q4, q5⟩ := hr 0 hc
  have e : va_cpy (σ 79) (σ 77) (65 * (c - 1)) 0 65 = hh 0 := by
    funext j
    by_cases hj : j < 65
    · rw [pk_cpy_in (by omega) (by omega), q4 j hj]
      exact congrArg (σ 79) (by omega)
    · rw [pk_cpy_out (by omega), q5 j (by omega)]
  rw [e]
  refine ⟨q1, q2, ?_⟩
  have e2 : (nx + 5 - 0) % 6 = if nx = 0 then 5 else nx - 1 := by split <;> omega
  rw [e2] at q3
  exact q3
theorem Rel.undo {σ : lt_S} {n : Nat} {tx : Nat → Nat} {ln T N nx c : Nat} (h : Rel σ n tx ln T N nx c) (hc : 0 < c) : RelE (S_undo (S_work (S_cback σ nx c) (va_cpy (σ 79) (σ 77) (65 * (c - 1)) 0 65) T N) c) := by
  obtain ⟨p1, p2, p3⟩ := h.prev hc
  have hr0 := h
  obtain ⟨r1, r2, rc, rx, r4, hh, hr⟩ := h
  have hN := r1.1.2.2.1
  have hnx := r2.2.1
  have hc6 := r2.2.2.2
  have hz : (if nx = 0 then 5 else nx - 1) < 6 := by split <;> omega
  generalize hw' : va_cpy (σ 79) (σ 77) (65 * (c - 1)) 0 65 = w' at *
  generalize hσ1 : S_work (S_cback σ nx c) w' T N = σ1
  have o1 : ∀ a, a < 19 ∨ 22 < a → a ≠ 38 → a ≠ 44 → σ1 a = σ a := by
    intro a ha h2 h3
    rw [← hσ1, S_work_ne _ _ _ _ h2]
    unfold S_cback
    rw [S_copy_ne _ _ _ (by omega), lt_up_nr _ _ _ h3, lt_up_nr _ _ _ h3]
  have hcc : CC σ1 w' ln T N := by
    rw [← hσ1]
    refine CC.work p1 ?_ ?_
    · have h2 := r1.2.1.same p2
      have o : ∀ a, a < 19 → S_cback σ nx c a = σ a := fun a ha => by unfold S_cback; rw [S_copy_ne _ _ _ (by omega), lt_up_nr _ _ _ (by omega), lt_up_nr _ _ _ (by omega)]
      unfold CY at h2 ⊢
      rw [o 13 (by decide), o (13 + 1) (by decide), o (13 + 2) (by decide), o (13 + 3) (by decide), o (13 + 4) (by decide)]
      exact h2
    · unfold S_cback
      exact CP.copy (by omega) hN.2 (p3.cells (fun k _ _ => by rw [lt_up_nr _ _ _ (by omega), lt_up_nr _ _ _ (by omega)]))
  have e77 : σ1 77 = σ 77 := o1 77 (by decide) (by decide) (by decide)
  have e79 : σ1 79 = σ 79 := o1 79 (by decide) (by decide) (by decide)
  have u77 : S_undo σ1 c 77 = w' := by
    unfold S_undo
    rw [lt_ur_eq, e77, e79, hw']
  have ulo : ∀ a, a ≠ 76 → a ≠ 77 → S_undo σ1 c a = σ1 a := fun a h1 h2 => by unfold S_undo; rw [lt_ur_ne _ _ h2, lt_up_nr _ _ _ h1]
  have u76 : ∀ k, k ≠ 3 → S_undo σ1 c 76 k = σ1 76 k := fun k hk => by unfold S_undo; rw [lt_ur_ne _ _ (by decide), lt_up_ne _ _ _ hk]
  have k44 : ∀ k, σ1 44 k = lt_up (lt_up σ 44 1 (nI (if nx = 0 then 5 else nx - 1))) 44 2 (nI (c - 1)) 44 k := fun k => by
    rw [← hσ1, S_work_ne _ _ _ _ (by decide)]
    unfold S_cback
    rw [S_copy_ne _ _ _ (by decide)]
  refine ⟨n, tx, ln, T, N, if nx = 0 then 5 else nx - 1, c - 1, by rw [u77]; exact hcc.off (fun x hx => ulo x (by omega) (by omega)), ⟨?_, hz, ?_, by omega⟩, ?_, ?_, ?_, fun a => hh (a + 1), fun a ha => ?_⟩
  · rw [ulo 44 (by decide) (by decide), k44, lt_up_ne _ _ _ (by decide), lt_up_at]
  · rw [ulo 44 (by decide) (by decide), k44, lt_up_at]
  · exact rc.cells ((ulo 11 (by decide) (by decide)).trans (o1 11 (by decide) (by decide) (by decide))) ((ulo 12 (by decide) (by decide)).trans (o1 12 (by decide) (by decide) (by decide)))
  · exact rx.cells ((u76 5 (by decide)).trans (by rw [o1 76 (by decide) (by decide) (by decide)])) ((ulo 80 (by decide) (by decide)).trans (o1 80 (by decide) (by decide) (by decide)))
  · unfold S_undo
    rw [lt_ur_ne _ _ (by decide), lt_up_at]
  · rw [u77]
    obtain ⟨q1, q2, q3, q4, q5⟩ := hr (a + 1) (by omega)
    refine ⟨q1, p2.sy.tr q2, ?_, fun j hj => ?_, fun j hj => ?_⟩
    · have e : ((if nx = 0 then 5 else nx - 1) + 5 - a) % 6 = (nx + 5 - (a + 1)) % 6 := by split <;> omega
      rw [e]
      have hz6 : (nx + 5 - (a + 1)) % 6 < 6 := Nat.mod_lt _ (by decide)
      exact q3.cells (fun k k1 k4 => (ulo _ (by omega) (by omega)).trans (o1 _ (by omega) (by omega) (by omega)))
    · show hh (a + 1) j = _
      rw [ulo 79 (by decide) (by decide), e79, q4 j hj]
      exact congrArg (σ 79) (by omega)
    · show hh (a + 1) j = _
      rw [q5 j hj, ← hw', pk_cpy_out (by omega)]
/-! a way that is found is legal -/
theorem exN_ok {lg : (Nat → Nat) → Nat → Nat → Bool} {cs : (Nat → Nat) → Nat} (P : Nat → Nat → Prop) (hP : ∀ f m o, lg f m o = true → P m o) : ∀ (n m : Nat) (f : Nat → Nat) (b : sBest), (∀ i, i < m → P i (f i)) → (∀ q, b = some q → ∀ i, i < m + n → P i (q.2 i)) → ∀ q, exN lg cs n m f b = some q → ∀ i, i < m + n → P i (q.2 i)
  | 0, m, f, b, hf, hb, q, hq => by
    simp only [exN] at hq
    split at hq
    · cases hq
      exact hf
    · exact hb q hq
  | n + 1, m, f, b, hf, hb, q, hq => by
    simp only [exN] at hq
    have key : ∀ k b, (∀ q, b = some q → ∀ i, i < m + (n + 1) → P i (q.2 i)) → ∀ q, exO (fun f' b' => exN lg cs n (m + 1) f' b') lg m f k b = some q → ∀ i, i < m + (n + 1) → P i (q.2 i) := by
      intro k
      induction k with
      | zero => intro b hb q hq; exact hb q hq
      | succ k ih =>
        intro b hb q hq
        simp only [exO] at hq
        by_cases hl : lg f m (4 - k) = true
        · rw [if_pos hl] at hq
          refine ih _ (fun q2 h2 i hi => ?_) q hq
          refine exN_ok P hP n (m + 1) (upN f m (4 - k)) b (fun j hj => ?_) (fun q3 h3 i hi => hb q3 h3 i (by omega)) q2 h2 i (by omega)
          by_cases e : j = m
          · subst e; rw [upN_eq]; exact hP f j _ hl
          · rw [upN_lt (by omega)]; exact hf j (by omega)
        · rw [if_neg hl] at hq
          exact ih b hb q hq
    exact key 5 b hb q hq
theorem way_ok (w : Nat → Int32) (law nt : Int32) (T N : Nat) : ∀ i, i < N → wayG w law nt T N i = 4 ∨ (wayG w law nt T N i < T ∧ pf_fit w i (wayG w law nt T N i) = true) := by
  intro i hi
  have h := exN_ok (lg := lgB w nt T) (cs := costN w law N) (fun m o => o = 4 ∨ (o < T ∧ pf_fit w m o = true)) (fun f m o hl => by
    unfold lgB at hl
    simp only [Bool.or_eq_true, Bool.and_eq_true, decide_eq_true_eq] at hl
    rcases hl with e | e
    · exact Or.inl e
    · exact Or.inr (canB_lt e.1)) N 0 (fun _ => 0) none (fun i hi => by omega) (fun q hq => by cases hq)
  unfold wayG wayF
  cases hq : exN (lgB w nt T) (costN w law N) N 0 (fun _ => 0) none with
  | none => exact Or.inl rfl
  | some q => exact h q hq i (by omega)
theorem adoptRow_at (w : Nat → Int32) (g : Nat → Nat) (N : Nat) {i k : Nat} (hk : k < 7) : adoptRow w g N (16 + 7 * i + k) = if i < N ∧ k = 6 then asT (g i) else w (16 + 7 * i + k) := by
  unfold adoptRow
  by_cases h : i < N ∧ k = 6
  · rw [if_pos h, if_pos (by omega), show (16 + 7 * i + k - 16) / 7 = i by omega]
  · rw [if_neg h, if_neg (by omega)]
theorem adopt_sy (w : Nat → Int32) (g : Nat → Nat) (N : Nat) : SameY w (adoptRow w g N) N := by
  refine ⟨fun j hj => if_neg (by omega), fun i hi => ⟨?_, ?_, ?_⟩⟩
  · rw [adoptRow_at w g N (by decide), if_neg (by omega)]
  · rw [adoptRow_at w g N (by decide), if_neg (by omega)]
  · rw [adoptRow_at w g N (by decide), if_neg (by omega)]
theorem adopt_wf {w : Nat → Int32} {ln T N : Nat} (h : Wf w ln T N) (law : Int32) : Wf (adoptRow w (wayG w law (nI 0) T N) N) ln T N := by
  refine h.of (adopt_sy _ _ _) (fun i hi => ?_)
  obtain ⟨b1, b2, b3⟩ := h.pl2 hi
  unfold Pl
  rw [adoptRow_at _ _ N (k := 2) (by decide), adoptRow_at _ _ N (k := 3) (by decide), adoptRow_at _ _ N (k := 4) (by decide), adoptRow_at _ _ N (k := 6) (by decide), if_neg (by omega), if_neg (by omega), if_neg (by omega), if_pos ⟨hi, rfl⟩]
  refine ⟨b1, b2, ?_⟩
  rcases way_ok w law (nI 0) T N i hi with e | e
  · rw [e]; exact Or.inl rfl
  · refine Or.inr ⟨_, e.1, if_neg ?_, e.2⟩
    have := h.2.1.2.2
    omega
theorem Rel.adopt {σ : lt_S} {n : Nat} {tx : Nat → Nat} {ln T N nx c : Nat} (h : Rel σ n tx ln T N nx c) (law : Int32) {σ1 σ2 σ3 : lt_S} (hsc : Scrc σ σ1) (hg : ∀ j, j < N → σ1 43 j = asT (wayG (σ 77) law (nI 0) T N j)) (e2 : σ2 = lt_ur (S_ckeep σ1 nx c) 22 (va_cpy (σ1 43) (σ1 22) 0 0 N)) {σ2' : lt_S} (hs2 : Scr σ2 σ2') (e3 : σ3 = lt_ur (S_keep σ2' c) 77 (adoptRow (σ2 77) (wayG (σ2 77) law (nI 0) T N) N)) : RelE σ3 := by
  have hw := h.1.1
  have hN := hw.2.2.1
  have hx := h.2.1.2.1
  have o2 : ∀ a, (a < 39 ∨ 75 < a) → a ≠ 22 → σ2 a = σ a := fun a ha h22 => by rw [e2, lt_ur_ne _ _ h22, S_ckeep_ne σ1 (by omega) hx]; exact hsc.1 a (by omega)
  have e77 : σ2 77 = σ 77 := o2 77 (by decide) (by decide)
  rw [e77] at e3
  have hc1 : CC σ1 (σ 77) ln T N := h.1.off (fun x hx => hsc.1 x (Or.inl hx))
  refine h.both (σ1 := σ2) _ ?_ (adopt_sy _ _ _) (fun j hj => if_neg (by omega)) (fun a ha => o2 a (by omega) (by omega)) ?_ (fun a a1 a2 a3 => ?_) ?_ ?_ (o2 11 (by decide) (by decide)) (o2 12 (by decide) (by decide)) hs2 e3
  · refine h.1.plan (adopt_wf hw law) (adopt_sy _ _ _) (fun i hi => ⟨?_, ?_⟩) (fun x h1 h2 h3 => o2 x (by omega) h3) (fun i hi => ?_) (fun i hi => ?_)
    · rw [adoptRow_at _ _ _ (by decide), if_neg (by omega)]
    · rw [adoptRow_at _ _ _ (by decide), if_neg (by omega)]
    · have e4 : adoptRow (σ 77) (wayG (σ 77) law (nI 0) T N) N (16 + 7 * i + 4) = σ 77 (16 + 7 * i + 4) := by rw [adoptRow_at _ _ _ (by decide), if_neg (by omega)]
      rw [e4, o2 21 (by decide) (by decide)]
      exact (h.1.2.2.1 i hi).2.2.1
    · rw [adoptRow_at _ _ _ (by decide), if_pos ⟨hi, rfl⟩, e2, lt_ur_eq, pk_cpy_in (by omega) (by omega), show 0 + (i - 0) = i by omega]
      exact hg i hi
  · rw [e2]
    exact (ck_cp hN.2 hc1.2.2.1).cells (fun k _ _ => lt_ur_ne _ _ (by omega))
  · rw [e2, lt_ur_ne _ _ (by omega), ck_ne σ1 a1 a3]
    exact hsc.1 a (by omega)
  · rw [e2, lt_ur_ne _ _ (by decide)]; exact ck_1 _ _ _
  · rw [e2, lt_ur_ne _ _ (by decide)]; exact ck_2 _ _ _
theorem Rel.scratch {σ σ1 σ2 : lt_S} {n : Nat} {tx : Nat → Nat} {ln T N nx c : Nat} (h : Rel σ n tx ln T N nx c) (h1 : Scrc σ σ1) (h2 : Scr σ1 σ2) : RelE σ2 :=
  ⟨n, tx, ln, T, N, nx, c, h.same (fun a ha => (h2.1 a (by omega) (by omega) (by omega) (by omega) (by omega)).trans (h1.1 a (by omega))) (by rw [h2.2 3 (by decide) (by decide), h1.1 76 (by decide)]) (by rw [h2.2 5 (by decide) (by decide), h1.1 76 (by decide)])⟩
theorem Rel.fault {σ σ1 σ2 : lt_S} {n : Nat} {tx : Nat → Nat} {ln T N nx c : Nat} (h : Rel σ n tx ln T N nx c) (h1 : PF25 σ σ1) (h2 : PR σ1 σ2) : RelE σ2 :=
  ⟨n, tx, ln, T, N, nx, c, h.same (fun a ha => (h2.1 a (by omega) (by omega) (by omega)).trans (h1 a (by omega))) (by rw [h2.2 3 (by decide) (by decide), h1 76 (by decide)]) (by rw [h2.2 5 (by decide) (by decide), h1 76 (by decide)])⟩
theorem Rel.text {σ σ' : lt_S} {n : Nat} {tx : Nat → Nat} {ln T N nx c : Nat} (h : Rel σ n tx ln T N nx c) {n' : Nat} {tx' : Nat → Nat} (he : ∀ a, a ≠ 11 → a ≠ 12 → a ≠ 76 → a ≠ 80 → σ' a = σ a) (h3 : σ' 76 3 = σ 76 3) (hC : TC σ' n' tx') (hX : TX σ' n' tx') : RelE σ' := by
  obtain ⟨r1, r2, -, -, r4, hh, hr⟩ := h
  refine ⟨n', tx', ln, T, N, nx, c, ?_, ?_, hC, hX, h3.trans r4, hh, fun a ha => ?_⟩
  · rw [he 77 (by decide) (by decide) (by decide) (by decide)]
    exact r1.cells (fun a ha => he a (by omega) (by omega) (by omega) (by omega))
  · unfold KP
    rw [he 44 (by decide) (by decide) (by decide) (by decide)]
    exact r2
  · obtain ⟨q1, q2, q3, q4, q5⟩ := hr a ha
    have hz6 : (nx + 5 - a) % 6 < 6 := Nat.mod_lt _ (by decide)
    rw [he 77 (by decide) (by decide) (by decide) (by decide), he 79 (by decide) (by decide) (by decide) (by decide)]
    exact ⟨q1, q2, q3.cells (fun k _ _ => he _ (by omega) (by omega) (by omega) (by omega)), q4, q5⟩
theorem Rel.wipe {σ : lt_S} {n : Nat} {tx : Nat → Nat} {ln T N nx c : Nat} (h : Rel σ n tx ln T N nx c) : RelE (lt_up (lt_up σ 11 1 (nI 0)) 76 5 (nI 0)) := by
  refine h.text (n' := 0) (tx' := tx) (fun a h1 h2 h3 h4 => by rw [lt_up_nr _ _ _ h3, lt_up_nr _ _ _ h1]) ?_ ⟨?_, by omega, fun j hj => by omega⟩ ⟨?_, by omega, fun j hj => by omega⟩
  · rw [lt_up_ne _ _ _ (by decide), lt_up_nr _ _ _ (by decide)]
  · rw [lt_up_nr _ _ _ (by decide), lt_up_at]
  · rw [lt_up_at]
theorem Rel.write {σ : lt_S} {n : Nat} {tx : Nat → Nat} {ln T N nx c : Nat} (h : Rel σ n tx ln T N nx c) (k : Int32) : RelE (if inB k (nI 32) (nI 126) && decide (n < 200) then lt_up (lt_up (if inB k (nI 32) (nI 126) && decide (n < 200) then lt_up (lt_up σ 12 n k) 11 1 (nI (n + 1)) else σ) 80 n k) 76 5 (nI (n + 1)) else (if inB k (nI 32) (nI 126) && decide (n < 200) then lt_up (lt_up σ 12 n k) 11 1 (nI (n + 1)) else σ)) := by
  cases hb : inB k (nI 32) (nI 126) && decide (n < 200) with
  | false => rw [if_neg (by decide), if_neg (by decide)]; exact ⟨n, tx, ln, T, N, nx, c, h⟩
  | true =>
    rw [if_pos rfl, if_pos rfl]
    rw [Bool.and_eq_true, decide_eq_true_eq] at hb
    obtain ⟨-, -, q, hq, rfl⟩ := char_id hb.1
    refine h.text (n' := n + 1) (tx' := upN tx n q) (fun a h1 h2 h3 h4 => by rw [lt_up_nr _ _ _ h3, lt_up_nr _ _ _ h4, lt_up_nr _ _ _ h1, lt_up_nr _ _ _ h2]) ?_ ⟨?_, by omega, fun j hj => ?_⟩ ⟨?_, by omega, fun j hj => ?_⟩
    · rw [lt_up_ne _ _ _ (by decide), lt_up_nr _ _ _ (by decide), lt_up_nr _ _ _ (by decide), lt_up_nr _ _ _ (by decide)]
    · rw [lt_up_nr _ _ _ (by decide), lt_up_nr _ _ _ (by decide), lt_up_at]
    · rw [lt_up_nr _ _ _ (by decide), lt_up_nr _ _ _ (by decide), lt_up_nr _ _ _ (by decide)]
      by_cases e : j = n
      · subst e; rw [lt_up_at, upN_eq]; exact ⟨rfl, hq⟩
      · rw [lt_up_ne _ _ _ e, upN_lt (by omega)]; exact h.2.2.1.2.2 j (by omega)
    · rw [lt_up_at]
    · rw [lt_up_nr _ _ _ (by decide)]
      by_cases e : j = n
      · subst e; rw [lt_up_at, upN_eq]; exact ⟨rfl, hq⟩
      · rw [lt_up_ne _ _ _ e, upN_lt (by omega), lt_up_nr _ _ _ (by decide), lt_up_nr _ _ _ (by decide)]; exact h.2.2.2.1.2.2 j (by omega)
/-! a row with what lies beyond it -/
def pat (w z : Nat → Int32) : Nat → Int32 := fun j => if j < 65 then w j else z j
theorem pat_in (w z : Nat → Int32) {j : Nat} (h : j < 65) : pat w z j = w j := if_pos h
theorem pat_upd (w z : Nat → Int32) {i : Nat} (x : Int32) (h : i < 65) : upd (pat w z) i x = pat (upd w i x) z := by
  funext j
  by_cases e : j = i
  · subst e
    rw [u_at, pat_in _ _ h, u_at]
  · rw [u_ne _ _ e]
    unfold pat
    rw [u_ne _ _ e]
theorem pat_item {r : Nat → Int32} {ln T N : Nat} (h : Wp r ln T N) (z : Nat → Int32) (k : Nat) (hk : k < 5) (ns : List Nat) : itemR (pat r z) k ns = (itemR r k ns).map (fun r' => pat r' z) := by
  obtain ⟨e0, e1, e2⟩ := h.e
  have h0 := h.1.2
  have h1 := h.2.1.2
  have h2 := h.2.2.1.2
  have p0 : pat r z 0 = r 0 := pat_in _ _ (by decide)
  have p1 : pat r z 1 = r 1 := pat_in _ _ (by decide)
  have p2 : pat r z 2 = r 2 := pat_in _ _ (by decide)
  by_cases k0 : k = 0
  · subst k0
    rw [item0, item0]
    have e : okYard (pat r z) ns = okYard r ns := by unfold okYard; rw [p0]
    rw [e]
    cases hok : okYard r ns with
    | false => rfl
    | true =>
      rw [if_pos rfl, if_pos rfl]
      unfold rowYard
      rw [pat_upd _ _ _ (by decide), pat_upd _ _ _ (by decide)]
      rfl
  · by_cases hr0 : r 0 = nI 0
    · rw [itemX hr0 k k0, itemX (p0.trans hr0) k k0]
      rfl
    · have hr0' : ¬ pat r z 0 = nI 0 := by rw [p0]; exact hr0
      rcases (show k = 1 ∨ k = 2 ∨ k = 3 ∨ k = 4 by omega) with rfl | rfl | rfl | rfl
      · rw [item1 hr0, item1 hr0']
        have e : okPath (pat r z) ns = okPath r ns := by
          rw [Bool.eq_iff_iff, okPt_iff, okPt_iff, p0, p1, e0, e1]
          constructor
          · rintro ⟨a1, a2, a3, a4, a5⟩
            rw [pat_in _ _ (by omega)] at a4
            exact ⟨a1, a2, a3, a4, a5⟩
          · rintro ⟨a1, a2, a3, a4, a5⟩
            exact ⟨a1, a2, a3, by rw [pat_in _ _ (by omega)]; exact a4, a5⟩
        rw [e]
        cases hok : okPath r ns with
        | false => rfl
        | true =>
          rw [if_pos rfl, if_pos rfl]
          have hc := okPt_iff.mp hok
          rw [e0, e1] at hc
          unfold rowPath
          rw [pat_upd _ _ _ (by omega)]
          rfl
      · rw [item2 hr0, item2 hr0']
        have e : okCome (pat r z) ns = okCome r ns := by unfold okCome; rw [p0, p1, p2]
        rw [e]
        cases hok : okCome r ns with
        | false => rfl
        | true =>
          rw [if_pos rfl, if_pos rfl]
          have hc := (okC_iff.mp hok).2.1
          rw [e2] at hc
          unfold rowCome comeRow
          rw [p2, e2, pat_upd _ _ _ (by omega), pat_upd _ _ _ (by omega), pat_upd _ _ _ (by omega), pat_upd _ _ _ (by omega), pat_upd _ _ _ (by omega), pat_upd _ _ _ (by omega), pat_upd _ _ _ (by omega), pat_upd _ _ _ (by omega)]
          rfl
      · rw [item3 hr0, item3 hr0']
        have e : okPair (pat r z) ns = okPair r ns := by
          rw [Bool.eq_iff_iff, okPr_iff, okPr_iff, p2, e2]
          constructor
          · rintro ⟨a1, a2, a3, a4, a5, a6⟩
            rw [pat_in _ _ (by omega)] at a5
            rw [pat_in _ _ (by omega)] at a6
            exact ⟨a1, a2, a3, a4, a5, a6⟩
          · rintro ⟨a1, a2, a3, a4, a5, a6⟩
            exact ⟨a1, a2, a3, a4, by rw [pat_in _ _ (by omega)]; exact a5, by rw [pat_in _ _ (by omega)]; exact a6⟩
        rw [e]
        cases hok : okPair r ns with
        | false => rfl
        | true =>
          rw [if_pos rfl, if_pos rfl]
          have hc := okPr_iff.mp hok
          rw [e2] at hc
          unfold rowPair
          rw [pat_upd _ _ _ (by omega), pat_upd _ _ _ (by omega)]
          rfl
      · rw [item4 hr0, item4 hr0']
        cases hok : okGap ns with
        | false => rfl
        | true =>
          rw [if_pos rfl, if_pos rfl]
          unfold rowGap
          rw [pat_upd _ _ _ (by decide)]
          rfl
theorem pat_parse {tx : Nat → Nat} {n : Nat} (z : Nat → Int32) : ∀ (f : Nat) (r : Nat → Int32) (p : Nat), (∃ ln T N, Wp r ln T N) → parseL tx n f (pat r z) p = ((parseL tx n f r p).1, pat (parseL tx n f r p).2 z)
  | 0, r, p, _ => rfl
  | f + 1, r, p, hW => by
    obtain ⟨ln, T, N, h⟩ := hW
    simp only [parseL]
    by_cases hp : p < n
    · rw [if_pos hp, if_pos hp]
      simp only [itemAt]
      cases hk : kindAt tx n p with
      | none => rfl
      | some k =>
        simp only
        cases hq : numsAt tx n 6 (p + 5) with
        | none => rfl
        | some q =>
          simp only
          rw [pat_item h z k (kind_lt hk) q.1]
          cases hi : itemR r k q.1 with
          | none => rfl
          | some r2 => exact pat_parse z f r2 q.2 (h.item hi)
    · rw [if_neg hp, if_neg hp]
theorem Beg.pat {r : Nat → Int32} (h : Beg r) (z : Nat → Int32) : Beg (pat r z) := by
  obtain ⟨h0, h1, h2, h3, h4⟩ := h
  exact ⟨(pat_in _ _ (by decide)).trans h0, (pat_in _ _ (by decide)).trans h1, (pat_in _ _ (by decide)).trans h2, (pat_in _ _ (by decide)).trans h3, fun j j1 j2 => (pat_in _ _ (by omega)).trans (h4 j j1 j2)⟩
theorem cpy_pat (w z : Nat → Int32) : va_cpy w z 0 0 65 = pat w z := by
  funext j
  unfold pat
  by_cases h : j < 65
  · rw [if_pos h, pk_cpy_in (by omega) (by omega)]
    exact congrArg w (by omega)
  · rw [if_neg h, pk_cpy_out (by omega)]
theorem pat_M {tx : Nat → Nat} {n : Nat} {r : Nat → Int32} (hr : Beg r) (z : Nat → Int32) : parseM tx n (pat r z) = ((parseM tx n r).1, pat (parseM tx n r).2 z) := pat_parse z (n + 1) r 0 ⟨0, 0, 0, hr.wp⟩
theorem Rel.lay {σ σa σ1 σ1m σ2 : lt_S} {n : Nat} {tx : Nat → Nat} {ln T N nx c : Nat} (h : Rel σ n tx ln T N nx c) {w : Nat → Int32} {ln' T' N' : Nat} (hw : Wf w ln' T' N') (hP : PF σ σa) (hC : CR23 σa w) (e1 : σ1 = lt_up (S_work σa w T' N') 44 2 (nI 0)) (hR : PR σ1 σ1m) (e2 : σ2 = lt_up (lt_ur σ1m 77 w) 76 3 (nI 0)) : RelE σ2 := by
  obtain ⟨r1, r2, rc, rx, r4, -⟩ := h
  have lo : ∀ a, a < 76 → σ2 a = σ1 a := fun a ha => by rw [e2, lt_up_nr _ _ _ (by omega), lt_ur_ne _ _ (by omega)]; exact hR.1 a (by omega) (by omega) (by omega)
  have o1 : ∀ a, a < 13 ∨ 38 < a → a ≠ 44 → σ1 a = σ a := fun a ha h44 => by rw [e1, lt_up_nr _ _ _ h44, S_work_ne _ _ _ _ (by omega)]; exact hP a (by omega)
  have eN : tN (w 2) = N' := hw.tr.2.1
  unfold CR23 at hC
  rw [eN] at hC
  have hcc := CC.work hw hC.1 hC.2
  have e77 : σ2 77 = w := by rw [e2, lt_up_nr _ _ _ (by decide), lt_ur_eq]
  refine ⟨n, tx, ln', T', N', nx, 0, ?_, ⟨?_, r2.2.1, ?_, by omega⟩, ?_, ?_, ?_, fun _ => w, fun a ha => by omega⟩
  · rw [e77]
    refine hcc.off (fun x hx => ?_)
    rw [lo x (by omega), e1, lt_up_nr _ _ _ (by omega)]
  · rw [lo 44 (by decide), e1, lt_up_ne _ _ _ (by decide), S_work_ne _ _ _ _ (by decide), hP 44 (by decide)]
    exact r2.1
  · rw [lo 44 (by decide), e1, lt_up_at]
  · exact rc.cells ((lo 11 (by decide)).trans (o1 11 (by decide) (by decide))) ((lo 12 (by decide)).trans (o1 12 (by decide) (by decide)))
  · refine rx.cells ?_ ?_
    · rw [e2, lt_up_ne _ _ _ (by decide), lt_ur_ne _ _ (by decide), hR.2 5 (by decide) (by decide), o1 76 (by decide) (by decide)]
    · rw [e2, lt_up_nr _ _ _ (by decide), lt_ur_ne _ _ (by decide), hR.1 80 (by decide) (by decide) (by decide), o1 80 (by decide) (by decide)]
  · rw [e2, lt_up_at]
