/-! what holds of class and reference between two calls -/
theorem kind_same {w w' : Nat → Int32} {ln T N : Nat} (hw : Wf w ln T N) (hs : SameY w w' N) (hm : ∀ i, i < N → w' (16 + 7 * i + 2) = w (16 + 7 * i + 2) ∧ w' (16 + 7 * i + 3) = w (16 + 7 * i + 3)) {i t j o : Nat} (hi : i < N) (hj : j < N) (ht : t < 4) (ho : o < 4) : kindF w' i t j o = kindF w i t j o := by
  have hli := hw.ln hi
  have hlj := hw.ln hj
  have m1 := hm i hi
  have m2 := hm j hj
  unfold kindF
  rw [hs.fit hi hli ht, hs.fit hj hlj ho]
  have e : pf_kind w' i t j o = pf_kind w i t j o := by
    unfold pf_kind pf_mates pf_apart pf_sw pf_gap
    rw [(hs.2 i hi).2.2, m1.1, m1.2, m2.1, m2.2, hs.1 3 (by decide), hs.pin hi hli ht, hs.pin hj hlj ho, hs.pout hi hli ht, hs.pout hj hlj ho]
  rw [e]
theorem ag_same {w w' : Nat → Int32} {ln T N : Nat} (hw : Wf w ln T N) (hs : SameY w w' N) (hm : ∀ i, i < N → w' (16 + 7 * i + 2) = w (16 + 7 * i + 2) ∧ w' (16 + 7 * i + 3) = w (16 + 7 * i + 3)) {i t : Nat} (hi : i < N) (ht : t < 4) : agF w' T N i t = agF w T N i t := by
  have hT := hw.2.1
  unfold agF
  refine orF_congr (fun j hj => orF_congr (fun o ho => ?_))
  unfold agV agB
  rw [kind_same hw hs hm hi hj ht (by omega)]
/-- another plan with the same minutes -/
theorem CC.plan {σ σ' : lt_S} {w w' : Nat → Int32} {ln T N : Nat} (h : CC σ w ln T N) (hw' : Wf w' ln T N) (hs : SameY w w' N) (hm : ∀ i, i < N → w' (16 + 7 * i + 2) = w (16 + 7 * i + 2) ∧ w' (16 + 7 * i + 3) = w (16 + 7 * i + 3)) (he : ∀ x, x < 39 → x ≠ 21 → x ≠ 22 → σ' x = σ x) (h4 : ∀ i, i < N → σ' 21 i = if w' (16 + 7 * i + 4) = -4 then nI 9 else w' (16 + 7 * i + 4)) (h6 : ∀ i, i < N → σ' 22 i = w' (16 + 7 * i + 6)) : CC σ' w' ln T N := by
  have hT := h.1.2.1
  refine ⟨hw', ?_, ?_, ?_⟩
  · have h2 := h.2.1.same hs
    unfold CY at h2 ⊢
    rw [he 13 (by decide) (by decide) (by decide), he (13 + 1) (by decide) (by decide) (by decide), he (13 + 2) (by decide) (by decide) (by decide), he (13 + 3) (by decide) (by decide) (by decide), he (13 + 4) (by decide) (by decide) (by decide)]
    exact h2
  · intro i hi
    obtain ⟨p1, p2, -, -⟩ := h.2.2.1 i hi
    refine ⟨?_, ?_, h4 i hi, h6 i hi⟩
    · rw [he (18 + 1) (by decide) (by decide) (by decide), (hm i hi).1]; exact p1
    · rw [he (18 + 2) (by decide) (by decide) (by decide), (hm i hi).2]; exact p2
  · intro i hi t ht
    rw [he 38 (by decide) (by decide) (by decide), ag_same h.1 hs hm hi (by omega)]
    exact h.2.2.2 i hi t ht
theorem CC.put6 {σ σ' : lt_S} {w : Nat → Int32} {ln T N i : Nat} {v : Int32} (h : CC σ w ln T N) (hi : i < N) (hw' : Wf (upd w (16 + 7 * i + 6) v) ln T N) (he : ∀ x, x < 39 → σ' x = σ x) : CC (lt_up σ' 22 i v) (upd w (16 + 7 * i + 6) v) ln T N := by
  refine h.plan hw' (SameY.upd w N i 6 v (by omega)) (fun j hj => ⟨pk_un (by omega), pk_un (by omega)⟩) (fun x h1 h2 h3 => by rw [lt_up_nr _ _ _ h3]; exact he x h1) (fun j hj => ?_) (fun j hj => ?_)
  · rw [pk_un (by omega), lt_up_nr _ _ _ (by decide), he 21 (by decide)]
    exact (h.2.2.1 j hj).2.2.1
  · by_cases e : j = i
    · subst e; rw [lt_up_at, pk_us]
    · rw [lt_up_ne _ _ _ e, pk_un (by omega), he 22 (by decide)]
      exact (h.2.2.1 j hj).2.2.2
theorem CC.put4 {σ σ' : lt_S} {w : Nat → Int32} {ln T N i : Nat} {x : Int32} (h : CC σ w ln T N) (hi : i < N) (hx : x = nI 9 ∨ ∃ t, t < T ∧ x = nI t) (hw' : Wf (upd w (16 + 7 * i + 4) (if x = nI 9 then -4 else x)) ln T N) (he : ∀ x, x < 39 → σ' x = σ x) : CC (lt_up σ' 21 i x) (upd w (16 + 7 * i + 4) (if x = nI 9 then -4 else x)) ln T N := by
  have hT := h.1.2.1
  refine h.plan hw' (SameY.upd w N i 4 _ (by omega)) (fun j hj => ⟨pk_un (by omega), pk_un (by omega)⟩) (fun x h1 h2 h3 => by rw [lt_up_nr _ _ _ h2]; exact he x h1) (fun j hj => ?_) (fun j hj => ?_)
  · by_cases e : j = i
    · subst e
      rw [lt_up_at, pk_us]
      rcases hx with rfl | ⟨t, ht, rfl⟩
      · rfl
      · have n9 : ¬ nI t = nI 9 := fun q => by have := (nI_eq (by omega) (by decide)).mp q; omega
        rw [if_neg n9, if_neg (m4_ne (by omega))]
    · rw [lt_up_ne _ _ _ e, pk_un (by omega), he 21 (by decide)]
      exact (h.2.2.1 j hj).2.2.1
  · rw [pk_un (by omega), lt_up_nr _ _ _ (by decide), he 22 (by decide)]
    exact (h.2.2.1 j hj).2.2.2
/-- the past: h a is the row a changes ago -/
def HR (σ : lt_S) (w : Nat → Int32) (ln T N nx c : Nat) : Prop := ∃ h : Nat → Nat → Int32, ∀ a, a < c → Wf (h a) ln T N ∧ SameY w (h a) N ∧ CP (46 + 5 * ((nx + 5 - a) % 6)) σ (h a) N ∧ (∀ j, j < 65 → h a j = σ 79 (65 * (c - 1 - a) + j)) ∧ ∀ j, 65 ≤ j → h a j = w j
def Rel (σ : lt_S) (n : Nat) (tx : Nat → Nat) (ln T N nx c : Nat) : Prop := CC σ (σ 77) ln T N ∧ KP σ nx c ∧ TC σ n tx ∧ TX σ n tx ∧ σ 76 3 = nI c ∧ HR σ (σ 77) ln T N nx c
theorem CP.cells {σ σ' : lt_S} {p N : Nat} {w : Nat → Int32} (h : CP p σ w N) (he : ∀ k, 1 ≤ k → k ≤ 4 → σ' (p + k) = σ (p + k)) : CP p σ' w N := by
  intro i hi
  rw [he 1 (by decide) (by decide), he 2 (by decide) (by decide), he 3 (by decide) (by decide), he 4 (by decide) (by decide)]
  exact h i hi
theorem TC.cells {σ σ' : lt_S} {n : Nat} {tx : Nat → Nat} (h : TC σ n tx) (h1 : σ' 11 = σ 11) (h2 : σ' 12 = σ 12) : TC σ' n tx := by
  unfold TC
  rw [h1, h2]
  exact h
theorem TX.cells {σ σ' : lt_S} {n : Nat} {tx : Nat → Nat} (h : TX σ n tx) (h1 : σ' 76 5 = σ 76 5) (h2 : σ' 80 = σ 80) : TX σ' n tx := by
  unfold TX
  rw [h1, h2]
  exact h
theorem CC.cells {σ σ' : lt_S} {w : Nat → Int32} {ln T N : Nat} (h : CC σ w ln T N) (he : ∀ a, (13 ≤ a ∧ a ≤ 22) ∨ a = 38 → σ' a = σ a) : CC σ' w ln T N := by
  obtain ⟨h1, h2, h3, h4⟩ := h
  refine ⟨h1, ?_, h3.cells (fun k k1 k2 => he _ (by omega)), ?_⟩
  · unfold CY at h2 ⊢
    rw [he 13 (by decide), he (13 + 1) (by decide), he (13 + 2) (by decide), he (13 + 3) (by decide), he (13 + 4) (by decide)]
    exact h2
  · unfold CA at h4 ⊢
    rw [he 38 (by decide)]
    exact h4
/-- cells that are used again and again -/
theorem Rel.same {σ σ' : lt_S} {n : Nat} {tx : Nat → Nat} {ln T N nx c : Nat} (h : Rel σ n tx ln T N nx c) (he : ∀ a, (11 ≤ a ∧ a ≤ 24) ∨ (37 ≤ a ∧ a ≤ 38) ∨ (44 ≤ a ∧ a < 76) ∨ a = 77 ∨ a = 79 ∨ a = 80 → σ' a = σ a) (h3 : σ' 76 3 = σ 76 3) (h5 : σ' 76 5 = σ 76 5) : Rel σ' n tx ln T N nx c := by
  obtain ⟨h1, h2, hc, hx, h4, hh, hr⟩ := h
  refine ⟨?_, ?_, hc.cells (he 11 (by omega)) (he 12 (by omega)), hx.cells h5 (he 80 (by omega)), h3.trans h4, hh, fun a ha => ?_⟩
  · rw [he 77 (by omega)]
    exact h1.cells (fun a ha => he a (by omega))
  · unfold KP
    rw [he 44 (by omega)]
    exact h2
  · obtain ⟨r1, r2, r3, r4, r5⟩ := hr a ha
    rw [he 77 (by omega), he 79 (by omega)]
    exact ⟨r1, r2, r3.cells (fun k k1 k2 => he _ (by omega)), r4, r5⟩
theorem S_keep_79 (σ σ' : lt_S) (c : Nat) (h1 : σ' 77 = σ 77) (h2 : σ' 79 = σ 79) : S_keep σ' c 79 = S_keep σ c 79 := by
  unfold S_keep
  by_cases e : c = 6
  · rw [if_pos e, if_pos e, lt_up_nr _ _ _ (by decide), lt_up_nr _ _ _ (by decide), lt_ur_eq, lt_ur_eq, h1, h2]
  · rw [if_neg e, if_neg e, lt_up_nr _ _ _ (by decide), lt_up_nr _ _ _ (by decide), lt_ur_eq, lt_ur_eq, h1, h2]
theorem S_keep_3 (σ : lt_S) (c : Nat) : S_keep σ c 76 3 = nI (if c = 6 then 6 else c + 1) := by
  unfold S_keep
  by_cases e : c = 6
  · rw [if_pos e, if_pos e, lt_up_at]
  · rw [if_neg e, if_neg e, lt_up_at]
theorem S_keep_k (σ : lt_S) (c : Nat) {k : Nat} (hk : k ≠ 3) : S_keep σ c 76 k = σ 76 k := by
  unfold S_keep
  by_cases e : c = 6
  · rw [if_pos e, lt_up_ne _ _ _ hk, lt_ur_ne _ _ (by decide)]
  · rw [if_neg e, lt_up_ne _ _ _ hk, lt_ur_ne _ _ (by decide)]
/-- a change, kept on both sides -/
theorem Rel.change {σ σ' : lt_S} {n : Nat} {tx : Nat → Nat} {ln T N nx c : Nat} (h : Rel σ n tx ln T N nx c) (w' : Nat → Int32) (hw' : CC σ' w' ln T N) (hs : SameY (σ 77) w' N) (hfar : ∀ j, 65 ≤ j → w' j = σ 77 j) (h77 : σ' 77 = w') (hp0 : CP (46 + 5 * nx) σ' (σ 77) N) (hp : ∀ a, 46 ≤ a → a < 76 → (a < 46 + 5 * nx + 1 ∨ 46 + 5 * nx + 4 < a) → σ' a = σ a) (k1 : σ' 44 1 = nI (if nx = 5 then 0 else nx + 1)) (k2 : σ' 44 2 = nI (if c = 6 then 6 else c + 1)) (h79 : σ' 79 = S_keep σ c 79) (h3 : σ' 76 3 = nI (if c = 6 then 6 else c + 1)) (h11 : σ' 11 = σ 11) (h12 : σ' 12 = σ 12) (h80 : σ' 80 = σ 80) (h5 : σ' 76 5 = σ 76 5) : ∃ nx' c', Rel σ' n tx ln T N nx' c' := by
  obtain ⟨r1, r2, rc, rx, r4, hh, hr⟩ := h
  have hN := r1.1.2.2.1
  have hnx := r2.2.1
  have hc6 := r2.2.2.2
  refine ⟨if nx = 5 then 0 else nx + 1, if c = 6 then 6 else c + 1, by rw [h77]; exact hw', ⟨k1, by split <;> omega, k2, by split <;> omega⟩, rc.cells h11 h12, rx.cells h5 h80, h3, fun a => if a = 0 then σ 77 else hh (a - 1), fun a ha => ?_⟩
  rw [h77]
  simp only []
  by_cases e0 : a = 0
  · subst e0
    rw [if_pos rfl]
    refine ⟨r1.1, hs.sy, ?_, fun j hj => ?_, fun j hj => (hfar j hj).symm⟩
    · have e : ((if nx = 5 then 0 else nx + 1) + 5 - 0) % 6 = nx := by split <;> omega
      rw [e]
      exact hp0
    · rw [h79]
      unfold S_keep
      by_cases e6 : c = 6
      · rw [if_pos e6, if_pos e6, lt_up_nr _ _ _ (by decide), lt_ur_eq, pk_cpy_in (by omega) (by omega)]
        exact congrArg (σ 77) (by omega)
      · rw [if_neg e6, if_neg e6, lt_up_nr _ _ _ (by decide), lt_ur_eq, pk_cpy_in (by omega) (by omega)]
        exact congrArg (σ 77) (by omega)
  · rw [if_neg e0]
    obtain ⟨q1, q2, q3, q4, q5⟩ := hr (a - 1) (by split at ha <;> omega)
    refine ⟨q1, hs.sy.tr q2, ?_, fun j hj => ?_, fun j hj => (q5 j hj).trans (hfar j hj).symm⟩
    · have e : ((if nx = 5 then 0 else nx + 1) + 5 - a) % 6 = (nx + 5 - (a - 1)) % 6 := by split at ha <;> split <;> omega
      have ne : (nx + 5 - (a - 1)) % 6 ≠ nx := by split at ha <;> omega
      rw [e]
      have hz6 : (nx + 5 - (a - 1)) % 6 < 6 := Nat.mod_lt _ (by decide)
      generalize (nx + 5 - (a - 1)) % 6 = z at *
      refine q3.cells (fun k k1 k4 => ?_)
      exact hp _ (by omega) (by omega) (by omega)
    · rw [h79, q4 j hj]
      unfold S_keep
      by_cases e6 : c = 6
      · rw [if_pos e6] at ha
        rw [if_pos e6, if_pos e6, lt_up_nr _ _ _ (by decide), lt_ur_eq, pk_cpy_out (by omega), pk_cpy_in (by omega) (by omega)]
        congr 1
        omega
      · rw [if_neg e6] at ha
        rw [if_neg e6, if_neg e6, lt_up_nr _ _ _ (by decide), lt_ur_eq, pk_cpy_out (by omega)]
        congr 1
        omega
def RelE (σ : lt_S) : Prop := ∃ n tx ln T N nx c, Rel σ n tx ln T N nx c
theorem ck_hi (σ : lt_S) {nx c a : Nat} (h1 : 46 ≤ a) : S_ckeep σ nx c a = S_copy σ (46 + 5 * nx) 18 a := by
  unfold S_ckeep
  rw [lt_up_nr _ _ _ (by omega), lt_up_nr _ _ _ (by omega)]
theorem ck_1 (σ : lt_S) (nx c : Nat) : S_ckeep σ nx c 44 1 = nI (if nx = 5 then 0 else nx + 1) := by
  unfold S_ckeep
  rw [lt_up_ne _ _ _ (by decide), lt_up_at]
theorem ck_2 (σ : lt_S) (nx c : Nat) : S_ckeep σ nx c 44 2 = nI (if c = 6 then 6 else c + 1) := by
  unfold S_ckeep
  rw [lt_up_at]
theorem ck_cp {σ : lt_S} {w : Nat → Int32} {N nx c : Nat} (hN : N ≤ 7) (h : CP 18 σ w N) : CP (46 + 5 * nx) (S_ckeep σ nx c) w N := (CP.copy (by omega) hN h).cells (fun k _ _ => ck_hi σ (by omega))
theorem ck_ne (σ : lt_S) {nx c a : Nat} (h1 : 46 ≤ a) (h2 : a < 46 + 5 * nx + 1 ∨ 46 + 5 * nx + 4 < a) : S_ckeep σ nx c a = σ a := by rw [ck_hi σ h1, S_copy_ne _ _ _ (by omega)]
theorem Rel.both {σ : lt_S} {n : Nat} {tx : Nat → Nat} {ln T N nx c : Nat} (h : Rel σ n tx ln T N nx c) {σ1 σ1' σ2 : lt_S} (w' : Nat → Int32) (hcc : CC σ1 w' ln T N) (hs : SameY (σ 77) w' N) (hfar : ∀ j, 65 ≤ j → w' j = σ 77 j) (hhi : ∀ a, 76 ≤ a → σ1 a = σ a) (hp0 : CP (46 + 5 * nx) σ1 (σ 77) N) (hp : ∀ a, 46 ≤ a → a < 76 → (a < 46 + 5 * nx + 1 ∨ 46 + 5 * nx + 4 < a) → σ1 a = σ a) (k1 : σ1 44 1 = nI (if nx = 5 then 0 else nx + 1)) (k2 : σ1 44 2 = nI (if c = 6 then 6 else c + 1)) (h11 : σ1 11 = σ 11) (h12 : σ1 12 = σ 12) (hsc : Scr σ1 σ1') (e2 : σ2 = lt_ur (S_keep σ1' c) 77 w') : RelE σ2 := by
  have lo : ∀ a, a < 76 → σ2 a = σ1 a := fun a ha => by rw [e2, lt_ur_ne _ _ (by omega), S_keep_ne _ _ (by omega) (by omega)]; exact hsc.1 a (by omega) (by omega) (by omega) (by omega) (by omega)
  have s77 : σ1' 77 = σ 77 := (hsc.1 77 (by decide) (by decide) (by decide) (by decide) (by decide)).trans (hhi 77 (by decide))
  have s79 : σ1' 79 = σ 79 := (hsc.1 79 (by decide) (by decide) (by decide) (by decide) (by decide)).trans (hhi 79 (by decide))
  have s80 : σ1' 80 = σ 80 := (hsc.1 80 (by decide) (by decide) (by decide) (by decide) (by decide)).trans (hhi 80 (by decide))
  obtain ⟨nx', c', r⟩ := h.change (σ' := σ2) w' (hcc.off (fun x hx => lo x (by omega))) hs hfar (by rw [e2, lt_ur_eq]) (hp0.cells (fun k _ k4 => lo _ (by have := h.2.1.2.1; omega))) (fun a a1 a2 a3 => (lo a a2).trans (hp a a1 a2 a3)) (by rw [lo 44 (by decide)]; exact k1) (by rw [lo 44 (by decide)]; exact k2) (by rw [e2, lt_ur_ne _ _ (by decide)]; exact S_keep_79 _ _ _ s77 s79) (by rw [e2, lt_ur_ne _ _ (by decide)]; exact S_keep_3 _ _) ((lo 11 (by decide)).trans h11) ((lo 12 (by decide)).trans h12) (by rw [e2, lt_ur_ne _ _ (by decide), S_keep_ne _ _ (by decide) (by decide)]; exact s80) (by rw [e2, lt_ur_ne _ _ (by decide), S_keep_k _ _ (by decide), hsc.2 5 (by decide) (by decide), hhi 76 (by decide)])
  exact ⟨n, tx, ln, T, N, nx', c', r⟩
theorem Rel.give {σ : lt_S} {n : Nat} {tx : Nat → Nat} {ln T N nx c : Nat} (h : Rel σ n tx ln T N nx c) (i b : Int32) : RelE (S_give (if ok_give (σ 77) i b && can_give (σ 77) (tN i) (tN b) then lt_up (S_ckeep σ nx c) 22 (tN i) b else σ) c i b) := by
  have hw := h.1.1
  have hN := hw.2.2.1
  have hT := hw.2.1
  have hx := h.2.1.2.1
  cases hb : ok_give (σ 77) i b && can_give (σ 77) (tN i) (tN b) with
  | false =>
    rw [if_neg (by decide)]
    unfold S_give
    rw [hb, if_neg (by decide)]
    exact ⟨n, tx, ln, T, N, nx, c, h⟩
  | true =>
    rw [if_pos rfl]
    have e77 : lt_up (S_ckeep σ nx c) 22 (tN i) b 77 = σ 77 := by rw [lt_up_nr _ _ _ (by decide), S_ckeep_ne σ (by omega) hx]
    have ec : (ok_give (lt_up (S_ckeep σ nx c) 22 (tN i) b 77) i b && can_give (lt_up (S_ckeep σ nx c) 22 (tN i) b 77) (tN i) (tN b)) = true := by rw [e77]; exact hb
    unfold S_give
    rw [if_pos ec]
    simp only [Bool.and_eq_true] at hb
    obtain ⟨hok, hcan⟩ := hb
    unfold ok_give at hok
    unfold can_give at hcan
    simp only [Bool.and_eq_true, decide_eq_true_eq] at hok hcan
    rw [hN.1, hT.1] at hok
    obtain ⟨j, hj, rfl⟩ := hasB_ix (by omega) hok.1
    obtain ⟨t, ht, rfl⟩ := hasB_ix (by omega) hok.2
    rw [tN_nI (by omega)] at *
    rw [tN_nI (by omega)] at hcan
    have hw' : Wf (upd (σ 77) (16 + 7 * j + 6) (nI t)) ln T N := hw.upd6 hj (Or.inr ⟨t, ht, rfl, pf_why_fit hcan.2⟩)
    refine h.both (σ1 := lt_up (S_ckeep σ nx c) 22 j (nI t)) (σ1' := lt_up (S_ckeep σ nx c) 22 j (nI t)) (upd (σ 77) (16 + 7 * j + 6) (nI t)) (h.1.put6 hj hw' (fun x hx2 => S_ckeep_ne σ (by omega) hx)) (SameY.upd _ N j 6 _ (by omega)) (fun q hq => pk_un (by omega)) (fun a ha => by rw [lt_up_nr _ _ _ (by omega), S_ckeep_ne σ (by omega) hx]) ((ck_cp hN.2 h.1.2.2.1).cells (fun k _ _ => lt_up_nr _ _ _ (by omega))) (fun a a1 a2 a3 => by rw [lt_up_nr _ _ _ (by omega)]; exact ck_ne σ a1 a3) (by rw [lt_up_nr _ _ _ (by decide)]; exact ck_1 _ _ _) (by rw [lt_up_nr _ _ _ (by decide)]; exact ck_2 _ _ _) (by rw [lt_up_nr _ _ _ (by decide), S_ckeep_ne σ (by omega) hx]) (by rw [lt_up_nr _ _ _ (by decide), S_ckeep_ne σ (by omega) hx]) (Scr.rf _) ?_
    rw [lt_up_ur, S_keep_ne _ _ (by decide) (by decide), e77]
theorem Rel.take {σ : lt_S} {n : Nat} {tx : Nat → Nat} {ln T N nx c : Nat} (h : Rel σ n tx ln T N nx c) (i : Int32) : RelE (S_take (if hasB i (σ 77 2) && !decide (σ 77 (16 + 7 * tN i + 6) = -4) then lt_up (S_ckeep σ nx c) 22 (tN i) (-4) else σ) c i) := by
  have hw := h.1.1
  have hN := hw.2.2.1
  have hT := hw.2.1
  have hx := h.2.1.2.1
  cases hb : hasB i (σ 77 2) && !decide (σ 77 (16 + 7 * tN i + 6) = -4) with
  | false =>
    rw [if_neg (by decide)]
    unfold S_take
    rw [hb, if_neg (by decide)]
    exact ⟨n, tx, ln, T, N, nx, c, h⟩
  | true =>
    rw [if_pos rfl]
    have e77 : lt_up (S_ckeep σ nx c) 22 (tN i) (-4) 77 = σ 77 := by rw [lt_up_nr _ _ _ (by decide), S_ckeep_ne σ (by omega) hx]
    have ec : (hasB i (lt_up (S_ckeep σ nx c) 22 (tN i) (-4) 77 2) && !decide (lt_up (S_ckeep σ nx c) 22 (tN i) (-4) 77 (16 + 7 * tN i + 6) = -4)) = true := by rw [e77]; exact hb
    unfold S_take
    rw [if_pos ec]
    simp only [Bool.and_eq_true] at hb
    have hok := hb.1
    rw [hN.1] at hok
    obtain ⟨j, hj, rfl⟩ := hasB_ix (by omega) hok
    rw [tN_nI (by omega)] at *
    have hw' : Wf (upd (σ 77) (16 + 7 * j + 6) (-4)) ln T N := hw.upd6 hj (Or.inl rfl)
    refine h.both (σ1 := lt_up (S_ckeep σ nx c) 22 j (-4)) (σ1' := lt_up (S_ckeep σ nx c) 22 j (-4)) (upd (σ 77) (16 + 7 * j + 6) (-4)) (h.1.put6 hj hw' (fun x hx2 => S_ckeep_ne σ (by omega) hx)) (SameY.upd _ N j 6 _ (by omega)) (fun q hq => pk_un (by omega)) (fun a ha => by rw [lt_up_nr _ _ _ (by omega), S_ckeep_ne σ (by omega) hx]) ((ck_cp hN.2 h.1.2.2.1).cells (fun k _ _ => lt_up_nr _ _ _ (by omega))) (fun a a1 a2 a3 => by rw [lt_up_nr _ _ _ (by omega)]; exact ck_ne σ a1 a3) (by rw [lt_up_nr _ _ _ (by decide)]; exact ck_1 _ _ _) (by rw [lt_up_nr _ _ _ (by decide)]; exact ck_2 _ _ _) (by rw [lt_up_nr _ _ _ (by decide), S_ckeep_ne σ (by omega) hx]) (by rw [lt_up_nr _ _ _ (by decide), S_ckeep_ne σ (by omega) hx]) (Scr.rf _) ?_
    rw [lt_up_ur, S_keep_ne _ _ (by decide) (by decide), e77]
theorem Rel.wish {σ : lt_S} {n : Nat} {tx : Nat → Nat} {ln T N nx c : Nat} (h : Rel σ n tx ln T N nx c) (i x : Int32) : RelE (S_wish (if ok_wish (σ 77) i x && !decide (σ 77 (16 + 7 * tN i + 4) = (if x = nI 9 then -4 else x)) then lt_up (S_ckeep σ nx c) 21 (tN i) x else σ) c i x) := by
  have hw := h.1.1
  have hN := hw.2.2.1
  have hT := hw.2.1
  have hx := h.2.1.2.1
  cases hb : ok_wish (σ 77) i x && !decide (σ 77 (16 + 7 * tN i + 4) = (if x = nI 9 then -4 else x)) with
  | false =>
    rw [if_neg (by decide)]
    unfold S_wish
    rw [hb, if_neg (by decide)]
    exact ⟨n, tx, ln, T, N, nx, c, h⟩
  | true =>
    rw [if_pos rfl]
    have e77 : lt_up (S_ckeep σ nx c) 21 (tN i) x 77 = σ 77 := by rw [lt_up_nr _ _ _ (by decide), S_ckeep_ne σ (by omega) hx]
    have ec : (ok_wish (lt_up (S_ckeep σ nx c) 21 (tN i) x 77) i x && !decide (lt_up (S_ckeep σ nx c) 21 (tN i) x 77 (16 + 7 * tN i + 4) = (if x = nI 9 then -4 else x))) = true := by rw [e77]; exact hb
    unfold S_wish
    rw [if_pos ec]
    rw [Bool.and_eq_true] at hb
    have hok := hb.1
    unfold ok_wish at hok
    simp only [Bool.and_eq_true, Bool.or_eq_true, decide_eq_true_eq] at hok
    rw [hN.1, hT.1] at hok
    obtain ⟨j, hj, rfl⟩ := hasB_ix (by omega) hok.1
    have hv : x = nI 9 ∨ ∃ t, t < T ∧ x = nI t := by
      rcases hok.2 with e | e
      · exact Or.inl e
      · exact Or.inr (hasB_ix (by omega) e)
    rw [tN_nI (by omega)] at *
    have hw' : Wf (upd (σ 77) (16 + 7 * j + 4) (if x = nI 9 then -4 else x)) ln T N := hw.upd4 hj (by
      rcases hv with rfl | ⟨t, ht, rfl⟩
      · exact Or.inl rfl
      · refine Or.inr ⟨t, ht, if_neg (fun q => by have := (nI_eq (by omega) (by decide)).mp q; omega)⟩)
    refine h.both (σ1 := lt_up (S_ckeep σ nx c) 21 j x) (σ1' := lt_up (S_ckeep σ nx c) 21 j x) (upd (σ 77) (16 + 7 * j + 4) (if x = nI 9 then -4 else x)) (h.1.put4 hj hv hw' (fun x hx2 => S_ckeep_ne σ (by omega) hx)) (SameY.upd _ N j 4 _ (by omega)) (fun q hq => pk_un (by omega)) (fun a ha => by rw [lt_up_nr _ _ _ (by omega), S_ckeep_ne σ (by omega) hx]) ((ck_cp hN.2 h.1.2.2.1).cells (fun k _ _ => lt_up_nr _ _ _ (by omega))) (fun a a1 a2 a3 => by rw [lt_up_nr _ _ _ (by omega)]; exact ck_ne σ a1 a3) (by rw [lt_up_nr _ _ _ (by decide)]; exact ck_1 _ _ _) (by rw [lt_up_nr _ _ _ (by decide)]; exact ck_2 _ _ _) (by rw [lt_up_nr _ _ _ (by decide), S_ckeep_ne σ (by omega) hx]) (by rw [lt_up_nr _ _ _ (by decide), S_ckeep_ne σ (by omega) hx]) (Scr.rf _) ?_
    rw [lt_up_ur, S_keep_ne _ _ (by decide) (by decide), e77]
