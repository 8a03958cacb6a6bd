/-! the class: the search -/
def ocN (w : Nat → Int32) (law : Int32) (i o : Nat) : Nat := (if o = 4 then 8 else 0) + (if likeB w law i o then 0 else 1)
def costM (w : Nat → Int32) (law : Int32) (f : Nat → Nat) (m : Nat) : Nat := 8 * noneN f m + (m - likeN w law f m)
theorem costM_s (w : Nat → Int32) (law : Int32) (f : Nat → Nat) (m : Nat) : costM w law f (m + 1) = costM w law f m + ocN w law m (f m) := by
  unfold costM ocN noneN likeN
  have h := sumF_le (fun i => likeB w law i (f i)) m
  simp only [sumF, decide_eq_true_eq]
  generalize sumF (fun i => decide (f i = 4)) m = a at *
  generalize sumF (fun i => likeB w law i (f i)) m = b at *
  by_cases h1 : f m = 4
  · rw [if_pos h1, if_pos h1]
    by_cases h2 : likeB w law m (f m) = true
    · rw [if_pos h2, if_pos h2]; omega
    · rw [if_neg h2, if_neg h2]; omega
  · rw [if_neg h1, if_neg h1]
    by_cases h2 : likeB w law m (f m) = true
    · rw [if_pos h2, if_pos h2]; omega
    · rw [if_neg h2, if_neg h2]; omega
theorem ocN_le (w : Nat → Int32) (law : Int32) (i o : Nat) : ocN w law i o ≤ 9 := by
  unfold ocN
  split <;> split <;> omega
theorem costM_le (w : Nat → Int32) (law : Int32) (f : Nat → Nat) : ∀ m, costM w law f m ≤ 9 * m
  | 0 => by simp [costM, noneN, sumF]
  | m + 1 => by
    rw [costM_s]
    have := costM_le w law f m
    have := ocN_le w law m (f m)
    omega
theorem costM_congr {w : Nat → Int32} {law : Int32} {f g : Nat → Nat} {m : Nat} (h : ∀ j, j < m → f j = g j) : costM w law f m = costM w law g m := by
  unfold costM
  rw [noneN_congr h, likeN_congr h]
def cstN (w : Nat → Int32) (law nt : Int32) (T i o : Nat) : Nat := if canB w nt T i o then ocN w law i o else 1000
def mnN (w : Nat → Int32) (law nt : Int32) (T i : Nat) : Nat → Nat
  | 0 => ocN w law i 4
  | k + 1 => min (mnN w law nt T i k) (cstN w law nt T i k)
theorem mnN_le4 (w : Nat → Int32) (law nt : Int32) (T i : Nat) : ∀ k, mnN w law nt T i k ≤ ocN w law i 4
  | 0 => Nat.le_refl _
  | k + 1 => Nat.le_trans (Nat.min_le_left _ _) (mnN_le4 w law nt T i k)
theorem mnN_le {w : Nat → Int32} {law nt : Int32} {T i o : Nat} : ∀ {k : Nat}, o < k → mnN w law nt T i k ≤ cstN w law nt T i o
  | 0, h => absurd h (by omega)
  | k + 1, h => by
    by_cases e : o = k
    · subst e; exact Nat.min_le_right _ _
    · exact Nat.le_trans (Nat.min_le_left _ _) (mnN_le (k := k) (by omega))
def alN (w : Nat → Int32) (law nt : Int32) (T N : Nat) : Nat → Nat
  | 0 => 0
  | n + 1 => alN w law nt T N n + mnN w law nt T (N - (n + 1)) T
theorem alN_le (w : Nat → Int32) (law nt : Int32) (T N : Nat) : ∀ n, alN w law nt T N n ≤ 9 * n
  | 0 => Nat.le_refl _
  | n + 1 => by
    have h1 := alN_le w law nt T N n
    have h2 := mnN_le4 w law nt T (N - (n + 1)) T
    have h3 := ocN_le w law (N - (n + 1)) 4
    simp only [alN]
    omega
theorem alN_lb {w : Nat → Int32} {law nt : Int32} {T N : Nat} (g : Nat → Nat) : ∀ (n m : Nat), m + n = N → (∀ i, m ≤ i → i < N → lgB w nt T g i (g i) = true) → costM w law g m + alN w law nt T N n ≤ costM w law g N
  | 0, m, h, _ => by
    have : m = N := by omega
    subst this
    exact Nat.le_refl _
  | n + 1, m, h, hl => by
    have h1 := alN_lb (law := law) g n (m + 1) (by omega) (fun i h1 h2 => hl i (by omega) h2)
    rw [costM_s] at h1
    simp only [alN]
    rw [show N - (n + 1) = m by omega]
    have h2 : mnN w law nt T m T ≤ ocN w law m (g m) := by
      have hm := hl m (Nat.le_refl _) (by omega)
      by_cases e : g m = 4
      · rw [e]; exact mnN_le4 w law nt T m T
      · unfold lgB at hm
        simp only [e, decide_false, Bool.false_or, Bool.and_eq_true] at hm
        have ht : g m < T := by
          have := hm.1
          unfold canB at this
          simp only [Bool.and_eq_true, decide_eq_true_eq] at this
          exact this.1
        have := mnN_le (w := w) (law := law) (nt := nt) (T := T) (i := m) ht
        unfold cstN at this
        rw [if_pos hm.1] at this
        exact this
    omega
theorem costN_M (w : Nat → Int32) (law : Int32) (N : Nat) (f : Nat → Nat) : costN w law N f = costM w law f N := rfl
def BC (w : Nat → Int32) (law : Int32) (N : Nat) (σ : lt_S) (b : sBest) : Prop := match b with
  | none => σ 39 7 = nI 1000
  | some q => σ 39 7 = nI q.1 ∧ q.1 < 1000 ∧ ∀ j, j < N → σ 43 j = asT (q.2 j) ∧ q.2 j < 5
theorem BC.nums {w : Nat → Int32} {law : Int32} {N : Nat} {σ : lt_S} {b : sBest} (h : BC w law N σ b) : ∃ lc, σ 39 7 = nI lc ∧ lc ≤ 1000 ∧ ∀ c, c < 1000 → (sLess c b = true ↔ c < lc) := by
  cases b with
  | none => exact ⟨1000, h, Nat.le_refl _, fun c hc => ⟨fun _ => hc, fun _ => rfl⟩⟩
  | some q => exact ⟨q.1, h.1, by have := h.2.1; omega, fun c hc => by simp [sLess]⟩
theorem BC.same {w : Nat → Int32} {law : Int32} {N : Nat} {σ σ' : lt_S} {b : sBest} (h : BC w law N σ b) (h1 : σ' 39 = σ 39) (h2 : σ' 43 = σ 43) : BC w law N σ' b := by
  cases b with
  | none => exact (congrFun h1 7).trans h
  | some q => exact ⟨(congrFun h1 7).trans h.1, h.2.1, fun j hj => by rw [h2]; exact h.2.2 j hj⟩
def CK (σ : lt_S) (w : Nat → Int32) (law nt : Int32) (T N : Nat) : Prop := ∀ i, i < N → (∀ o, o < T → σ 40 (i * 5 + o) = nI (cstN w law nt T i o)) ∧ σ 40 (i * 5 + 4) = nI (ocN w law i 4)
def CL (σ : lt_S) (w : Nat → Int32) (law nt : Int32) (T N : Nat) : Prop := ∀ m n, m + n = N → σ 41 m = nI (alN w law nt T N n)
def SVc (σ0 σ : lt_S) : Prop := (∀ a, a ≠ 39 → a ≠ 42 → a ≠ 43 → σ a = σ0 a) ∧ ∀ k, k ≠ 7 → σ 39 k = σ0 39 k
theorem SVc.rf (σ : lt_S) : SVc σ σ := ⟨fun _ _ _ _ => rfl, fun _ _ => rfl⟩
theorem SVc.tr {σ0 σ1 σ2 : lt_S} (h : SVc σ0 σ1) (h2 : SVc σ1 σ2) : SVc σ0 σ2 := ⟨fun a a1 a2 a3 => (h2.1 a a1 a2 a3).trans (h.1 a a1 a2 a3), fun k hk => (h2.2 k hk).trans (h.2 k hk)⟩
theorem SVc.trial (σ : lt_S) (k : Nat) (x : Int32) : SVc σ (lt_up σ 42 k x) := ⟨fun a h1 h2 h3 => lt_up_nr _ _ _ h2, fun j h1 => rfl⟩
def SBok (f : Nat → Nat) (m : Nat) (sb : Int32) : Prop := ∀ b, b < 32 → bt sb b = (decide (b / 4 < m) && decide (f (b / 4) = b % 4))
theorem SBok.s {f : Nat → Nat} {m o : Nat} {sb : Int32} (h : SBok f m sb) (hm : m < 7) (ho : o < 4) : SBok (upN f m o) (m + 1) (sb ||| nI 1 <<< (nI (m * 4 + o) &&& 31)) := by
  intro b hb
  rw [b_or, h b hb, bt_one (by omega) hb]
  by_cases h1 : b / 4 < m
  · rw [upN_lt h1]
    have e1 : decide (m * 4 + o = b) = false := decide_eq_false (by omega)
    have e2 : decide (b / 4 < m + 1) = true := decide_eq_true (by omega)
    rw [e1, e2, decide_eq_true h1, Bool.or_false]
  · by_cases h2 : b / 4 = m
    · rw [decide_eq_false h1, h2, upN_eq, Bool.false_and, Bool.false_or, decide_eq_true (show m < m + 1 by omega), Bool.true_and, decide_eq_decide]
      omega
    · have e1 : decide (m * 4 + o = b) = false := decide_eq_false (by omega)
      have e2 : decide (b / 4 < m + 1) = false := decide_eq_false (by omega)
      rw [e1, e2, decide_eq_false h1]
      rfl
theorem SBok.n {f : Nat → Nat} {m : Nat} {sb : Int32} (h : SBok f m sb) : SBok (upN f m 4) (m + 1) sb := by
  intro b hb
  rw [h b hb]
  by_cases h1 : b / 4 < m
  · rw [upN_lt h1]
    have e2 : decide (b / 4 < m + 1) = true := decide_eq_true (by omega)
    rw [e2, decide_eq_true h1]
  · by_cases h2 : b / 4 = m
    · have e : decide ((4 : Nat) = b % 4) = false := decide_eq_false (by omega)
      rw [decide_eq_false h1, h2, upN_eq, e]
      simp
    · have e2 : decide (b / 4 < m + 1) = false := decide_eq_false (by omega)
      rw [e2, decide_eq_false h1]
      rfl
theorem bt_eq0 {x : Int32} : x = 0 ↔ ∀ b, b < 32 → bt x b = false := by
  constructor
  · intro h b _
    rw [h]
    exact b_0 b
  · intro h
    exact b_ext (fun i hi => by rw [h i hi, b_0])
theorem or_and0 (a b c : Int32) : (a ||| b) &&& c = 0 ↔ a &&& c = 0 ∧ b &&& c = 0 := by
  rw [bt_eq0, bt_eq0, bt_eq0]
  constructor
  · intro h
    refine ⟨fun i hi => ?_, fun i hi => ?_⟩
    · have := h i hi
      rw [b_and, b_or] at this
      rw [b_and]
      cases h1 : bt a i <;> cases h2 : bt c i <;> simp_all
    · have := h i hi
      rw [b_and, b_or] at this
      rw [b_and]
      cases h1 : bt b i <;> cases h2 : bt c i <;> simp_all
  · rintro ⟨h1, h2⟩ i hi
    have a1 := h1 i hi
    have a2 := h2 i hi
    rw [b_and] at a1 a2
    rw [b_and, b_or]
    cases h3 : bt c i <;> simp_all
theorem canB_lt {w : Nat → Int32} {nt : Int32} {T i t : Nat} (h : canB w nt T i t = true) : t < T ∧ pf_fit w i t = true := by
  unfold canB at h
  simp only [Bool.and_eq_true, decide_eq_true_eq] at h
  exact ⟨h.1, h.2.1⟩
def Okp (w : Nat → Int32) (nt : Int32) (T : Nat) (f : Nat → Nat) (m : Nat) : Prop := ∀ j, j < m → f j = 4 ∨ canB w nt T j (f j) = true
theorem seat_lg {w : Nat → Int32} {nt : Int32} {T N m o : Nat} (hT : T ≤ 4) (hN : N ≤ 7) (hm : m < N) {f : Nat → Nat} {sb : Int32} (hs : SBok f m sb) (hf : Okp w nt T f m) (hc : canB w nt T m o = true) : agF w T N m o &&& sb = 0 ↔ lgB w nt T f m o = true := by
  have ho := canB_lt hc
  unfold lgB
  rw [hc, decide_eq_false (show ¬ o = 4 by omega), Bool.false_or, Bool.true_and, allB_iff, bt_eq0]
  constructor
  · intro h j hj
    rcases hf j hj with e | e
    · rw [e]; rfl
    · have hj2 := canB_lt e
      have h1 := h (j * 4 + f j) (by omega)
      rw [b_and, hs (j * 4 + f j) (by omega), show (j * 4 + f j) / 4 = j by omega, show (j * 4 + f j) % 4 = f j by omega, decide_eq_true hj, decide_eq_true rfl, Bool.and_self, Bool.and_true, bt_ag hT hN (by omega) hj2.1] at h1
      unfold agB at h1
      rw [decide_eq_false (show ¬ j = m by omega), Bool.not_false, Bool.true_and] at h1
      unfold kindF at h1
      rw [ho.2, hj2.2, Bool.and_self, if_pos rfl] at h1
      unfold clB
      rw [hc, e, Bool.true_and, Bool.true_and]
      have : ¬ 0 < pf_kind w m o j (f j) := by
        simp only [Bool.not_eq_false', decide_eq_true_eq] at h1
        omega
      rw [decide_eq_false this]
      simp
  · intro h b hb
    rw [b_and, hs b hb]
    by_cases h1 : b / 4 < m
    · by_cases h2 : f (b / 4) = b % 4
      · have h3 := h (b / 4) h1
        have e4 : ¬ f (b / 4) = 4 := by omega
        rw [decide_eq_false e4, Bool.false_or] at h3
        rcases hf (b / 4) h1 with e | e
        · exact absurd e e4
        · have hj2 := canB_lt e
          unfold clB at h3
          rw [hc, e, Bool.true_and, Bool.true_and] at h3
          have h5 := bt_ag (w := w) (i := m) (t := o) (j := b / 4) (o := b % 4) hT hN (by omega) (by omega)
          rw [show b / 4 * 4 + b % 4 = b by omega] at h5
          rw [h5]
          unfold agB kindF
          rw [← h2, ho.2, hj2.2, Bool.and_self, if_pos rfl]
          have : pf_kind w m o (b / 4) (f (b / 4)) = 0 := by
            simp only [Bool.not_eq_true', decide_eq_false_iff_not] at h3
            omega
          rw [this]
          simp
      · rw [decide_eq_false h2]; simp
    · rw [decide_eq_false h1]; simp
theorem exO_T {w : Nat → Int32} {nt : Int32} {T m : Nat} {f : Nat → Nat} (rec : (Nat → Nat) → sBest → sBest) : ∀ (k : Nat), k + T ≤ 4 → ∀ b, exO rec (lgB w nt T) m f (k + 1) b = rec (upN f m 4) b
  | 0, _, b => by
    simp only [exO]
    rw [if_pos (by simp [lgB])]
  | k + 1, h, b => by
    have e : lgB w nt T f m (4 - (k + 1)) = false := by
      unfold lgB canB
      rw [decide_eq_false (show ¬ 4 - (k + 1) = 4 by omega), decide_eq_false (show ¬ 4 - (k + 1) < T by omega)]
      rfl
    rw [show exO rec (lgB w nt T) m f (k + 1 + 1) b = exO rec (lgB w nt T) m f (k + 1) (if lgB w nt T f m (4 - (k + 1)) then rec (upN f m (4 - (k + 1))) b else b) from rfl, e]
    exact exO_T rec k (by omega) b
def aimV (w : Nat → Int32) (law : Int32) (i : Nat) : Int32 := if law = 0 then (if w (16 + 7 * i + 4) = -4 then nI 9 else w (16 + 7 * i + 4)) else w (16 + 7 * i + 6)
theorem aimEq {w : Nat → Int32} {ln T N i : Nat} (hw : Wf w ln T N) (hi : i < N) (law : Int32) {o : Nat} (ho : o < 5) : aimV w law i = asT o ↔ likeB w law i o = true := by
  have hT := hw.2.1
  have hv := (hw.2.2.2.2 i hi).2.2.2.1
  unfold aimV likeB
  have ha : asT o = -4 ∨ ∃ t, t < 5 ∧ asT o = nI t := by
    unfold asT
    split
    · exact Or.inl rfl
    · exact Or.inr ⟨o, ho, rfl⟩
  split
  · rw [← wishEq ha (v := w (16 + 7 * i + 4)) (by
      rcases hv with e | ⟨u, hu, e⟩
      · exact Or.inl e
      · exact Or.inr ⟨u, by omega, e⟩), decide_eq_true_eq]
    exact eq_comm
  · rw [decide_eq_true_eq]
    exact eq_comm
theorem R_c_costOf (l : lt_L) (d : Nat) (sh : lt_H) (σ : lt_S) (a b : Int32) : lt_T l (d + 1) mX4_costOf sh σ [.int a, .int b] (some (nI (if a = b then 0 else 1))) σ := by
  refine lt_T.of [some (.int a), some (.int b)] rfl rfl (Nat.le_of_ble_eq_true rfl) ?_
  refine g_il0 (pc2 := 1) dX4_costOf_0 rfl ?_
  refine g_il1 (pc2 := 2) dX4_costOf_1 rfl ?_
  refine g_icmp_ne 9 5 dX4_costOf_2 rfl rfl (fun h2 => ?_) (fun h2 => ?_)
  · refine g_iconst (pc2 := 10) dX4_costOf_9 k_iconst_1 rfl ?_
    exact g_iretT dX4_costOf_10 rfl (Nat.le_refl _) (Nat.le_refl _) (by first | (rw [if_pos h2]) | (rw [if_neg h2])) (rfl)
  · refine g_iconst (pc2 := 6) dX4_costOf_5 k_iconst_0 rfl ?_
    refine g_goto 10 dX4_costOf_6 rfl ?_
    exact g_iretT dX4_costOf_10 rfl (Nat.le_refl _) (Nat.le_refl _) (by first | (rw [if_pos h2]) | (rw [if_neg h2])) (rfl)
theorem oc_aim {w : Nat → Int32} {ln T N i : Nat} (hw : Wf w ln T N) (hi : i < N) (law : Int32) {o : Nat} (ho : o < 4) : (if aimV w law i = nI o then 0 else 1) = ocN w law i o := by
  have h := aimEq hw hi law (show o < 5 by omega)
  rw [show asT o = nI o from if_neg (by omega)] at h
  unfold ocN
  rw [if_neg (show ¬ o = 4 by omega), Nat.zero_add]
  by_cases e : aimV w law i = nI o
  · rw [if_pos e, if_pos (h.mp e)]
  · rw [if_neg e, if_neg (fun q => e (h.mpr q))]
theorem oc_aim4 {w : Nat → Int32} {ln T N i : Nat} (hw : Wf w ln T N) (hi : i < N) (law : Int32) : 8 + (if aimV w law i = -4 then 0 else 1) = ocN w law i 4 := by
  have h := aimEq hw hi law (show 4 < 5 by omega)
  rw [show asT 4 = -4 from rfl] at h
  unfold ocN
  rw [if_pos rfl]
  by_cases e : aimV w law i = -4
  · rw [if_pos e, if_pos (h.mp e)]
  · rw [if_neg e, if_neg (fun q => e (h.mpr q))]
theorem CC.off {σ σ' : lt_S} {w : Nat → Int32} {ln T N : Nat} (h : CC σ w ln T N) (he : ∀ x, x < 39 → σ' x = σ x) : CC σ' w ln T N := by
  refine ⟨h.1, ?_, ?_, ?_⟩
  · have h2 := h.2.1
    unfold CY at h2 ⊢
    rw [he 13 (by decide), he 14 (by decide), he 15 (by decide), he 16 (by decide), he 17 (by decide)]
    exact h2
  · have h2 := h.2.2.1
    unfold CP at h2 ⊢
    rw [he 19 (by decide), he 20 (by decide), he 21 (by decide), he 22 (by decide)]
    exact h2
  · have h2 := h.2.2.2
    unfold CA at h2 ⊢
    rw [he 38 (by decide)]
    exact h2
theorem R_c_weigh (l : lt_L) (d : Nat) (t : lt_H) (σ : lt_S) {w : Nat → Int32} {ln T N : Nat} (hc : CC σ w ln T N) (law nt : Int32) : lt_R l (d + 3) 0 0 mX4_weigh (lt_SC ++ t) σ [.ref 39, .int law, .int nt] (fun r sh' σ' => r = none ∧ sh' = lt_SC ++ t ∧ (∀ a, a ≠ 40 → σ' a = σ a) ∧ CK σ' w law nt T N) := by
  refine lt_R.of [some (.ref 39), some (.int law), some (.int nt), none, none, none, none] rfl rfl (Nat.le_of_ble_eq_true rfl) ?_
  have hw := hc.1
  have hN := hw.2.2.1
  have hT := hw.2.1
  have key : ∀ k, k ≤ N → ∀ (σ1 : lt_S) (z4 z5 z6 : Option Value), (∀ a, a ≠ 40 → σ1 a = σ a) → CK σ1 w law nt T k → lt_G l (d + 3) 0 0 mX4_weigh 0 0 (lt_SC ++ t) σ1 2 [some (.ref 39), some (.int law), some (.int nt), some (.int (nI k)), z4, z5, z6] [] (fun r sh' σ' => r = none ∧ sh' = lt_SC ++ t ∧ (∀ a, a ≠ 40 → σ' a = σ a) ∧ CK σ' w law nt T N) := by
    refine lt_dn N ?_ ?_
    · intro σ1 z4 z5 z6 h1 h2
      have e2 : σ1 13 2 = nI N := by rw [h1 13 (by decide)]; exact hc.2.1.1.2.2.1.trans hN.1
      refine g_il3 (pc2 := 3) dX4_weigh_2 rfl ?_
      refine g_al0 (pc2 := 4) dX4_weigh_3 rfl ?_
      refine g_getr (pc2 := 7) (by rfl) (by rfl) flX4_28 dX4_weigh_4 rfl ?_
      refine g_geti (pc2 := 10) (by rfl) (by rfl) flX4_47 dX4_weigh_7 rfl ?_
      rw [e2]
      refine g_icmpN_ge 162 13 dX4_weigh_10 rfl rfl (by omega) (by omega) (fun h10 => ?_) (fun h10 => ?_)
      · exact g_ret dX4_weigh_162 rfl (Nat.le_refl _) (Nat.le_refl _) ⟨rfl, rfl, h1, h2⟩
      · omega
    · intro k hk ih σ1 z4 z5 z6 h1 h2
      have key2 : ∀ o, o ≤ T → ∀ (σ1 : lt_S) (z6 : Option Value), (∀ a, a ≠ 40 → σ1 a = σ a) → CK σ1 w law nt T k → (∀ u, u < o → σ1 40 (k * 5 + u) = nI (cstN w law nt T k u)) → lt_G l (d + 3) 0 0 mX4_weigh 0 0 (lt_SC ++ t) σ1 43 [some (.ref 39), some (.int law), some (.int nt), some (.int (nI k)), some (.int (aimV w law k)), some (.int (nI o)), z6] [] (fun r sh' σ' => r = none ∧ sh' = lt_SC ++ t ∧ (∀ a, a ≠ 40 → σ' a = σ a) ∧ CK σ' w law nt T N) := by
        refine lt_dn T ?_ ?_
        · intro σ1 z6 h1 h2 h3
          have e1 : σ1 13 1 = nI T := by rw [h1 13 (by decide)]; exact hc.2.1.1.2.1.trans hT.1
          refine g_il5 (pc2 := 45) dX4_weigh_43 rfl ?_
          refine g_al0 (pc2 := 46) dX4_weigh_45 rfl ?_
          refine g_getr (pc2 := 49) (by rfl) (by rfl) flX4_28 dX4_weigh_46 rfl ?_
          refine g_geti (pc2 := 52) (by rfl) (by rfl) flX4_60 dX4_weigh_49 rfl ?_
          rw [e1]
          refine g_icmpN_ge 136 55 dX4_weigh_52 rfl rfl (by omega) (by omega) (fun h52 => ?_) (fun h52 => ?_)
          · refine g_al0 (pc2 := 137) dX4_weigh_136 rfl ?_
            refine g_getr (pc2 := 140) (by rfl) (by rfl) flX4_11 dX4_weigh_137 rfl ?_
            refine g_il3 (pc2 := 141) dX4_weigh_140 rfl ?_
            refine g_iconst (pc2 := 142) dX4_weigh_141 k_iconst_5 rfl ?_
            refine g_imulN (pc2 := 143) dX4_weigh_142 rfl ?_
            refine g_iconst (pc2 := 144) dX4_weigh_143 k_iconst_4 rfl ?_
            refine g_iaddN (pc2 := 145) dX4_weigh_144 rfl ?_
            refine g_bipush (pc2 := 147) dX4_weigh_145 k_bipush_8 rfl ?_
            refine g_il4 (pc2 := 149) dX4_weigh_147 rfl ?_
            refine g_bipush (pc2 := 151) dX4_weigh_149 k_bipush_m4 rfl ?_
            refine g_cSi (pc2 := 154) (R_c_costOf l (d + 1) _ _ _ _) meX4_costOf mlX4_74 rfl rfl (by simp) ⟨Nat.le_refl _, Nat.le_refl _⟩ dX4_weigh_151 rfl ?_
            refine g_iaddN (pc2 := 155) dX4_weigh_154 rfl ?_
            refine g_iast (pc2 := 156) (by rfl) (by omega) (by decide) dX4_weigh_155 rfl ?_
            refine g_in3 (pc2 := 159) dX4_weigh_156 (nI_inc _) (by decide) rfl ?_
            refine g_goto 2 dX4_weigh_159 rfl ?_
            refine ih _ _ _ _ (fun a ha => (lt_up_nr _ _ _ ha).trans (h1 a ha)) (fun i hi => ?_)
            by_cases e : i = k
            · subst e
              refine ⟨fun o ho => by rw [lt_up_ne _ _ _ (by omega)]; exact h3 o ho, ?_⟩
              rw [lt_up_at, oc_aim4 hw hk law]
            · refine ⟨fun o ho => by rw [lt_up_ne _ _ _ (by omega)]; exact (h2 i (by omega)).1 o ho, by rw [lt_up_ne _ _ _ (by omega)]; exact (h2 i (by omega)).2⟩
          · omega
        · intro o ho ih2 σ1 z6 h1 h2 h3
          have e1 : σ1 13 1 = nI T := by rw [h1 13 (by decide)]; exact hc.2.1.1.2.1.trans hT.1
          have hc1 := (CC.off hc (fun x hx => h1 x (by omega))).2.1
          have hl := hw.ln hk
          have fin : ∀ (v : Int32) (z6 : Option Value), v = nI (cstN w law nt T k o) → lt_G l (d + 3) 0 0 mX4_weigh 0 0 (lt_SC ++ t) (lt_up σ1 40 (k * 5 + o) v) 43 [some (.ref 39), some (.int law), some (.int nt), some (.int (nI k)), some (.int (aimV w law k)), some (.int (nI (o + 1))), z6] [] (fun r sh' σ' => r = none ∧ sh' = lt_SC ++ t ∧ (∀ a, a ≠ 40 → σ' a = σ a) ∧ CK σ' w law nt T N) := by
            intro v z6 hv
            refine ih2 _ _ (fun a ha => (lt_up_nr _ _ _ ha).trans (h1 a ha)) (fun i hi => ⟨fun o' ho' => by rw [lt_up_ne _ _ _ (by omega)]; exact (h2 i hi).1 o' ho', by rw [lt_up_ne _ _ _ (by omega)]; exact (h2 i hi).2⟩) (fun u hu => ?_)
            by_cases e : u = o
            · subst e; rw [lt_up_at]; exact hv
            · rw [lt_up_ne _ _ _ (by omega)]; exact h3 u (by omega)
          have hcan : canB w nt T k o = (pf_fit w k o && decide ((pf_in w k o ||| pf_out w k o) &&& nt = 0)) := by
            unfold canB
            rw [decide_eq_true ho, Bool.true_and, ← Bool.decide_and, decide_eq_decide.mpr (or_and0 (pf_in w k o) (pf_out w k o) nt)]
          refine g_il5 (pc2 := 45) dX4_weigh_43 rfl ?_
          refine g_al0 (pc2 := 46) dX4_weigh_45 rfl ?_
          refine g_getr (pc2 := 49) (by rfl) (by rfl) flX4_28 dX4_weigh_46 rfl ?_
          refine g_geti (pc2 := 52) (by rfl) (by rfl) flX4_60 dX4_weigh_49 rfl ?_
          rw [e1]
          refine g_icmpN_ge 136 55 dX4_weigh_52 rfl rfl (by omega) (by omega) (fun h52 => ?_) (fun h52 => ?_)
          · omega
          · refine g_al0 (pc2 := 56) dX4_weigh_55 rfl ?_
            refine g_getr (pc2 := 59) (by rfl) (by rfl) flX4_28 dX4_weigh_56 rfl ?_
            refine g_il3 (pc2 := 60) dX4_weigh_59 rfl ?_
            refine g_il5 (pc2 := 62) dX4_weigh_60 rfl ?_
            refine g_cVi (pc2 := 65) (R_c_fits l d _ _ hc1 _ _ hk hl (by omega)) meX6_fits mlX4_63 (by rfl) ⟨_, rfl, rfl⟩ rfl rfl (by simp) ⟨Nat.le_refl _, Nat.le_refl _⟩ dX4_weigh_62 rfl ?_
            refine g_if_eqB 98 68 dX4_weigh_65 rfl rfl (fun h65 => ?_) (fun h65 => ?_)
            · refine g_iconst (pc2 := 99) dX4_weigh_98 k_iconst_0 rfl ?_
              refine g_is6 (pc2 := 101) dX4_weigh_99 (by decide) rfl ?_
              refine g_al0 (pc2 := 102) dX4_weigh_101 rfl ?_
              refine g_getr (pc2 := 105) (by rfl) (by rfl) flX4_11 dX4_weigh_102 rfl ?_
              refine g_il3 (pc2 := 106) dX4_weigh_105 rfl ?_
              refine g_iconst (pc2 := 107) dX4_weigh_106 k_iconst_5 rfl ?_
              refine g_imulN (pc2 := 108) dX4_weigh_107 rfl ?_
              refine g_il5 (pc2 := 110) dX4_weigh_108 rfl ?_
              refine g_iaddN (pc2 := 111) dX4_weigh_110 rfl ?_
              refine g_il6 (pc2 := 113) dX4_weigh_111 rfl ?_
              refine g_if_eq 126 116 dX4_weigh_113 rfl rfl (fun _ => ?_) (fun h => absurd nI_0 h)
              refine g_sipush (pc2 := 129) dX4_weigh_126 k_sipush_1000 rfl ?_
              refine g_iast (pc2 := 130) (by rfl) (by omega) (by decide) dX4_weigh_129 rfl ?_
              refine g_in5 (pc2 := 133) dX4_weigh_130 (nI_inc _) (by decide) rfl ?_
              refine g_goto 43 dX4_weigh_133 rfl ?_
              refine fin _ _ ?_
              unfold cstN
              rw [hcan]
              first | (rw [h65]; rfl) | (rw [h65, decide_eq_false h91]; rfl) | (rw [h65, decide_eq_true h91, Bool.and_self, if_pos rfl, oc_aim hw hk law (by omega)])
            · refine g_al0 (pc2 := 69) dX4_weigh_68 rfl ?_
              refine g_getr (pc2 := 72) (by rfl) (by rfl) flX4_28 dX4_weigh_69 rfl ?_
              refine g_il3 (pc2 := 73) dX4_weigh_72 rfl ?_
              refine g_il5 (pc2 := 75) dX4_weigh_73 rfl ?_
              refine g_cVi (pc2 := 78) (R_c_routeIn l (d + 1) _ _ hc1 _ _ hk hl (by omega)) meX6_routeIn mlX4_67 (by rfl) ⟨_, rfl, rfl⟩ rfl rfl (by simp) ⟨Nat.le_refl _, Nat.le_refl _⟩ dX4_weigh_75 rfl ?_
              refine g_al0 (pc2 := 79) dX4_weigh_78 rfl ?_
              refine g_getr (pc2 := 82) (by rfl) (by rfl) flX4_28 dX4_weigh_79 rfl ?_
              refine g_il3 (pc2 := 83) dX4_weigh_82 rfl ?_
              refine g_il5 (pc2 := 85) dX4_weigh_83 rfl ?_
              refine g_cVi (pc2 := 88) (R_c_routeOut l (d + 1) _ _ hc1 _ _ hk hl (by omega)) meX6_routeOut mlX4_71 (by rfl) ⟨_, rfl, rfl⟩ rfl rfl (by simp) ⟨Nat.le_refl _, Nat.le_refl _⟩ dX4_weigh_85 rfl ?_
              refine g_ior (pc2 := 89) dX4_weigh_88 rfl ?_
              refine g_il2 (pc2 := 90) dX4_weigh_89 rfl ?_
              refine g_iand (pc2 := 91) dX4_weigh_90 rfl ?_
              refine g_if_ne 98 94 dX4_weigh_91 rfl rfl (fun h91 => ?_) (fun h91 => ?_)
              · refine g_iconst (pc2 := 99) dX4_weigh_98 k_iconst_0 rfl ?_
                refine g_is6 (pc2 := 101) dX4_weigh_99 (by decide) rfl ?_
                refine g_al0 (pc2 := 102) dX4_weigh_101 rfl ?_
                refine g_getr (pc2 := 105) (by rfl) (by rfl) flX4_11 dX4_weigh_102 rfl ?_
                refine g_il3 (pc2 := 106) dX4_weigh_105 rfl ?_
                refine g_iconst (pc2 := 107) dX4_weigh_106 k_iconst_5 rfl ?_
                refine g_imulN (pc2 := 108) dX4_weigh_107 rfl ?_
                refine g_il5 (pc2 := 110) dX4_weigh_108 rfl ?_
                refine g_iaddN (pc2 := 111) dX4_weigh_110 rfl ?_
                refine g_il6 (pc2 := 113) dX4_weigh_111 rfl ?_
                refine g_if_eq 126 116 dX4_weigh_113 rfl rfl (fun _ => ?_) (fun h => absurd nI_0 h)
                refine g_sipush (pc2 := 129) dX4_weigh_126 k_sipush_1000 rfl ?_
                refine g_iast (pc2 := 130) (by rfl) (by omega) (by decide) dX4_weigh_129 rfl ?_
                refine g_in5 (pc2 := 133) dX4_weigh_130 (nI_inc _) (by decide) rfl ?_
                refine g_goto 43 dX4_weigh_133 rfl ?_
                refine fin _ _ ?_
                unfold cstN
                rw [hcan]
                first | (rw [h65]; rfl) | (rw [h65, decide_eq_false h91]; rfl) | (rw [h65, decide_eq_true h91, Bool.and_self, if_pos rfl, oc_aim hw hk law (by omega)])
              · refine g_iconst (pc2 := 95) dX4_weigh_94 k_iconst_1 rfl ?_
                refine g_goto 99 dX4_weigh_95 rfl ?_
                refine g_is6 (pc2 := 101) dX4_weigh_99 (by decide) rfl ?_
                refine g_al0 (pc2 := 102) dX4_weigh_101 rfl ?_
                refine g_getr (pc2 := 105) (by rfl) (by rfl) flX4_11 dX4_weigh_102 rfl ?_
                refine g_il3 (pc2 := 106) dX4_weigh_105 rfl ?_
                refine g_iconst (pc2 := 107) dX4_weigh_106 k_iconst_5 rfl ?_
                refine g_imulN (pc2 := 108) dX4_weigh_107 rfl ?_
                refine g_il5 (pc2 := 110) dX4_weigh_108 rfl ?_
                refine g_iaddN (pc2 := 111) dX4_weigh_110 rfl ?_
                refine g_il6 (pc2 := 113) dX4_weigh_111 rfl ?_
                refine g_if_eq 126 116 dX4_weigh_113 rfl rfl (fun h => absurd h (nI_ne0 (by decide) (by decide))) (fun _ => ?_)
                refine g_il4 (pc2 := 118) dX4_weigh_116 rfl ?_
                refine g_il5 (pc2 := 120) dX4_weigh_118 rfl ?_
                refine g_cSi (pc2 := 123) (R_c_costOf l (d + 1) _ _ _ _) meX4_costOf mlX4_74 rfl rfl (by simp) ⟨Nat.le_refl _, Nat.le_refl _⟩ dX4_weigh_120 rfl ?_
                refine g_goto 129 dX4_weigh_123 rfl ?_
                refine g_iast (pc2 := 130) (by rfl) (by omega) (by decide) dX4_weigh_129 rfl ?_
                refine g_in5 (pc2 := 133) dX4_weigh_130 (nI_inc _) (by decide) rfl ?_
                refine g_goto 43 dX4_weigh_133 rfl ?_
                refine fin _ _ ?_
                unfold cstN
                rw [hcan]
                first | (rw [h65]; rfl) | (rw [h65, decide_eq_false h91]; rfl) | (rw [h65, decide_eq_true h91, Bool.and_self, if_pos rfl, oc_aim hw hk law (by omega)])
      have e2 : σ1 13 2 = nI N := by rw [h1 13 (by decide)]; exact hc.2.1.1.2.2.1.trans hN.1
      have p4 : σ1 21 k = if w (16 + 7 * k + 4) = -4 then nI 9 else w (16 + 7 * k + 4) := by rw [h1 21 (by decide)]; exact (hc.2.2.1 k hk).2.2.1
      have p6 : σ1 22 k = w (16 + 7 * k + 6) := by rw [h1 22 (by decide)]; exact (hc.2.2.1 k hk).2.2.2
      have k0 := key2 0 (Nat.zero_le _) σ1 z6 h1 h2 (fun u hu => by omega)
      by_cases hlaw : law = 0
      · have ea : aimV w law k = σ1 21 k := by unfold aimV; rw [if_pos hlaw, p4]
        rw [ea] at k0
        refine g_il3 (pc2 := 3) dX4_weigh_2 rfl ?_
        refine g_al0 (pc2 := 4) dX4_weigh_3 rfl ?_
        refine g_getr (pc2 := 7) (by rfl) (by rfl) flX4_28 dX4_weigh_4 rfl ?_
        refine g_geti (pc2 := 10) (by rfl) (by rfl) flX4_47 dX4_weigh_7 rfl ?_
        rw [e2]
        refine g_icmpN_ge 162 13 dX4_weigh_10 rfl rfl (by omega) (by omega) (fun h10 => ?_) (fun h10 => ?_)
        · omega
        · refine g_il1 (pc2 := 14) dX4_weigh_13 rfl ?_
          refine g_if_ne 29 17 dX4_weigh_14 rfl rfl (fun h14 => ?_) (fun h14 => ?_)
          · exact absurd hlaw h14
          · refine g_al0 (pc2 := 18) dX4_weigh_17 rfl ?_
            refine g_getr (pc2 := 21) (by rfl) (by rfl) flX4_32 dX4_weigh_18 rfl ?_
            refine g_getr (pc2 := 24) (by rfl) (by rfl) flX4_52 dX4_weigh_21 rfl ?_
            refine g_il3 (pc2 := 25) dX4_weigh_24 rfl ?_
            refine g_iald (pc2 := 26) (by rfl) (by omega) (by decide) dX4_weigh_25 rfl ?_
            refine g_goto 38 dX4_weigh_26 rfl ?_
            refine g_is4 (pc2 := 40) dX4_weigh_38 (by decide) rfl ?_
            refine g_iconst (pc2 := 41) dX4_weigh_40 k_iconst_0 rfl ?_
            refine g_is5 (pc2 := 43) dX4_weigh_41 (by decide) rfl ?_
            exact k0
      · have ea : aimV w law k = σ1 22 k := by unfold aimV; rw [if_neg hlaw, p6]
        rw [ea] at k0
        refine g_il3 (pc2 := 3) dX4_weigh_2 rfl ?_
        refine g_al0 (pc2 := 4) dX4_weigh_3 rfl ?_
        refine g_getr (pc2 := 7) (by rfl) (by rfl) flX4_28 dX4_weigh_4 rfl ?_
        refine g_geti (pc2 := 10) (by rfl) (by rfl) flX4_47 dX4_weigh_7 rfl ?_
        rw [e2]
        refine g_icmpN_ge 162 13 dX4_weigh_10 rfl rfl (by omega) (by omega) (fun h10 => ?_) (fun h10 => ?_)
        · omega
        · refine g_il1 (pc2 := 14) dX4_weigh_13 rfl ?_
          refine g_if_ne 29 17 dX4_weigh_14 rfl rfl (fun h14 => ?_) (fun h14 => ?_)
          · refine g_al0 (pc2 := 30) dX4_weigh_29 rfl ?_
            refine g_getr (pc2 := 33) (by rfl) (by rfl) flX4_32 dX4_weigh_30 rfl ?_
            refine g_getr (pc2 := 36) (by rfl) (by rfl) flX4_57 dX4_weigh_33 rfl ?_
            refine g_il3 (pc2 := 37) dX4_weigh_36 rfl ?_
            refine g_iald (pc2 := 38) (by rfl) (by omega) (by decide) dX4_weigh_37 rfl ?_
            refine g_is4 (pc2 := 40) dX4_weigh_38 (by decide) rfl ?_
            refine g_iconst (pc2 := 41) dX4_weigh_40 k_iconst_0 rfl ?_
            refine g_is5 (pc2 := 43) dX4_weigh_41 (by decide) rfl ?_
            exact k0
          · exact absurd h14 hlaw
  refine g_iconst (pc2 := 1) dX4_weigh_0 k_iconst_0 rfl ?_
  refine g_is3 (pc2 := 2) dX4_weigh_1 (by decide) rfl ?_
  exact key 0 (Nat.zero_le _) σ _ _ _ (fun _ _ => rfl) (fun i hi => by omega)
theorem I_sub1 (n : Nat) : nI n - nI 1 = nI n + Int32.ofInt (-1) := by
  rw [Int32.sub_eq_add_neg]
  rfl
theorem min_nI {a b : Nat} (ha : a < 2 ^ 31) (hb : b < 2 ^ 31) : (if nI b < nI a then nI b else nI a) = nI (min a b) := by
  by_cases h : b < a
  · rw [if_pos (by rw [Int32.lt_iff_toInt_lt, nI_toInt ha, nI_toInt hb]; omega), Nat.min_eq_right (by omega)]
  · rw [if_neg (by rw [Int32.lt_iff_toInt_lt, nI_toInt ha, nI_toInt hb]; omega), Nat.min_eq_left (by omega)]
theorem R_c_keepIfLess (l : lt_L) (d : Nat) (t : lt_H) (σ : lt_S) {lc c : Nat} (h : σ 39 7 = nI lc) (h1 : lc ≤ 1000) (h2 : c ≤ 1000) : lt_T l (d + 2) mX4_keepIfLess (lt_SC ++ t) σ [.ref 39, .int (nI c)] none (if c < lc then lt_ur (lt_up σ 39 7 (nI c)) 43 (va_cpy (σ 42) (σ 43) 0 0 7) else σ) := by
  refine lt_T.of [some (.ref 39), some (.int (nI c))] rfl rfl (Nat.le_of_ble_eq_true rfl) ?_
  refine g_il1 (pc2 := 1) dX4_keepIfLess_0 rfl ?_
  refine g_al0 (pc2 := 2) dX4_keepIfLess_1 rfl ?_
  refine g_geti (pc2 := 5) (by rfl) (by rfl) flX4_24 dX4_keepIfLess_2 rfl ?_
  rw [h]
  refine g_icmpN_ge 28 8 dX4_keepIfLess_5 rfl rfl (by omega) (by omega) (fun h5 => ?_) (fun h5 => ?_)
  · exact g_retT dX4_keepIfLess_28 rfl (Nat.le_refl _) (Nat.le_refl _) (by first | (rw [if_neg (by omega)]) | (rw [if_pos (by omega)]; rfl))
  · refine g_al0 (pc2 := 9) dX4_keepIfLess_8 rfl ?_
    refine g_il1 (pc2 := 10) dX4_keepIfLess_9 rfl ?_
    refine g_puti (pc2 := 13) (by rfl) (by rfl) flX4_24 (fpX4_7 _) (fun h => by first | cases h | rfl) dX4_keepIfLess_10 rfl ?_
    refine g_al0 (pc2 := 14) dX4_keepIfLess_13 rfl ?_
    refine g_getr (pc2 := 17) (by rfl) (by rfl) flX4_18 dX4_keepIfLess_14 rfl ?_
    refine g_iconst (pc2 := 18) dX4_keepIfLess_17 k_iconst_0 rfl ?_
    refine g_al0 (pc2 := 19) dX4_keepIfLess_18 rfl ?_
    refine g_getr (pc2 := 22) (by rfl) (by rfl) flX4_21 dX4_keepIfLess_19 rfl ?_
    refine g_iconst (pc2 := 23) dX4_keepIfLess_22 k_iconst_0 rfl ?_
    refine g_bipush (pc2 := 25) dX4_keepIfLess_23 k_bipush_7 rfl ?_
    refine g_copy (pc2 := 28) (by rfl) (by rfl) (by omega) (by omega) (by decide) (by decide) mlX4_98 ac_1 ac_2 ac_3 (by simp) (by omega) dX4_keepIfLess_25 rfl ?_
    exact g_retT dX4_keepIfLess_28 rfl (Nat.le_refl _) (Nat.le_refl _) (by first | (rw [if_neg (by omega)]) | (rw [if_pos (by omega)]; rfl))
theorem R_c_seek (l : lt_L) (d : Nat) (t : lt_H) {w : Nat → Int32} {ln T N : Nat} (law nt : Int32) : ∀ (n m : Nat), m + n = N → ∀ (f : Nat → Nat) (b : sBest) (σ : lt_S) (sb : Int32), CC σ w ln T N → CK σ w law nt T N → CL σ w law nt T N → BC w law N σ b → Okp w nt T f m → (∀ q, q < m → σ 42 q = asT (f q)) → SBok f m sb →
    lt_R l (d + n + 3) 0 0 mX4_seek (lt_SC ++ t) σ [.ref 39, .int (nI m), .int (nI (costM w law f m)), .int sb] (fun r sh' σ' => r = none ∧ sh' = lt_SC ++ t ∧ SVc σ σ' ∧ (∀ q, q < m → σ' 42 q = σ 42 q) ∧ BC w law N σ' (exN (lgB w nt T) (costN w law N) n m f b)) := by
  intro n
  induction n with
  | zero =>
    intro m hmn f b σ sb hc hck hcl hb hf hp hs
    refine lt_R.of [some (.ref 39), some (.int (nI m)), some (.int (nI (costM w law f m))), some (.int sb), none, none, none] rfl rfl (Nat.le_of_ble_eq_true rfl) ?_
    have hw := hc.1
    have hN := hw.2.2.1
    have hT := hw.2.1
    have em : m = N := by omega
    subst em
    have e2 : σ 13 2 = nI m := hc.2.1.1.2.2.1.trans hN.1
    obtain ⟨lc, q1, q2, q3⟩ := hb.nums
    have hcm := costM_le w law f m
    have q4 := q3 (costM w law f m) (by omega)
    have fin : SVc σ (if costM w law f m < lc then lt_ur (lt_up σ 39 7 (nI (costM w law f m))) 43 (va_cpy (σ 42) (σ 43) 0 0 7) else σ) ∧ (∀ q, q < m → (if costM w law f m < lc then lt_ur (lt_up σ 39 7 (nI (costM w law f m))) 43 (va_cpy (σ 42) (σ 43) 0 0 7) else σ) 42 q = σ 42 q) ∧ BC w law m (if costM w law f m < lc then lt_ur (lt_up σ 39 7 (nI (costM w law f m))) 43 (va_cpy (σ 42) (σ 43) 0 0 7) else σ) (exN (lgB w nt T) (costN w law m) 0 m f b) := by
      simp only [exN]
      rw [costN_M]
      by_cases hlt : costM w law f m < lc
      · rw [if_pos hlt, if_pos (q4.mpr hlt)]
        refine ⟨⟨fun a a1 a2 a3 => ?_, fun k hk => ?_⟩, fun q hq => ?_, ⟨?_, ?_, fun j hj => ?_⟩⟩
        · rw [lt_ur_ne _ _ a3, lt_up_nr _ _ _ a1]
        · rw [lt_ur_ne _ _ (by decide), lt_up_ne _ _ _ hk]
        · rw [lt_ur_ne _ _ (by decide), lt_up_nr _ _ _ (by decide)]
        · rw [lt_ur_ne _ _ (by decide), lt_up_at]
        · show costM w law f m < 1000
          omega
        · rw [lt_ur_eq, pk_cpy_in (by omega) (by omega), show 0 + (j - 0) = j by omega]
          refine ⟨hp j hj, ?_⟩
          rcases hf j hj with e | e
          · show f j < 5
            omega
          · have := canB_lt e
            show f j < 5
            omega
      · rw [if_neg hlt, if_neg (fun z => hlt (q4.mp z))]
        exact ⟨SVc.rf σ, fun q _ => rfl, hb⟩
    have kp := R_c_keepIfLess l d t σ (c := costM w law f m) q1 q2 (by omega)
    generalize (if costM w law f m < lc then lt_ur (lt_up σ 39 7 (nI (costM w law f m))) 43 (va_cpy (σ 42) (σ 43) 0 0 7) else σ) = σ2 at fin kp
    refine g_il1 (pc2 := 1) dX4_seek_0 rfl ?_
    refine g_al0 (pc2 := 2) dX4_seek_1 rfl ?_
    refine g_getr (pc2 := 5) (by rfl) (by rfl) flX4_28 dX4_seek_2 rfl ?_
    refine g_geti (pc2 := 8) (by rfl) (by rfl) flX4_47 dX4_seek_5 rfl ?_
    rw [e2]
    refine g_icmpN_lt 17 11 dX4_seek_8 rfl rfl (by omega) (by omega) (fun h8 => ?_) (fun h8 => ?_)
    · omega
    · refine g_al0 (pc2 := 12) dX4_seek_11 rfl ?_
      refine g_il2 (pc2 := 13) dX4_seek_12 rfl ?_
      refine g_cVv (pc2 := 16) (kp) meX4_keepIfLess mlX4_86 (by rfl) ⟨_, rfl, rfl⟩ rfl rfl (by simp) ⟨Nat.le_refl _, Nat.le_refl _⟩ dX4_seek_13 rfl ?_
      exact g_ret dX4_seek_16 rfl (Nat.le_refl _) (Nat.le_refl _) ⟨rfl, rfl, fin⟩
  | succ n ihn =>
    intro m hmn f b σ sb hc hck hcl hb hf hp hs
    refine lt_R.of [some (.ref 39), some (.int (nI m)), some (.int (nI (costM w law f m))), some (.int sb), none, none, none] rfl rfl (Nat.le_of_ble_eq_true rfl) ?_
    have hw := hc.1
    have hN := hw.2.2.1
    have hT := hw.2.1
    have hmN : m < N := by omega
    have e2 : σ 13 2 = nI N := hc.2.1.1.2.2.1.trans hN.1
    obtain ⟨lc, q1, q2, q3⟩ := hb.nums
    have hcm := costM_le w law f m
    have hal := alN_le w law nt T N (n + 1)
    have eal : σ 41 m = nI (alN w law nt T N (n + 1)) := hcl m (n + 1) hmn
    generalize hE : exN (lgB w nt T) (costN w law N) (n + 1) m f b = E
    have key : ∀ o, o ≤ T → ∀ (b1 : sBest) (σ1 : lt_S) (z5 z6 : Option Value), SVc σ σ1 → (∀ q, q < m → σ1 42 q = σ 42 q) → BC w law N σ1 b1 → exO (fun f' b' => exN (lgB w nt T) (costN w law N) n (m + 1) f' b') (lgB w nt T) m f (5 - o) b1 = E → lt_G l (d + (n + 1) + 3) 0 0 mX4_seek 0 0 (lt_SC ++ t) σ1 36 [some (.ref 39), some (.int (nI m)), some (.int (nI (costM w law f m))), some (.int sb), some (.int (nI o)), z5, z6] [] (fun r sh' σ' => r = none ∧ sh' = lt_SC ++ t ∧ SVc σ σ' ∧ (∀ q, q < m → σ' 42 q = σ 42 q) ∧ BC w law N σ' E) := by
      refine lt_dn T ?_ ?_
      · intro b1 σ1 z5 z6 s1 s2 s3 s4
        have e1 : σ1 13 1 = nI T := by rw [s1.1 13 (by decide) (by decide) (by decide)]; exact hc.2.1.1.2.1.trans hT.1
        have e40 : σ1 40 (m * 5 + 4) = nI (ocN w law m 4) := by rw [s1.1 40 (by decide) (by decide) (by decide)]; exact (hck m hmN).2
        rw [show 5 - T = (4 - T) + 1 by omega, exO_T _ (4 - T) (by omega)] at s4
        generalize hσ2 : lt_up σ1 42 m (-4) = σ2
        have t1 : SVc σ σ2 := by rw [← hσ2]; exact s1.tr (SVc.trial _ _ _)
        have t2 : ∀ q, q < m → σ2 42 q = σ 42 q := fun q hq => by rw [← hσ2, lt_up_ne _ _ _ (by omega)]; exact s2 q hq
        have t3 : BC w law N σ2 b1 := s3.same (by rw [← hσ2]; rfl) (by rw [← hσ2]; rfl)
        have t40 : σ2 40 (m * 5 + 4) = nI (ocN w law m 4) := by rw [← hσ2]; exact e40
        have hcost : costM w law (upN f m 4) (m + 1) = costM w law f m + ocN w law m 4 := by
          rw [costM_s, upN_eq, costM_congr (fun j hj => upN_lt hj)]
        have rr := ihn (m + 1) (by omega) (upN f m 4) b1 σ2 sb (hc.off (fun x hx => t1.1 x (by omega) (by omega) (by omega))) (fun i hi => by rw [t1.1 40 (by decide) (by decide) (by decide)]; exact hck i hi) (fun i j hij => by rw [t1.1 41 (by decide) (by decide) (by decide)]; exact hcl i j hij) t3 (fun j hj => by
            by_cases e : j = m
            · subst e; rw [upN_eq]; exact Or.inl rfl
            · rw [upN_lt (by omega)]; exact hf j (by omega)) (fun q hq => by
            by_cases e : q = m
            · subst e; rw [upN_eq, ← hσ2, lt_up_at]; rfl
            · rw [upN_lt (by omega), t2 q (by omega)]; exact hp q (by omega)) hs.n
        rw [s4, hcost] at rr
        refine g_il4 (pc2 := 38) dX4_seek_36 rfl ?_
        refine g_al0 (pc2 := 39) dX4_seek_38 rfl ?_
        refine g_getr (pc2 := 42) (by rfl) (by rfl) flX4_28 dX4_seek_39 rfl ?_
        refine g_geti (pc2 := 45) (by rfl) (by rfl) flX4_60 dX4_seek_42 rfl ?_
        rw [e1]
        refine g_icmpN_ge 123 48 dX4_seek_45 rfl rfl (by omega) (by omega) (fun h45 => ?_) (fun h45 => ?_)
        · refine g_al0 (pc2 := 124) dX4_seek_123 rfl ?_
          refine g_getr (pc2 := 127) (by rfl) (by rfl) flX4_18 dX4_seek_124 rfl ?_
          refine g_il1 (pc2 := 128) dX4_seek_127 rfl ?_
          refine g_bipush (pc2 := 130) dX4_seek_128 k_bipush_m4 rfl ?_
          refine g_iast (pc2 := 131) (by rfl) (by omega) (by decide) dX4_seek_130 rfl ?_
          rw [hσ2]
          refine g_al0 (pc2 := 132) dX4_seek_131 rfl ?_
          refine g_il1 (pc2 := 133) dX4_seek_132 rfl ?_
          refine g_iconst (pc2 := 134) dX4_seek_133 k_iconst_1 rfl ?_
          refine g_iaddN (pc2 := 135) dX4_seek_134 rfl ?_
          refine g_il2 (pc2 := 136) dX4_seek_135 rfl ?_
          refine g_al0 (pc2 := 137) dX4_seek_136 rfl ?_
          refine g_getr (pc2 := 140) (by rfl) (by rfl) flX4_11 dX4_seek_137 rfl ?_
          refine g_il1 (pc2 := 141) dX4_seek_140 rfl ?_
          refine g_iconst (pc2 := 142) dX4_seek_141 k_iconst_5 rfl ?_
          refine g_imulN (pc2 := 143) dX4_seek_142 rfl ?_
          refine g_iconst (pc2 := 144) dX4_seek_143 k_iconst_4 rfl ?_
          refine g_iaddN (pc2 := 145) dX4_seek_144 rfl ?_
          refine g_iald (pc2 := 146) (by rfl) (by omega) (by decide) dX4_seek_145 rfl ?_
          rw [t40]
          refine g_iaddN (pc2 := 147) dX4_seek_146 rfl ?_
          refine g_il3 (pc2 := 148) dX4_seek_147 rfl ?_
          refine g_callV (pc2 := 151) rr meX4_seek mlX4_82 (by rfl) ⟨_, rfl, rfl⟩ rfl rfl (by simp) ⟨Nat.le_refl _, Nat.le_refl _⟩ dX4_seek_148 rfl ?_
          rintro r sh2 σ3 ⟨rfl, rfl, u1, u2, u3⟩
          exact g_ret dX4_seek_151 rfl (Nat.le_refl _) (Nat.le_refl _) ⟨rfl, rfl, t1.tr u1, fun q hq => (u2 q (by omega)).trans (t2 q hq), u3⟩
        · omega
      · intro o ho ih b1 σ1 z5 z6 s1 s2 s3 s4
        have e1 : σ1 13 1 = nI T := by rw [s1.1 13 (by decide) (by decide) (by decide)]; exact hc.2.1.1.2.1.trans hT.1
        have e40 : σ1 40 (m * 5 + o) = nI (cstN w law nt T m o) := by rw [s1.1 40 (by decide) (by decide) (by decide)]; exact (hck m hmN).1 o ho
        have e38 : σ1 38 (m * 4 + o) = agF w T N m o := by rw [s1.1 38 (by decide) (by decide) (by decide)]; exact hc.2.2.2 m hmN o ho
        rw [show 5 - o = (4 - o) + 1 by omega] at s4
        simp only [exO] at s4
        rw [show 4 - (4 - o) = o by omega] at s4
        have hcs : cstN w law nt T m o ≤ 1000 ∧ (cstN w law nt T m o = 1000 ↔ canB w nt T m o = false) := by
          unfold cstN
          have := ocN_le w law m o
          cases hcan : canB w nt T m o <;> simp <;> omega
        have skip : lgB w nt T f m o = false → ∀ z5 z6 : Option Value, lt_G l (d + (n + 1) + 3) 0 0 mX4_seek 0 0 (lt_SC ++ t) σ1 36 [some (.ref 39), some (.int (nI m)), some (.int (nI (costM w law f m))), some (.int sb), some (.int (nI (o + 1))), z5, z6] [] (fun r sh' σ' => r = none ∧ sh' = lt_SC ++ t ∧ SVc σ σ' ∧ (∀ q, q < m → σ' 42 q = σ 42 q) ∧ BC w law N σ' E) := by
          intro hl z5 z6
          rw [hl] at s4
          exact ih b1 σ1 z5 z6 s1 s2 s3 (by rw [show 5 - (o + 1) = 4 - o by omega]; exact s4)
        cases hcan : canB w nt T m o with
        | false =>
          have hl : lgB w nt T f m o = false := by unfold lgB; rw [hcan, decide_eq_false (by omega)]; rfl
          have h1000 := hcs.2.mpr hcan
          refine g_il4 (pc2 := 38) dX4_seek_36 rfl ?_
          refine g_al0 (pc2 := 39) dX4_seek_38 rfl ?_
          refine g_getr (pc2 := 42) (by rfl) (by rfl) flX4_28 dX4_seek_39 rfl ?_
          refine g_geti (pc2 := 45) (by rfl) (by rfl) flX4_60 dX4_seek_42 rfl ?_
          rw [e1]
          refine g_icmpN_ge 123 48 dX4_seek_45 rfl rfl (by omega) (by omega) (fun h45 => ?_) (fun h45 => ?_)
          · omega
          · refine g_al0 (pc2 := 49) dX4_seek_48 rfl ?_
            refine g_getr (pc2 := 52) (by rfl) (by rfl) flX4_11 dX4_seek_49 rfl ?_
            refine g_il1 (pc2 := 53) dX4_seek_52 rfl ?_
            refine g_iconst (pc2 := 54) dX4_seek_53 k_iconst_5 rfl ?_
            refine g_imulN (pc2 := 55) dX4_seek_54 rfl ?_
            refine g_il4 (pc2 := 57) dX4_seek_55 rfl ?_
            refine g_iaddN (pc2 := 58) dX4_seek_57 rfl ?_
            refine g_iald (pc2 := 59) (by rfl) (by omega) (by decide) dX4_seek_58 rfl ?_
            rw [e40, h1000]
            refine g_is5 (pc2 := 61) dX4_seek_59 (by decide) rfl ?_
            refine g_il1 (pc2 := 62) dX4_seek_61 rfl ?_
            refine g_il4 (pc2 := 64) dX4_seek_62 rfl ?_
            refine g_cSi (pc2 := 67) (R_c_seat l (d + n + 2) _ _ _ _) meX0_seat mlX4_90 rfl rfl (by simp) ⟨Nat.le_refl _, Nat.le_refl _⟩ dX4_seek_64 rfl ?_
            refine g_is6 (pc2 := 69) dX4_seek_67 (by decide) rfl ?_
            refine g_il5 (pc2 := 71) dX4_seek_69 rfl ?_
            refine g_sipush (pc2 := 74) dX4_seek_71 k_sipush_1000 rfl ?_
            refine g_icmpN_eq 117 77 dX4_seek_74 rfl rfl (by omega) (by omega) (fun h74 => ?_) (fun h74 => ?_)
            · refine g_in4 (pc2 := 120) dX4_seek_117 (nI_inc _) (by decide) rfl ?_
              refine g_goto 36 dX4_seek_120 rfl ?_
              exact skip hl _ _
            · exact absurd rfl h74
        | true =>
          have hsl := seat_lg hT.2.2 hN.2 hmN hs hf hcan
          have hn1000 : ¬ cstN w law nt T m o = 1000 := fun z => by rw [hcs.2.mp z] at hcan; cases hcan
          have ecs : cstN w law nt T m o = ocN w law m o := if_pos hcan
          generalize hσ2 : lt_up σ1 42 m (nI o) = σ2
          have t1 : SVc σ σ2 := by rw [← hσ2]; exact s1.tr (SVc.trial _ _ _)
          have t2 : ∀ q, q < m → σ2 42 q = σ 42 q := fun q hq => by rw [← hσ2, lt_up_ne _ _ _ (by omega)]; exact s2 q hq
          have t3 : BC w law N σ2 b1 := s3.same (by rw [← hσ2]; rfl) (by rw [← hσ2]; rfl)
          have hcost : costM w law (upN f m o) (m + 1) = costM w law f m + cstN w law nt T m o := by
            rw [costM_s, upN_eq, costM_congr (fun j hj => upN_lt hj), ecs]
          have rr := ihn (m + 1) (by omega) (upN f m o) b1 σ2 (sb ||| nI 1 <<< (nI (m * 4 + o) &&& 31)) (hc.off (fun x hx => t1.1 x (by omega) (by omega) (by omega))) (fun i hi => by rw [t1.1 40 (by decide) (by decide) (by decide)]; exact hck i hi) (fun i j hij => by rw [t1.1 41 (by decide) (by decide) (by decide)]; exact hcl i j hij) t3 (fun j hj => by
              by_cases e : j = m
              · subst e; rw [upN_eq]; exact Or.inr hcan
              · rw [upN_lt (by omega)]; exact hf j (by omega)) (fun q hq => by
              by_cases e : q = m
              · subst e; rw [upN_eq, ← hσ2, lt_up_at]; exact (if_neg (by omega)).symm
              · rw [upN_lt (by omega), t2 q (by omega)]; exact hp q (by omega)) (hs.s (by omega) (by omega))
          rw [hcost] at rr
          refine g_il4 (pc2 := 38) dX4_seek_36 rfl ?_
          refine g_al0 (pc2 := 39) dX4_seek_38 rfl ?_
          refine g_getr (pc2 := 42) (by rfl) (by rfl) flX4_28 dX4_seek_39 rfl ?_
          refine g_geti (pc2 := 45) (by rfl) (by rfl) flX4_60 dX4_seek_42 rfl ?_
          rw [e1]
          refine g_icmpN_ge 123 48 dX4_seek_45 rfl rfl (by omega) (by omega) (fun h45 => ?_) (fun h45 => ?_)
          · omega
          · refine g_al0 (pc2 := 49) dX4_seek_48 rfl ?_
            refine g_getr (pc2 := 52) (by rfl) (by rfl) flX4_11 dX4_seek_49 rfl ?_
            refine g_il1 (pc2 := 53) dX4_seek_52 rfl ?_
            refine g_iconst (pc2 := 54) dX4_seek_53 k_iconst_5 rfl ?_
            refine g_imulN (pc2 := 55) dX4_seek_54 rfl ?_
            refine g_il4 (pc2 := 57) dX4_seek_55 rfl ?_
            refine g_iaddN (pc2 := 58) dX4_seek_57 rfl ?_
            refine g_iald (pc2 := 59) (by rfl) (by omega) (by decide) dX4_seek_58 rfl ?_
            rw [e40]
            refine g_is5 (pc2 := 61) dX4_seek_59 (by decide) rfl ?_
            refine g_il1 (pc2 := 62) dX4_seek_61 rfl ?_
            refine g_il4 (pc2 := 64) dX4_seek_62 rfl ?_
            refine g_cSi (pc2 := 67) (R_c_seat l (d + n + 2) _ _ _ _) meX0_seat mlX4_90 rfl rfl (by simp) ⟨Nat.le_refl _, Nat.le_refl _⟩ dX4_seek_64 rfl ?_
            refine g_is6 (pc2 := 69) dX4_seek_67 (by decide) rfl ?_
            refine g_il5 (pc2 := 71) dX4_seek_69 rfl ?_
            refine g_sipush (pc2 := 74) dX4_seek_71 k_sipush_1000 rfl ?_
            refine g_icmpN_eq 117 77 dX4_seek_74 rfl rfl (by omega) (by omega) (fun h74 => ?_) (fun h74 => ?_)
            · exact absurd h74 hn1000
            · refine g_al0 (pc2 := 78) dX4_seek_77 rfl ?_
              refine g_getr (pc2 := 81) (by rfl) (by rfl) flX4_36 dX4_seek_78 rfl ?_
              refine g_getr (pc2 := 84) (by rfl) (by rfl) flX4_95 dX4_seek_81 rfl ?_
              refine g_il6 (pc2 := 86) dX4_seek_84 rfl ?_
              refine g_iald (pc2 := 87) (by rfl) (by omega) (by decide) dX4_seek_86 rfl ?_
              rw [e38]
              refine g_il3 (pc2 := 88) dX4_seek_87 rfl ?_
              refine g_iand (pc2 := 89) dX4_seek_88 rfl ?_
              refine g_if_ne 117 92 dX4_seek_89 rfl rfl (fun h89 => ?_) (fun h89 => ?_)
              · refine g_in4 (pc2 := 120) dX4_seek_117 (nI_inc _) (by decide) rfl ?_
                refine g_goto 36 dX4_seek_120 rfl ?_
                exact skip (by cases hq : lgB w nt T f m o with | false => rfl | true => exact absurd (hsl.mpr hq) h89) _ _
              · refine g_al0 (pc2 := 93) dX4_seek_92 rfl ?_
                refine g_getr (pc2 := 96) (by rfl) (by rfl) flX4_18 dX4_seek_93 rfl ?_
                refine g_il1 (pc2 := 97) dX4_seek_96 rfl ?_
                refine g_il4 (pc2 := 99) dX4_seek_97 rfl ?_
                refine g_iast (pc2 := 100) (by rfl) (by omega) (by decide) dX4_seek_99 rfl ?_
                rw [hσ2]
                refine g_al0 (pc2 := 101) dX4_seek_100 rfl ?_
                refine g_il1 (pc2 := 102) dX4_seek_101 rfl ?_
                refine g_iconst (pc2 := 103) dX4_seek_102 k_iconst_1 rfl ?_
                refine g_iaddN (pc2 := 104) dX4_seek_103 rfl ?_
                refine g_il2 (pc2 := 105) dX4_seek_104 rfl ?_
                refine g_il5 (pc2 := 107) dX4_seek_105 rfl ?_
                refine g_iaddN (pc2 := 108) dX4_seek_107 rfl ?_
                refine g_il3 (pc2 := 109) dX4_seek_108 rfl ?_
                refine g_iconst (pc2 := 110) dX4_seek_109 k_iconst_1 rfl ?_
                refine g_il6 (pc2 := 112) dX4_seek_110 rfl ?_
                refine g_ishl (pc2 := 113) dX4_seek_112 rfl ?_
                refine g_ior (pc2 := 114) dX4_seek_113 rfl ?_
                refine g_callV (pc2 := 117) rr meX4_seek mlX4_82 (by rfl) ⟨_, rfl, rfl⟩ rfl rfl (by simp) ⟨Nat.le_refl _, Nat.le_refl _⟩ dX4_seek_114 rfl ?_
                rintro r sh2 σ3 ⟨rfl, rfl, u1, u2, u3⟩
                refine g_in4 (pc2 := 120) dX4_seek_117 (nI_inc _) (by decide) rfl ?_
                refine g_goto 36 dX4_seek_120 rfl ?_
                rw [if_pos (hsl.mp h89)] at s4
                exact ih _ σ3 _ _ (t1.tr u1) (fun q hq => (u2 q (by omega)).trans (t2 q hq)) u3 (by rw [show 5 - (o + 1) = 4 - o by omega]; exact s4)
    have hprune : lc ≤ costM w law f m + alN w law nt T N (n + 1) → E = b := by
      intro hle
      rw [← hE]
      refine exN_prune (lgB_congr w nt T) (n + 1) m f b (fun g hg hgl => ?_)
      have h1 := alN_lb (law := law) g (n + 1) m hmn (fun i i1 i2 => hgl i i1 (by omega))
      rw [costM_congr (fun j hj => hg j hj)] at h1
      have h2 := costM_le w law g N
      cases hz : sLess (costN w law N g) b with
      | false => rfl
      | true =>
        have := (q3 (costN w law N g) (by rw [costN_M]; omega)).mp hz
        rw [costN_M] at this
        omega
    refine g_il1 (pc2 := 1) dX4_seek_0 rfl ?_
    refine g_al0 (pc2 := 2) dX4_seek_1 rfl ?_
    refine g_getr (pc2 := 5) (by rfl) (by rfl) flX4_28 dX4_seek_2 rfl ?_
    refine g_geti (pc2 := 8) (by rfl) (by rfl) flX4_47 dX4_seek_5 rfl ?_
    rw [e2]
    refine g_icmpN_lt 17 11 dX4_seek_8 rfl rfl (by omega) (by omega) (fun h8 => ?_) (fun h8 => ?_)
    · refine g_il2 (pc2 := 18) dX4_seek_17 rfl ?_
      refine g_al0 (pc2 := 19) dX4_seek_18 rfl ?_
      refine g_getr (pc2 := 22) (by rfl) (by rfl) flX4_15 dX4_seek_19 rfl ?_
      refine g_il1 (pc2 := 23) dX4_seek_22 rfl ?_
      refine g_iald (pc2 := 24) (by rfl) (by omega) (by decide) dX4_seek_23 rfl ?_
      rw [eal]
      refine g_iaddN (pc2 := 25) dX4_seek_24 rfl ?_
      refine g_al0 (pc2 := 26) dX4_seek_25 rfl ?_
      refine g_geti (pc2 := 29) (by rfl) (by rfl) flX4_24 dX4_seek_26 rfl ?_
      rw [q1]
      refine g_icmpN_lt 33 32 dX4_seek_29 rfl rfl (by omega) (by omega) (fun h29 => ?_) (fun h29 => ?_)
      · refine g_iconst (pc2 := 34) dX4_seek_33 k_iconst_0 rfl ?_
        refine g_is4 (pc2 := 36) dX4_seek_34 (by decide) rfl ?_
        exact key 0 (Nat.zero_le _) b σ _ _ (SVc.rf σ) (fun _ _ => rfl) hb hE
      · exact g_ret dX4_seek_32 rfl (Nat.le_refl _) (Nat.le_refl _) ⟨rfl, rfl, SVc.rf σ, fun _ _ => rfl, by rw [hprune (by omega)]; exact hb⟩
    · omega
theorem nI_0s : (Int32.ofInt (-1)) < 0 := by decide
theorem R_c_start (l : lt_L) (d : Nat) (t : lt_H) (σ : lt_S) {w : Nat → Int32} {ln T N : Nat} (law nt : Int32) (hc : CC σ w ln T N) (hck : CK σ w law nt T N) : lt_R l (d + N + 4) 0 0 mX4_start (lt_SC ++ t) σ [.ref 39] (fun r sh' σ' => r = none ∧ sh' = lt_SC ++ t ∧ (∀ a, a ≠ 39 → a ≠ 41 → a ≠ 42 → a ≠ 43 → σ' a = σ a) ∧ (∀ k, k ≠ 7 → σ' 39 k = σ 39 k) ∧ BC w law N σ' (wayF w law nt T N)) := by
  refine lt_R.of [some (.ref 39), none, none, none] rfl rfl (Nat.le_of_ble_eq_true rfl) ?_
  have hw := hc.1
  have hN := hw.2.2.1
  have hT := hw.2.1
  have key : ∀ m n, m + n = N → ∀ (σ1 : lt_S) (z2 z3 : Option Value), (∀ a, a ≠ 41 → σ1 a = σ a) → (∀ i j, m ≤ i → i + j = N → σ1 41 i = nI (alN w law nt T N j)) → lt_G l (d + N + 4) 0 0 mX4_start 0 0 (lt_SC ++ t) σ1 23 [some (.ref 39), some (.int (nI m + Int32.ofInt (-1))), z2, z3] [] (fun r sh' σ' => r = none ∧ sh' = lt_SC ++ t ∧ (∀ a, a ≠ 39 → a ≠ 41 → a ≠ 42 → a ≠ 43 → σ' a = σ a) ∧ (∀ k, k ≠ 7 → σ' 39 k = σ 39 k) ∧ BC w law N σ' (wayF w law nt T N)) := by
    intro m
    induction m with
    | zero =>
      intro n hn σ1 z2 z3 h1 h2
      generalize hσ2 : lt_up σ1 39 7 (nI 1000) = σ2
      have o2 : ∀ a, a ≠ 39 → a ≠ 41 → σ2 a = σ a := fun a a1 a2 => by rw [← hσ2, lt_up_nr _ _ _ a1]; exact h1 a a2
      have rr := R_c_seek l d t (T := T) law nt N 0 (by omega) (fun _ => 0) none σ2 (nI 0) (hc.off (fun x hx => o2 x (by omega) (by omega))) (fun i hi => by rw [o2 40 (by decide) (by decide)]; exact hck i hi) (fun i j hij => by rw [← hσ2, lt_up_nr _ _ _ (by decide)]; exact h2 i j (Nat.zero_le _) hij) (by rw [← hσ2]; exact lt_up_at _ _ _ _) (fun j hj => by omega) (fun q hq => by omega) (fun b hb => by rw [bt_0, decide_eq_false (by omega)]; rfl)
      rw [show costM w law (fun _ => 0) 0 = 0 by simp [costM, noneN, sumF]] at rr
      refine g_il1 (pc2 := 24) dX4_start_23 rfl ?_
      refine g_if_lt 94 27 dX4_start_24 rfl rfl (fun _ => ?_) (fun h => absurd (show nI 0 + Int32.ofInt (-1) < 0 by decide) h)
      refine g_al0 (pc2 := 95) dX4_start_94 rfl ?_
      refine g_sipush (pc2 := 98) dX4_start_95 k_sipush_1000 rfl ?_
      refine g_puti (pc2 := 101) (by rfl) (by rfl) flX4_24 (fpX4_7 _) (fun h => by first | cases h | rfl) dX4_start_98 rfl ?_
      rw [hσ2]
      refine g_al0 (pc2 := 102) dX4_start_101 rfl ?_
      refine g_iconst (pc2 := 103) dX4_start_102 k_iconst_0 rfl ?_
      refine g_iconst (pc2 := 104) dX4_start_103 k_iconst_0 rfl ?_
      refine g_iconst (pc2 := 105) dX4_start_104 k_iconst_0 rfl ?_
      refine g_callV (pc2 := 108) (rr) meX4_seek mlX4_82 (by rfl) ⟨_, rfl, rfl⟩ rfl rfl (by simp) ⟨Nat.le_refl _, Nat.le_refl _⟩ dX4_start_105 rfl ?_
      rintro r sh2 σ3 ⟨rfl, rfl, u1, u2, u3⟩
      exact g_ret dX4_start_108 rfl (Nat.le_refl _) (Nat.le_refl _) ⟨rfl, rfl, fun a a1 a2 a3 a4 => (u1.1 a a1 a3 a4).trans (o2 a a1 a2), fun k hk => (u1.2 k hk).trans (by rw [← hσ2, lt_up_ne _ _ _ hk, h1 39 (by decide)]), u3⟩
    | succ m ihm =>
      intro n hn σ1 z2 z3 h1 h2
      have hm7 : m < 7 := by omega
      rw [sub_1]
      have hmN : m < N := by omega
      have e40 : σ1 40 (m * 5 + 4) = nI (ocN w law m 4) := by rw [h1 40 (by decide)]; exact (hck m hmN).2
      have e1 : σ1 13 1 = nI T := by rw [h1 13 (by decide)]; exact hc.2.1.1.2.1.trans hT.1
      have e41 : σ1 41 (m + 1) = nI (alN w law nt T N n) := h2 (m + 1) n (Nat.le_refl _) (by omega)
      have key2 : ∀ o, o ≤ T → lt_G l (d + N + 4) 0 0 mX4_start 0 0 (lt_SC ++ t) σ1 40 [some (.ref 39), some (.int (nI m)), some (.int (nI (mnN w law nt T m o))), some (.int (nI o))] [] (fun r sh' σ' => r = none ∧ sh' = lt_SC ++ t ∧ (∀ a, a ≠ 39 → a ≠ 41 → a ≠ 42 → a ≠ 43 → σ' a = σ a) ∧ (∀ k, k ≠ 7 → σ' 39 k = σ 39 k) ∧ BC w law N σ' (wayF w law nt T N)) := by
        refine lt_dn T ?_ ?_
        · refine g_il3 (pc2 := 41) dX4_start_40 rfl ?_
          refine g_al0 (pc2 := 42) dX4_start_41 rfl ?_
          refine g_getr (pc2 := 45) (by rfl) (by rfl) flX4_28 dX4_start_42 rfl ?_
          refine g_geti (pc2 := 48) (by rfl) (by rfl) flX4_60 dX4_start_45 rfl ?_
          rw [e1]
          refine g_icmpN_ge 72 51 dX4_start_48 rfl rfl (by omega) (by omega) (fun h48 => ?_) (fun h48 => ?_)
          · refine g_al0 (pc2 := 73) dX4_start_72 rfl ?_
            refine g_getr (pc2 := 76) (by rfl) (by rfl) flX4_15 dX4_start_73 rfl ?_
            refine g_il1 (pc2 := 77) dX4_start_76 rfl ?_
            refine g_al0 (pc2 := 78) dX4_start_77 rfl ?_
            refine g_getr (pc2 := 81) (by rfl) (by rfl) flX4_15 dX4_start_78 rfl ?_
            refine g_il1 (pc2 := 82) dX4_start_81 rfl ?_
            refine g_iconst (pc2 := 83) dX4_start_82 k_iconst_1 rfl ?_
            refine g_iaddN (pc2 := 84) dX4_start_83 rfl ?_
            refine g_iald (pc2 := 85) (by rfl) (by omega) (by decide) dX4_start_84 rfl ?_
            rw [e41]
            refine g_il2 (pc2 := 86) dX4_start_85 rfl ?_
            refine g_iaddN (pc2 := 87) dX4_start_86 rfl ?_
            refine g_iast (pc2 := 88) (by rfl) (by omega) (by decide) dX4_start_87 rfl ?_
            refine g_in1 (pc2 := 91) dX4_start_88 rfl (by decide) rfl ?_
            refine g_goto 23 dX4_start_91 rfl ?_
            refine ihm (n + 1) (by omega) _ _ _ (fun a ha => (lt_up_nr _ _ _ ha).trans (h1 a ha)) (fun i j hi hij => ?_)
            by_cases e : i = m
            · subst e
              rw [lt_up_at, show j = n + 1 by omega]
              simp only [alN]
              rw [show N - (n + 1) = i by omega]
            · rw [lt_up_ne _ _ _ e]
              exact h2 i j (by omega) hij
          · omega
        · intro o ho ih
          have eo : σ1 40 (m * 5 + o) = nI (cstN w law nt T m o) := by rw [h1 40 (by decide)]; exact (hck m hmN).1 o ho
          have hcs : cstN w law nt T m o ≤ 1000 := by
            unfold cstN
            have := ocN_le w law m o
            split <;> omega
          have hmn := mnN_le4 w law nt T m o
          have hoc := ocN_le w law m 4
          refine g_il3 (pc2 := 41) dX4_start_40 rfl ?_
          refine g_al0 (pc2 := 42) dX4_start_41 rfl ?_
          refine g_getr (pc2 := 45) (by rfl) (by rfl) flX4_28 dX4_start_42 rfl ?_
          refine g_geti (pc2 := 48) (by rfl) (by rfl) flX4_60 dX4_start_45 rfl ?_
          rw [e1]
          refine g_icmpN_ge 72 51 dX4_start_48 rfl rfl (by omega) (by omega) (fun h48 => ?_) (fun h48 => ?_)
          · omega
          · refine g_il2 (pc2 := 52) dX4_start_51 rfl ?_
            refine g_al0 (pc2 := 53) dX4_start_52 rfl ?_
            refine g_getr (pc2 := 56) (by rfl) (by rfl) flX4_11 dX4_start_53 rfl ?_
            refine g_il1 (pc2 := 57) dX4_start_56 rfl ?_
            refine g_iconst (pc2 := 58) dX4_start_57 k_iconst_5 rfl ?_
            refine g_imulN (pc2 := 59) dX4_start_58 rfl ?_
            refine g_il3 (pc2 := 60) dX4_start_59 rfl ?_
            refine g_iaddN (pc2 := 61) dX4_start_60 rfl ?_
            refine g_iald (pc2 := 62) (by rfl) (by omega) (by decide) dX4_start_61 rfl ?_
            rw [eo]
            refine g_min (pc2 := 65) mlX4_77 mm_min1 mm_2 mm_min3 (by simp) (by omega) (Nat.le_refl _) (Nat.le_refl _) dX4_start_62 rfl ?_
            rw [min_nI (by omega) (by omega)]
            refine g_is2 (pc2 := 66) dX4_start_65 (by decide) rfl ?_
            refine g_in3 (pc2 := 69) dX4_start_66 (nI_inc _) (by decide) rfl ?_
            refine g_goto 40 dX4_start_69 rfl ?_
            exact ih
      refine g_il1 (pc2 := 24) dX4_start_23 rfl ?_
      refine g_if_lt 94 27 dX4_start_24 rfl rfl (fun h => absurd h (nI_pos (by omega))) (fun h24 => ?_)
      refine g_al0 (pc2 := 28) dX4_start_27 rfl ?_
      refine g_getr (pc2 := 31) (by rfl) (by rfl) flX4_11 dX4_start_28 rfl ?_
      refine g_il1 (pc2 := 32) dX4_start_31 rfl ?_
      refine g_iconst (pc2 := 33) dX4_start_32 k_iconst_5 rfl ?_
      refine g_imulN (pc2 := 34) dX4_start_33 rfl ?_
      refine g_iconst (pc2 := 35) dX4_start_34 k_iconst_4 rfl ?_
      refine g_iaddN (pc2 := 36) dX4_start_35 rfl ?_
      refine g_iald (pc2 := 37) (by rfl) (by omega) (by decide) dX4_start_36 rfl ?_
      rw [e40]
      refine g_is2 (pc2 := 38) dX4_start_37 (by decide) rfl ?_
      refine g_iconst (pc2 := 39) dX4_start_38 k_iconst_0 rfl ?_
      refine g_is3 (pc2 := 40) dX4_start_39 (by decide) rfl ?_
      exact key2 0 (Nat.zero_le _)
  have e2 : σ 13 2 = nI N := hc.2.1.1.2.2.1.trans hN.1
  generalize hσ1 : lt_up σ 41 N (nI 0) = σ1
  have e2' : σ1 13 2 = nI N := by rw [← hσ1]; exact e2
  refine g_al0 (pc2 := 1) dX4_start_0 rfl ?_
  refine g_getr (pc2 := 4) (by rfl) (by rfl) flX4_15 dX4_start_1 rfl ?_
  refine g_al0 (pc2 := 5) dX4_start_4 rfl ?_
  refine g_getr (pc2 := 8) (by rfl) (by rfl) flX4_28 dX4_start_5 rfl ?_
  refine g_geti (pc2 := 11) (by rfl) (by rfl) flX4_47 dX4_start_8 rfl ?_
  rw [e2]
  refine g_iconst (pc2 := 12) dX4_start_11 k_iconst_0 rfl ?_
  refine g_iast (pc2 := 13) (by rfl) (by omega) (by decide) dX4_start_12 rfl ?_
  rw [hσ1]
  refine g_al0 (pc2 := 14) dX4_start_13 rfl ?_
  refine g_getr (pc2 := 17) (by rfl) (by rfl) flX4_28 dX4_start_14 rfl ?_
  refine g_geti (pc2 := 20) (by rfl) (by rfl) flX4_47 dX4_start_17 rfl ?_
  rw [e2']
  refine g_iconst (pc2 := 21) dX4_start_20 k_iconst_1 rfl ?_
  refine g_isub (pc2 := 22) dX4_start_21 rfl ?_
  rw [I_sub1]
  refine g_is1 (pc2 := 23) dX4_start_22 (by decide) rfl ?_
  exact key N 0 rfl σ1 _ _ (fun a ha => by rw [← hσ1, lt_up_nr _ _ _ ha]) (fun i j hi hij => by rw [show i = N by omega, show j = 0 by omega, ← hσ1, lt_up_at]; rfl)
