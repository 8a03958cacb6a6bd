/-! the reference: the search's loop -/
def SV (σ0 σ : lt_S) : Prop := (∀ a, a ≠ 84 → a ≠ 85 → a ≠ 76 → σ a = σ0 a) ∧ ∀ k, k ≠ 13 → k ≠ 14 → σ 76 k = σ0 76 k
theorem SV.rf (σ : lt_S) : SV σ σ := ⟨fun _ _ _ _ => rfl, fun _ _ _ => rfl⟩
theorem SV.tried {σ0 σ : lt_S} (h : SV σ0 σ) (k : Nat) (x : Int32) : SV σ0 (lt_up σ 84 k x) := ⟨fun a h1 h2 h3 => by rw [lt_up_nr _ _ _ h1]; exact h.1 a h1 h2 h3, fun j h1 h2 => h.2 j h1 h2⟩
theorem BR.tried {w : Nat → Int32} {law : Int32} {N : Nat} {σ : lt_S} {b : sBest} (h : BR w law N σ b) (k : Nat) (x : Int32) : BR w law N (lt_up σ 84 k x) b := by
  cases b with
  | none => exact h
  | some q => exact h
theorem sub_1 (m : Nat) : nI (m + 1) + Int32.ofInt (-1) = nI m := by
  rw [show Int32.ofInt (-1) = -1 by decide]
  exact pk_m1 m
theorem noneN_congr {f g : Nat → Nat} {m : Nat} (h : ∀ j, j < m → f j = g j) : noneN f m = noneN g m := sumF_congr (fun i hi => by rw [h i hi])
theorem likeN_congr {w : Nat → Int32} {law : Int32} {f g : Nat → Nat} {m : Nat} (h : ∀ j, j < m → f j = g j) : likeN w law f m = likeN w law g m := sumF_congr (fun i hi => by rw [h i hi])
theorem fw_prune {w : Nat → Int32} {law nt : Int32} {T N n m : Nat} (hN : N ≤ 7) (hmn : m + n = N) (f : Nat → Nat) (b : sBest) {σ : lt_S} (hB : BR w law N σ b) {fn fl : Nat} (h1 : σ 76 13 = nI fn) (h2 : σ 76 14 = nI fl) (h3 : fn ≤ 8) (h4 : fl ≤ 8) (hw : (decide (noneN f m < fn) || (decide (noneN f m = fn) && decide (fl < likeN w law f m + N - m))) = false) : exN (lgB w nt T) (costN w law N) n m f b = b := by
  refine exN_prune (lgB_congr w nt T) n m f b (fun g hg _ => ?_)
  obtain ⟨fn', fl', e1, e2, e3, e4, e5⟩ := hB.nums
  have q1 : fn' = fn := (nI_eq (by omega) (by omega)).mp (e1.symm.trans h1)
  have q2 : fl' = fl := (nI_eq (by omega) (by omega)).mp (e2.symm.trans h2)
  subst q1
  subst q2
  have c1 := noneN_congr (f := g) (g := f) (m := m) hg
  have c2 := likeN_congr (w := w) (law := law) (f := g) (g := f) (m := m) hg
  have s1 := sumF_mono (fun i => decide (g i = 4)) (m := m) (n := N) (by omega)
  have s2 := sumF_mono (fun i => likeB w law i (g i)) (m := m) (n := N) (by omega)
  have t1 : noneN g m ≤ noneN g N := s1.1
  have t2 : likeN w law g N ≤ likeN w law g m + (N - m) := s2.2
  have t3 : noneN g N ≤ N := sumF_le _ N
  have t4 : likeN w law g N ≤ N := sumF_le _ N
  have t5 : noneN f m ≤ m := sumF_le _ m
  have t6 : likeN w law f m ≤ m := sumF_le _ m
  rcases e5 (noneN g N) (likeN w law g N) t3 t4 with e5 | e5
  · cases hc : sLess (costN w law N g) b with
    | false => rfl
    | true =>
      have := e5.mp hc
      simp only [Bool.or_eq_false_iff, Bool.and_eq_false_iff, decide_eq_false_iff_not] at hw
      omega
  · omega
theorem fw_body (l : lt_L) (d : Nat) (σ0 : lt_S) {ln T N : Nat} (hw : Wf (σ0 77) ln T N) (law nt : Int32) (hL : Lay σ0 (σ0 77) nt T N) (Q : lt_Q) (n m : Nat) (hmn : m + n + 1 = N) (f : Nat → Nat) (hf5 : ∀ j, j < m → f j < 5) (o : Nat) (ho : o < 5) (b : sBest) (σ : lt_S) (hS : SV σ0 σ) (hp : ∀ q, q < m → σ 84 q = nI (f q)) (hm : σ 84 m + nI 1 = nI o) (hB : BR (σ0 77) law N σ b)
    (hskip : ∀ σ', SV σ0 σ' → (∀ q, q < m → σ' 84 q = nI (f q)) → σ' 84 m = nI o → BR (σ0 77) law N σ' b → (if lgB (σ0 77) nt T f m o then exN (lgB (σ0 77) nt T) (costN (σ0 77) law N) n (m + 1) (upN f m o) b else b) = b → lt_G l (d + 4) 0 0 mX8_findsWay 0 0 lt_SA σ' 44 [some (.ref 76), some (.int law), some (.int nt), some (.int (nI N)), some (.int (nI m))] [] Q)
    (hgo : ∀ σ', SV σ0 σ' → (∀ q, q < m → σ' 84 q = nI (f q)) → σ' 84 m = nI o → BR (σ0 77) law N σ' b → lgB (σ0 77) nt T f m o = true → lt_G l (d + 4) 0 0 mX8_findsWay 0 0 lt_SA σ' 105 [some (.ref 76), some (.int law), some (.int nt), some (.int (nI N)), some (.int (nI m))] [] Q) :
    lt_G l (d + 4) 0 0 mX8_findsWay 0 0 lt_SA σ 44 [some (.ref 76), some (.int law), some (.int nt), some (.int (nI N)), some (.int (nI m))] [] Q := by
  have hN := hw.2.2.1
  have hm7 : m < 7 := by omega
  generalize hσ1 : lt_up σ 84 m (σ 84 m + nI 1) = σ1
  have hS1 : SV σ0 σ1 := by rw [← hσ1]; exact hS.tried _ _
  have hB1 : BR (σ0 77) law N σ1 b := by rw [← hσ1]; exact hB.tried _ _
  have h84 : σ1 84 m = nI o := by rw [← hσ1, lt_up_at, hm]
  have hp1 : ∀ q, q < m → σ1 84 q = nI (f q) := fun q hq => by rw [← hσ1, lt_up_ne _ _ _ (by omega)]; exact hp q hq
  have hL1 : Lay σ1 (σ0 77) nt T N := ⟨fun x hx => by rw [hS1.1 82 (by decide) (by decide) (by decide)]; exact hL.1 x hx, fun x y hx hy => by rw [hS1.1 83 (by decide) (by decide) (by decide)]; exact hL.2 x y hx hy⟩
  have e77 : σ1 77 = σ0 77 := hS1.1 77 (by decide) (by decide) (by decide)
  obtain ⟨fn, fl, n1, n2, n3, n4, -⟩ := hB1.nums
  have hpf : ∀ j, j < m + 1 → σ1 84 j = nI (upN f m o j) ∧ upN f m o j < 5 := by
    intro j hj
    by_cases e : j = m
    · subst e; rw [upN_eq]; exact ⟨h84, ho⟩
    · rw [upN_lt (by omega)]; exact ⟨hp1 j (by omega), hf5 j (by omega)⟩
  refine g_il4 (pc2 := 46) dX8_findsWay_44 rfl ?_
  refine g_if_lt 135 49 dX8_findsWay_46 rfl rfl (fun h => absurd h (nI_pos (by omega))) (fun h46 => ?_)
  refine g_al0 (pc2 := 50) dX8_findsWay_49 rfl ?_
  refine g_getr (pc2 := 53) (by rfl) (by rfl) flX8_32 dX8_findsWay_50 rfl ?_
  refine g_il4 (pc2 := 55) dX8_findsWay_53 rfl ?_
  refine g_dup2 (pc2 := 56) dX8_findsWay_55 rfl ?_
  refine g_iald (pc2 := 57) (by rfl) (by omega) (by decide) dX8_findsWay_56 rfl ?_
  refine g_iconst (pc2 := 58) dX8_findsWay_57 k_iconst_1 rfl ?_
  refine g_iadd (pc2 := 59) dX8_findsWay_58 rfl ?_
  refine g_iast (pc2 := 60) (by rfl) (by omega) (by decide) dX8_findsWay_59 rfl ?_
  rw [hσ1]
  refine g_al0 (pc2 := 61) dX8_findsWay_60 rfl ?_
  refine g_getr (pc2 := 64) (by rfl) (by rfl) flX8_32 dX8_findsWay_61 rfl ?_
  refine g_il4 (pc2 := 66) dX8_findsWay_64 rfl ?_
  refine g_iald (pc2 := 67) (by rfl) (by omega) (by decide) dX8_findsWay_66 rfl ?_
  rw [h84]
  refine g_iconst (pc2 := 68) dX8_findsWay_67 k_iconst_4 rfl ?_
  refine g_icmpN_le 77 71 dX8_findsWay_68 rfl rfl (by omega) (by omega) (fun h68 => ?_) (fun h68 => ?_)
  · refine g_al0 (pc2 := 78) dX8_findsWay_77 rfl ?_
    refine g_il4 (pc2 := 80) dX8_findsWay_78 rfl ?_
    refine g_al0 (pc2 := 81) dX8_findsWay_80 rfl ?_
    refine g_getr (pc2 := 84) (by rfl) (by rfl) flX8_32 dX8_findsWay_81 rfl ?_
    refine g_il4 (pc2 := 86) dX8_findsWay_84 rfl ?_
    refine g_iald (pc2 := 87) (by rfl) (by omega) (by decide) dX8_findsWay_86 rfl ?_
    rw [h84]
    refine g_cVi (pc2 := 90) (R_m_may l (d + 2) _ hN.2 hL1 f m o (by omega) ho (fun j hj => ⟨hp1 j hj, hf5 j hj⟩)) meX8_may mlX8_177 (by rfl) ⟨_, rfl, rfl⟩ rfl rfl (by simp) ⟨Nat.le_refl _, Nat.le_refl _⟩ dX8_findsWay_87 rfl ?_
    refine g_if_eqB 44 93 dX8_findsWay_90 rfl rfl (fun h90 => ?_) (fun h90 => ?_)
    · exact hskip σ1 hS1 hp1 h84 hB1 (by first | (rw [h90]; rfl) | (rw [if_pos h90]; rw [e77] at h102; exact fw_prune hN.2 (by omega) _ b hB1 n1 n2 (by omega) (by omega) h102))
    · refine g_al0 (pc2 := 94) dX8_findsWay_93 rfl ?_
      refine g_il1 (pc2 := 95) dX8_findsWay_94 rfl ?_
      refine g_il4 (pc2 := 97) dX8_findsWay_95 rfl ?_
      refine g_iconst (pc2 := 98) dX8_findsWay_97 k_iconst_1 rfl ?_
      refine g_iaddN (pc2 := 99) dX8_findsWay_98 rfl ?_
      refine g_cVi (pc2 := 102) (R_m_isWorth l d _ law hN.2 (by rw [e77]; exact hN.1) (upN f m o) (m + 1) (by omega) hpf n1 n2 (by omega) (by omega)) meX8_isWorth mlX8_180 (by rfl) ⟨_, rfl, rfl⟩ rfl rfl (by simp) ⟨Nat.le_refl _, Nat.le_refl _⟩ dX8_findsWay_99 rfl ?_
      refine g_if_eqB 44 105 dX8_findsWay_102 rfl rfl (fun h102 => ?_) (fun h102 => ?_)
      · exact hskip σ1 hS1 hp1 h84 hB1 (by first | (rw [h90]; rfl) | (rw [if_pos h90]; rw [e77] at h102; exact fw_prune hN.2 (by omega) _ b hB1 n1 n2 (by omega) (by omega) h102))
      · exact hgo σ1 hS1 hp1 h84 hB1 h90
  · omega
theorem fw_take {w : Nat → Int32} {law : Int32} {N : Nat} (hN : N ≤ 7) (f : Nat → Nat) {σ0 σ : lt_S} (hS : SV σ0 σ) (e77 : σ 77 = w) (hf : ∀ j, j < N → σ 84 j = nI (f j) ∧ f j < 5) {b : sBest} (hB : BR w law N σ b) {fn fl : Nat} (h1 : σ 76 13 = nI fn) (h2 : σ 76 14 = nI fl) (h3 : fn ≤ 8) (h4 : fl ≤ 8) :
    SV σ0 (if decide (noneN f N < fn) || (decide (noneN f N = fn) && decide (fl < likeN (σ 77) law f N)) then lt_ur (lt_up (lt_up σ 76 13 (nI (noneN f N))) 76 14 (nI (likeN (σ 77) law f N))) 85 (va_cpy (σ 84) (σ 85) 0 0 N) else σ) ∧ (if decide (noneN f N < fn) || (decide (noneN f N = fn) && decide (fl < likeN (σ 77) law f N)) then lt_ur (lt_up (lt_up σ 76 13 (nI (noneN f N))) 76 14 (nI (likeN (σ 77) law f N))) 85 (va_cpy (σ 84) (σ 85) 0 0 N) else σ) 84 = σ 84 ∧ BR w law N (if decide (noneN f N < fn) || (decide (noneN f N = fn) && decide (fl < likeN (σ 77) law f N)) then lt_ur (lt_up (lt_up σ 76 13 (nI (noneN f N))) 76 14 (nI (likeN (σ 77) law f N))) 85 (va_cpy (σ 84) (σ 85) 0 0 N) else σ) (if sLess (costN w law N f) b then some (costN w law N f, f) else b) := by
  obtain ⟨fn', fl', e1, e2, e3, e4, e5⟩ := hB.nums
  have q1 : fn' = fn := (nI_eq (by omega) (by omega)).mp (e1.symm.trans h1)
  have q2 : fl' = fl := (nI_eq (by omega) (by omega)).mp (e2.symm.trans h2)
  subst q1
  subst q2
  have t3 : noneN f N ≤ N := sumF_le _ N
  have t4 : likeN w law f N ≤ N := sumF_le _ N
  rcases e5 (noneN f N) (likeN w law f N) t3 t4 with e5 | e5
  · rw [e77]
    by_cases hc : sLess (costN w law N f) b = true
    · have hd : (decide (noneN f N < fn') || (decide (noneN f N = fn') && decide (fl' < likeN w law f N))) = true := by
        have := e5.mp hc
        simp only [Bool.or_eq_true, Bool.and_eq_true, decide_eq_true_eq]
        exact this
      rw [if_pos hd, if_pos hc]
      refine ⟨⟨fun a a1 a2 a3 => ?_, fun k k1 k2 => ?_⟩, ?_, ⟨?_, ?_, rfl, fun j hj => ?_⟩⟩
      · rw [lt_ur_ne _ _ a2, lt_up_nr _ _ _ a3, lt_up_nr _ _ _ a3]; exact hS.1 a a1 a2 a3
      · rw [lt_ur_ne _ _ (by decide), lt_up_ne _ _ _ k2, lt_up_ne _ _ _ k1]; exact hS.2 k k1 k2
      · rfl
      · rw [lt_ur_ne _ _ (by decide), lt_up_ne _ _ _ (by decide), lt_up_at]
      · rw [lt_ur_ne _ _ (by decide), lt_up_at]
      · rw [lt_ur_eq, pk_cpy_in (by omega) (by omega), show 0 + (j - 0) = j by omega]
        exact hf j hj
    · have hd : ¬ (decide (noneN f N < fn') || (decide (noneN f N = fn') && decide (fl' < likeN w law f N))) = true := by
        intro z
        apply hc
        simp only [Bool.or_eq_true, Bool.and_eq_true, decide_eq_true_eq] at z
        exact e5.mpr z
      rw [if_neg hd, if_neg hc]
      exact ⟨hS, rfl, hB⟩
  · omega
theorem fw_loop (l : lt_L) (d : Nat) (σ0 : lt_S) {ln T N : Nat} (hw : Wf (σ0 77) ln T N) (law nt : Int32) (hL : Lay σ0 (σ0 77) nt T N) (Q : lt_Q) : ∀ (n m : Nat), m + n + 1 = N → ∀ (f : Nat → Nat) (_ : ∀ j, j < m → f j < 5) (j : Nat), j ≤ 5 → ∀ (b : sBest) (σ : lt_S), SV σ0 σ → (∀ q, q < m → σ 84 q = nI (f q)) → σ 84 m + nI 1 = nI (5 - j) → BR (σ0 77) law N σ b →
    (∀ σ', SV σ0 σ' → (∀ q, q < m → σ' 84 q = nI (f q)) → BR (σ0 77) law N σ' (exO (fun f' b' => exN (lgB (σ0 77) nt T) (costN (σ0 77) law N) n (m + 1) f' b') (lgB (σ0 77) nt T) m f j b) → lt_G l (d + 4) 0 0 mX8_findsWay 0 0 lt_SA σ' 44 [some (.ref 76), some (.int law), some (.int nt), some (.int (nI N)), some (.int (nI m + Int32.ofInt (-1)))] [] Q) →
    lt_G l (d + 4) 0 0 mX8_findsWay 0 0 lt_SA σ 44 [some (.ref 76), some (.int law), some (.int nt), some (.int (nI N)), some (.int (nI m))] [] Q := by
  have hN := hw.2.2.1
  intro n
  induction n with
  | zero =>
    intro m hmn f hf j
    induction j with
    | zero =>
      intro _ b σ hS hp hm hB K
      have hm7 : m < 7 := by omega
      generalize hσ1 : lt_up σ 84 m (σ 84 m + nI 1) = σ1
      have hS1 : SV σ0 σ1 := by rw [← hσ1]; exact hS.tried _ _
      have hB1 : BR (σ0 77) law N σ1 b := by rw [← hσ1]; exact hB.tried _ _
      have h84 : σ1 84 m = nI 5 := by rw [← hσ1, lt_up_at, hm]
      have hp1 : ∀ q, q < m → σ1 84 q = nI (f q) := fun q hq => by rw [← hσ1, lt_up_ne _ _ _ (by omega)]; exact hp q hq
      refine g_il4 (pc2 := 46) dX8_findsWay_44 rfl ?_
      refine g_if_lt 135 49 dX8_findsWay_46 rfl rfl (fun h => absurd h (nI_pos (by omega))) (fun h46 => ?_)
      refine g_al0 (pc2 := 50) dX8_findsWay_49 rfl ?_
      refine g_getr (pc2 := 53) (by rfl) (by rfl) flX8_32 dX8_findsWay_50 rfl ?_
      refine g_il4 (pc2 := 55) dX8_findsWay_53 rfl ?_
      refine g_dup2 (pc2 := 56) dX8_findsWay_55 rfl ?_
      refine g_iald (pc2 := 57) (by rfl) (by omega) (by decide) dX8_findsWay_56 rfl ?_
      refine g_iconst (pc2 := 58) dX8_findsWay_57 k_iconst_1 rfl ?_
      refine g_iadd (pc2 := 59) dX8_findsWay_58 rfl ?_
      refine g_iast (pc2 := 60) (by rfl) (by omega) (by decide) dX8_findsWay_59 rfl ?_
      rw [hσ1]
      refine g_al0 (pc2 := 61) dX8_findsWay_60 rfl ?_
      refine g_getr (pc2 := 64) (by rfl) (by rfl) flX8_32 dX8_findsWay_61 rfl ?_
      refine g_il4 (pc2 := 66) dX8_findsWay_64 rfl ?_
      refine g_iald (pc2 := 67) (by rfl) (by omega) (by decide) dX8_findsWay_66 rfl ?_
      rw [h84]
      refine g_iconst (pc2 := 68) dX8_findsWay_67 k_iconst_4 rfl ?_
      refine g_icmpN_le 77 71 dX8_findsWay_68 rfl rfl (by omega) (by omega) (fun h68 => ?_) (fun h68 => ?_)
      · omega
      · refine g_in4 (pc2 := 74) dX8_findsWay_71 rfl (by decide) rfl ?_
        refine g_goto 44 dX8_findsWay_74 rfl ?_
        exact K σ1 hS1 hp1 hB1
    | succ j ihj =>
      intro hj b σ hS hp hm hB K
      refine fw_body l d σ0 hw law nt hL Q 0 m hmn f hf (4 - j) (by omega) b σ hS hp (by rw [hm]; congr 1; omega) hB ?_ ?_
      · intro σ' s1 s2 s3 s4 s5
        refine ihj (by omega) b σ' s1 s2 (by rw [s3, nI_1 (4 - j) |> fun h => (show nI (4 - j) + nI 1 = nI (4 - j + 1) from nI_add _ _)]; congr 1; omega) s4 (fun σ'' u1 u2 u3 => K σ'' u1 u2 ?_)
        simp only [exO]
        rw [s5]
        exact u3
      · intro σ' s1 s2 s3 s4 s5
        obtain ⟨fn, fl, n1, n2, n3, n4, -⟩ := s4.nums
        have e77 : σ' 77 = σ0 77 := s1.1 77 (by decide) (by decide) (by decide)
        have hpf : ∀ q, q < N → σ' 84 q = nI (upN f m (4 - j) q) ∧ upN f m (4 - j) q < 5 := by
          intro q hq
          by_cases e : q = m
          · subst e; rw [upN_eq]; exact ⟨s3, by omega⟩
          · rw [upN_lt (by omega)]; exact ⟨s2 q (by omega), hf q (by omega)⟩
        obtain ⟨r1, r2, r3⟩ := fw_take hN.2 (upN f m (4 - j)) s1 e77 hpf s4 n1 n2 (by omega) (by omega)
        have tk := R_m_takesIfBetter l d σ' law hN.2 (by rw [e77]; exact hN.1) (upN f m (4 - j)) hpf n1 n2 (by omega) (by omega)
        generalize (if decide (noneN (upN f m (4 - j)) N < fn) || (decide (noneN (upN f m (4 - j)) N = fn) && decide (fl < likeN (σ' 77) law (upN f m (4 - j)) N)) then lt_ur (lt_up (lt_up σ' 76 13 (nI (noneN (upN f m (4 - j)) N))) 76 14 (nI (likeN (σ' 77) law (upN f m (4 - j)) N))) 85 (va_cpy (σ' 84) (σ' 85) 0 0 N) else σ') = σ2 at r1 r2 r3 tk
        have hm1 : N - 1 = m := by omega
        refine g_il4 (pc2 := 107) dX8_findsWay_105 rfl ?_
        refine g_il3 (pc2 := 108) dX8_findsWay_107 rfl ?_
        refine g_iconst (pc2 := 109) dX8_findsWay_108 k_iconst_1 rfl ?_
        refine g_isubN (pc2 := 110) dX8_findsWay_109 rfl (by omega) ?_
        refine g_icmpN_ne 121 113 dX8_findsWay_110 rfl rfl (by omega) (by omega) (fun h110 => ?_) (fun h110 => ?_)
        · omega
        · refine g_al0 (pc2 := 114) dX8_findsWay_113 rfl ?_
          refine g_il1 (pc2 := 115) dX8_findsWay_114 rfl ?_
          refine g_cVv (pc2 := 118) (tk) meX8_takesIfBetter mlX8_174 (by rfl) ⟨_, rfl, rfl⟩ rfl rfl (by simp) ⟨Nat.le_refl _, Nat.le_refl _⟩ dX8_findsWay_115 rfl ?_
          refine g_goto 44 dX8_findsWay_118 rfl ?_
          refine ihj (by omega) _ σ2 r1 (fun q hq => by rw [r2]; exact s2 q hq) (by rw [r2, s3, show nI (4 - j) + nI 1 = nI (4 - j + 1) from nI_add _ _]; congr 1; omega) r3 (fun σ9 u1 u2 u3 => K σ9 u1 u2 ?_)
          simp only [exO]
          rw [if_pos s5]
          exact u3
  | succ n ihn =>
    intro m hmn f hf j
    induction j with
    | zero =>
      intro _ b σ hS hp hm hB K
      have hm7 : m < 7 := by omega
      generalize hσ1 : lt_up σ 84 m (σ 84 m + nI 1) = σ1
      have hS1 : SV σ0 σ1 := by rw [← hσ1]; exact hS.tried _ _
      have hB1 : BR (σ0 77) law N σ1 b := by rw [← hσ1]; exact hB.tried _ _
      have h84 : σ1 84 m = nI 5 := by rw [← hσ1, lt_up_at, hm]
      have hp1 : ∀ q, q < m → σ1 84 q = nI (f q) := fun q hq => by rw [← hσ1, lt_up_ne _ _ _ (by omega)]; exact hp q hq
      refine g_il4 (pc2 := 46) dX8_findsWay_44 rfl ?_
      refine g_if_lt 135 49 dX8_findsWay_46 rfl rfl (fun h => absurd h (nI_pos (by omega))) (fun h46 => ?_)
      refine g_al0 (pc2 := 50) dX8_findsWay_49 rfl ?_
      refine g_getr (pc2 := 53) (by rfl) (by rfl) flX8_32 dX8_findsWay_50 rfl ?_
      refine g_il4 (pc2 := 55) dX8_findsWay_53 rfl ?_
      refine g_dup2 (pc2 := 56) dX8_findsWay_55 rfl ?_
      refine g_iald (pc2 := 57) (by rfl) (by omega) (by decide) dX8_findsWay_56 rfl ?_
      refine g_iconst (pc2 := 58) dX8_findsWay_57 k_iconst_1 rfl ?_
      refine g_iadd (pc2 := 59) dX8_findsWay_58 rfl ?_
      refine g_iast (pc2 := 60) (by rfl) (by omega) (by decide) dX8_findsWay_59 rfl ?_
      rw [hσ1]
      refine g_al0 (pc2 := 61) dX8_findsWay_60 rfl ?_
      refine g_getr (pc2 := 64) (by rfl) (by rfl) flX8_32 dX8_findsWay_61 rfl ?_
      refine g_il4 (pc2 := 66) dX8_findsWay_64 rfl ?_
      refine g_iald (pc2 := 67) (by rfl) (by omega) (by decide) dX8_findsWay_66 rfl ?_
      rw [h84]
      refine g_iconst (pc2 := 68) dX8_findsWay_67 k_iconst_4 rfl ?_
      refine g_icmpN_le 77 71 dX8_findsWay_68 rfl rfl (by omega) (by omega) (fun h68 => ?_) (fun h68 => ?_)
      · omega
      · refine g_in4 (pc2 := 74) dX8_findsWay_71 rfl (by decide) rfl ?_
        refine g_goto 44 dX8_findsWay_74 rfl ?_
        exact K σ1 hS1 hp1 hB1
    | succ j ihj =>
      intro hj b σ hS hp hm hB K
      refine fw_body l d σ0 hw law nt hL Q (n + 1) m hmn f hf (4 - j) (by omega) b σ hS hp (by rw [hm]; congr 1; omega) hB ?_ ?_
      · intro σ' s1 s2 s3 s4 s5
        refine ihj (by omega) b σ' s1 s2 (by rw [s3, show nI (4 - j) + nI 1 = nI (4 - j + 1) from nI_add _ _]; congr 1; omega) s4 (fun σ'' u1 u2 u3 => K σ'' u1 u2 ?_)
        simp only [exO]
        rw [s5]
        exact u3
      · intro σ' s1 s2 s3 s4 s5
        have hm7 : m + 1 < 7 := by omega
        refine g_il4 (pc2 := 107) dX8_findsWay_105 rfl ?_
        refine g_il3 (pc2 := 108) dX8_findsWay_107 rfl ?_
        refine g_iconst (pc2 := 109) dX8_findsWay_108 k_iconst_1 rfl ?_
        refine g_isubN (pc2 := 110) dX8_findsWay_109 rfl (by omega) ?_
        refine g_icmpN_ne 121 113 dX8_findsWay_110 rfl rfl (by omega) (by omega) (fun h110 => ?_) (fun h110 => ?_)
        · refine g_in4 (pc2 := 124) dX8_findsWay_121 (nI_inc _) (by decide) rfl ?_
          refine g_al0 (pc2 := 125) dX8_findsWay_124 rfl ?_
          refine g_getr (pc2 := 128) (by rfl) (by rfl) flX8_32 dX8_findsWay_125 rfl ?_
          refine g_il4 (pc2 := 130) dX8_findsWay_128 rfl ?_
          refine g_iconst (pc2 := 131) dX8_findsWay_130 k_iconst_m1 rfl ?_
          refine g_iast (pc2 := 132) (by rfl) (by omega) (by decide) dX8_findsWay_131 rfl ?_
          refine g_goto 44 dX8_findsWay_132 rfl ?_
          refine ihn (m + 1) (by omega) (upN f m (4 - j)) (fun q hq => by unfold upN; split <;> first | omega | exact hf q (by omega)) 5 (Nat.le_refl _) b _ (s1.tried _ _) (fun q hq => ?_) (by rw [lt_up_at]; decide) (s4.tried _ _) (fun σ9 u1 u2 u3 => ?_)
          · rw [lt_up_ne _ _ _ (by omega)]
            by_cases e : q = m
            · subst e; rw [upN_eq]; exact s3
            · rw [upN_lt (by omega)]; exact s2 q (by omega)
          · rw [sub_1]
            refine ihj (by omega) _ σ9 u1 (fun q hq => by rw [u2 q (by omega), upN_lt hq]) (by rw [u2 m (by omega), upN_eq, show nI (4 - j) + nI 1 = nI (4 - j + 1) from nI_add _ _]; congr 1; omega) u3 (fun σ8 v1 v2 v3 => K σ8 v1 v2 ?_)
            simp only [exO]
            rw [if_pos s5]
            exact v3
        · omega
