/-! the reference: the search -/
theorem R_m_asTrack (l : lt_L) (d : Nat) (sh : lt_H) (σ : lt_S) (o : Nat) (ho : o < 100) : lt_T l (d + 1) mX8_asTrack sh σ [.int (nI o)] (some (asT o)) σ := by
  refine lt_T.of [some (.int (nI o))] rfl rfl (Nat.le_of_ble_eq_true rfl) ?_
  refine g_il0 (pc2 := 1) dX8_asTrack_0 rfl ?_
  refine g_iconst (pc2 := 2) dX8_asTrack_1 k_iconst_4 rfl ?_
  refine g_icmpN_ne 10 5 dX8_asTrack_2 rfl rfl (by omega) (by omega) (fun h2 => ?_) (fun h2 => ?_)
  · refine g_il0 (pc2 := 11) dX8_asTrack_10 rfl ?_
    exact g_iretT dX8_asTrack_11 rfl (Nat.le_refl _) (Nat.le_refl _) (by simp [asT, h2]) (rfl)
  · refine g_bipush (pc2 := 7) dX8_asTrack_5 k_bipush_m4 rfl ?_
    refine g_goto 11 dX8_asTrack_7 rfl ?_
    exact g_iretT dX8_asTrack_11 rfl (Nat.le_refl _) (Nat.le_refl _) (by simp [asT, h2]) (rfl)
theorem R_m_noneOf (l : lt_L) (d : Nat) (σ : lt_S) (f : Nat → Nat) (m : Nat) (hm : m ≤ 7) (hf : ∀ j, j < m → σ 84 j = nI (f j) ∧ f j < 5) : lt_T l (d + 1) mX8_noneOf lt_SA σ [.ref 76, .int (nI m)] (some (nI (noneN f m))) σ := by
  refine lt_T.of [some (.ref 76), some (.int (nI m)), none, none] rfl rfl (Nat.le_of_ble_eq_true rfl) ?_
  unfold noneN
  have key : ∀ k, k ≤ m → lt_g l (d + 1) mX8_noneOf lt_SA σ 4 [some (.ref 76), some (.int (nI m)), some (.int (nI (sumF (fun i => decide (f i = 4)) k))), some (.int (nI k))] [] (some (nI (sumF (fun i => decide (f i = 4)) m))) σ := by
    refine lt_dn m ?_ ?_
    · refine g_il3 (pc2 := 5) dX8_noneOf_4 rfl ?_
      refine g_il1 (pc2 := 6) dX8_noneOf_5 rfl ?_
      refine g_icmpN_ge 33 9 dX8_noneOf_6 rfl rfl (by omega) (by omega) (fun h6 => ?_) (fun h6 => ?_)
      · refine g_il2 (pc2 := 34) dX8_noneOf_33 rfl ?_
        exact g_iretT dX8_noneOf_34 rfl (Nat.le_refl _) (Nat.le_refl _) (rfl) (rfl)
      · omega
    · intro k hk ih
      have hk2 := hf k hk
      refine g_il3 (pc2 := 5) dX8_noneOf_4 rfl ?_
      refine g_il1 (pc2 := 6) dX8_noneOf_5 rfl ?_
      refine g_icmpN_ge 33 9 dX8_noneOf_6 rfl rfl (by omega) (by omega) (fun h6 => ?_) (fun h6 => ?_)
      · omega
      · refine g_il2 (pc2 := 10) dX8_noneOf_9 rfl ?_
        refine g_al0 (pc2 := 11) dX8_noneOf_10 rfl ?_
        refine g_getr (pc2 := 14) (by rfl) (by rfl) flX8_32 dX8_noneOf_11 rfl ?_
        refine g_il3 (pc2 := 15) dX8_noneOf_14 rfl ?_
        refine g_iald (pc2 := 16) (by rfl) (by omega) (by decide) dX8_noneOf_15 rfl ?_
        rw [hk2.1]
        refine g_iconst (pc2 := 17) dX8_noneOf_16 k_iconst_4 rfl ?_
        refine g_icmpN_ne 24 20 dX8_noneOf_17 rfl rfl (by omega) (by omega) (fun h17 => ?_) (fun h17 => ?_)
        · refine g_iconst (pc2 := 25) dX8_noneOf_24 k_iconst_0 rfl ?_
          refine g_iaddN (pc2 := 26) dX8_noneOf_25 rfl ?_
          refine g_is2 (pc2 := 27) dX8_noneOf_26 (by decide) rfl ?_
          refine g_in3 (pc2 := 30) dX8_noneOf_27 (nI_inc _) (by decide) rfl ?_
          refine g_goto 4 dX8_noneOf_30 rfl ?_
          simp only [sumF] at ih
          first | (rw [if_pos (by simp [h17])] at ih; exact ih) | (rw [if_neg (by simp [h17])] at ih; exact ih)
        · refine g_iconst (pc2 := 21) dX8_noneOf_20 k_iconst_1 rfl ?_
          refine g_goto 25 dX8_noneOf_21 rfl ?_
          refine g_iaddN (pc2 := 26) dX8_noneOf_25 rfl ?_
          refine g_is2 (pc2 := 27) dX8_noneOf_26 (by decide) rfl ?_
          refine g_in3 (pc2 := 30) dX8_noneOf_27 (nI_inc _) (by decide) rfl ?_
          refine g_goto 4 dX8_noneOf_30 rfl ?_
          simp only [sumF] at ih
          first | (rw [if_pos (by simp [h17])] at ih; exact ih) | (rw [if_neg (by simp [h17])] at ih; exact ih)
  refine g_iconst (pc2 := 1) dX8_noneOf_0 k_iconst_0 rfl ?_
  refine g_is2 (pc2 := 2) dX8_noneOf_1 (by decide) rfl ?_
  refine g_iconst (pc2 := 3) dX8_noneOf_2 k_iconst_0 rfl ?_
  refine g_is3 (pc2 := 4) dX8_noneOf_3 (by decide) rfl ?_
  exact key 0 (Nat.zero_le _)
theorem R_m_like (l : lt_L) (d : Nat) (σ : lt_S) (law : Int32) (f : Nat → Nat) (m : Nat) (hm : m ≤ 7) (hf : ∀ j, j < m → σ 84 j = nI (f j) ∧ f j < 5) : lt_T l (d + 2) mX8_like lt_SA σ [.ref 76, .int law, .int (nI m)] (some (nI (likeN (σ 77) law f m))) σ := by
  refine lt_T.of [some (.ref 76), some (.int law), some (.int (nI m)), none, none, none] rfl rfl (Nat.le_of_ble_eq_true rfl) ?_
  unfold likeN
  have key : ∀ k, k ≤ m → ∀ z : Option Value, lt_g l (d + 2) mX8_like lt_SA σ 5 [some (.ref 76), some (.int law), some (.int (nI m)), some (.int (nI (sumF (fun i => likeB (σ 77) law i (f i)) k))), some (.int (nI k)), z] [] (some (nI (sumF (fun i => likeB (σ 77) law i (f i)) m))) σ := by
    refine lt_dn m ?_ ?_
    · intro z
      refine g_il4 (pc2 := 7) dX8_like_5 rfl ?_
      refine g_il2 (pc2 := 8) dX8_like_7 rfl ?_
      refine g_icmpN_ge 81 11 dX8_like_8 rfl rfl (by omega) (by omega) (fun h8 => ?_) (fun h8 => ?_)
      · refine g_il3 (pc2 := 82) dX8_like_81 rfl ?_
        exact g_iretT dX8_like_82 rfl (Nat.le_refl _) (Nat.le_refl _) (rfl) (rfl)
      · omega
    · intro k hk ih z
      have hk2 := hf k hk
      have ih1 := fun (h : likeB (σ 77) law k (f k) = true) => (show ∀ z, lt_g l (d + 2) mX8_like lt_SA σ 5 [some (.ref 76), some (.int law), some (.int (nI m)), some (.int (nI (sumF (fun i => likeB (σ 77) law i (f i)) k + 1))), some (.int (nI (k + 1))), z] [] (some (nI (sumF (fun i => likeB (σ 77) law i (f i)) m))) σ from fun z => by have := ih z; simp only [sumF, h] at this; exact this)
      have ih0 := fun (h : likeB (σ 77) law k (f k) = false) => (show ∀ z, lt_g l (d + 2) mX8_like lt_SA σ 5 [some (.ref 76), some (.int law), some (.int (nI m)), some (.int (nI (sumF (fun i => likeB (σ 77) law i (f i)) k + 0))), some (.int (nI (k + 1))), z] [] (some (nI (sumF (fun i => likeB (σ 77) law i (f i)) m))) σ from fun z => by have := ih z; simp only [sumF, h] at this; exact this)
      refine g_il4 (pc2 := 7) dX8_like_5 rfl ?_
      refine g_il2 (pc2 := 8) dX8_like_7 rfl ?_
      refine g_icmpN_ge 81 11 dX8_like_8 rfl rfl (by omega) (by omega) (fun h8 => ?_) (fun h8 => ?_)
      · omega
      · refine g_al0 (pc2 := 12) dX8_like_11 rfl ?_
        refine g_getr (pc2 := 15) (by rfl) (by rfl) flX8_32 dX8_like_12 rfl ?_
        refine g_il4 (pc2 := 17) dX8_like_15 rfl ?_
        refine g_iald (pc2 := 18) (by rfl) (by omega) (by decide) dX8_like_17 rfl ?_
        rw [hk2.1]
        refine g_cSi (pc2 := 21) (R_m_asTrack l d _ _ _ (by omega)) meX8_asTrack mlX8_155 rfl rfl (by simp) ⟨Nat.le_refl _, Nat.le_refl _⟩ dX8_like_18 rfl ?_
        refine g_is5 (pc2 := 23) dX8_like_21 (by decide) rfl ?_
        refine g_il3 (pc2 := 24) dX8_like_23 rfl ?_
        refine g_il1 (pc2 := 25) dX8_like_24 rfl ?_
        refine g_if_ne 55 28 dX8_like_25 rfl rfl (fun h25 => ?_) (fun h25 => ?_)
        · refine g_il5 (pc2 := 57) dX8_like_55 rfl ?_
          refine g_al0 (pc2 := 58) dX8_like_57 rfl ?_
          refine g_il4 (pc2 := 60) dX8_like_58 rfl ?_
          refine g_bipush (pc2 := 62) dX8_like_60 k_bipush_6 rfl ?_
          refine g_cVi (pc2 := 65) (R_m_of l d _ _ _ (by omega) (by decide)) meX8_of mlX8_110 (by rfl) ⟨_, rfl, rfl⟩ rfl rfl (by simp) ⟨Nat.le_refl _, Nat.le_refl _⟩ dX8_like_62 rfl ?_
          refine g_icmp_ne 72 68 dX8_like_65 rfl rfl (fun h65 => ?_) (fun h65 => ?_)
          · refine g_iconst (pc2 := 73) dX8_like_72 k_iconst_0 rfl ?_
            refine g_iaddN (pc2 := 74) dX8_like_73 rfl ?_
            refine g_is3 (pc2 := 75) dX8_like_74 (by decide) rfl ?_
            refine g_in4 (pc2 := 78) dX8_like_75 (nI_inc _) (by decide) rfl ?_
            refine g_goto 5 dX8_like_78 rfl ?_
            first | exact ih1 (by first | (simp [likeB, h25, h32, h44]; done) | (simp [likeB, h25]; exact ⟨h32, h44⟩) | (simp [likeB, h25, h65]; done)) _ | exact ih0 (by first | (simp [likeB, h25, h32]; done) | (simp [likeB, h25, h44]; done) | (simp [likeB, h25, h65]; done)) _
          · refine g_iconst (pc2 := 69) dX8_like_68 k_iconst_1 rfl ?_
            refine g_goto 73 dX8_like_69 rfl ?_
            refine g_iaddN (pc2 := 74) dX8_like_73 rfl ?_
            refine g_is3 (pc2 := 75) dX8_like_74 (by decide) rfl ?_
            refine g_in4 (pc2 := 78) dX8_like_75 (nI_inc _) (by decide) rfl ?_
            refine g_goto 5 dX8_like_78 rfl ?_
            first | exact ih1 (by first | (simp [likeB, h25, h32, h44]; done) | (simp [likeB, h25]; exact ⟨h32, h44⟩) | (simp [likeB, h25, h65]; done)) _ | exact ih0 (by first | (simp [likeB, h25, h32]; done) | (simp [likeB, h25, h44]; done) | (simp [likeB, h25, h65]; done)) _
        · refine g_il5 (pc2 := 30) dX8_like_28 rfl ?_
          refine g_bipush (pc2 := 32) dX8_like_30 k_bipush_m4 rfl ?_
          refine g_icmp_eq 51 35 dX8_like_32 rfl rfl (fun h32 => ?_) (fun h32 => ?_)
          · refine g_iconst (pc2 := 52) dX8_like_51 k_iconst_0 rfl ?_
            refine g_goto 73 dX8_like_52 rfl ?_
            refine g_iaddN (pc2 := 74) dX8_like_73 rfl ?_
            refine g_is3 (pc2 := 75) dX8_like_74 (by decide) rfl ?_
            refine g_in4 (pc2 := 78) dX8_like_75 (nI_inc _) (by decide) rfl ?_
            refine g_goto 5 dX8_like_78 rfl ?_
            first | exact ih1 (by first | (simp [likeB, h25, h32, h44]; done) | (simp [likeB, h25]; exact ⟨h32, h44⟩) | (simp [likeB, h25, h65]; done)) _ | exact ih0 (by first | (simp [likeB, h25, h32]; done) | (simp [likeB, h25, h44]; done) | (simp [likeB, h25, h65]; done)) _
          · refine g_il5 (pc2 := 37) dX8_like_35 rfl ?_
            refine g_al0 (pc2 := 38) dX8_like_37 rfl ?_
            refine g_il4 (pc2 := 40) dX8_like_38 rfl ?_
            refine g_iconst (pc2 := 41) dX8_like_40 k_iconst_4 rfl ?_
            refine g_cVi (pc2 := 44) (R_m_of l d _ _ _ (by omega) (by decide)) meX8_of mlX8_110 (by rfl) ⟨_, rfl, rfl⟩ rfl rfl (by simp) ⟨Nat.le_refl _, Nat.le_refl _⟩ dX8_like_41 rfl ?_
            refine g_icmp_ne 51 47 dX8_like_44 rfl rfl (fun h44 => ?_) (fun h44 => ?_)
            · refine g_iconst (pc2 := 52) dX8_like_51 k_iconst_0 rfl ?_
              refine g_goto 73 dX8_like_52 rfl ?_
              refine g_iaddN (pc2 := 74) dX8_like_73 rfl ?_
              refine g_is3 (pc2 := 75) dX8_like_74 (by decide) rfl ?_
              refine g_in4 (pc2 := 78) dX8_like_75 (nI_inc _) (by decide) rfl ?_
              refine g_goto 5 dX8_like_78 rfl ?_
              first | exact ih1 (by first | (simp [likeB, h25, h32, h44]; done) | (simp [likeB, h25]; exact ⟨h32, h44⟩) | (simp [likeB, h25, h65]; done)) _ | exact ih0 (by first | (simp [likeB, h25, h32]; done) | (simp [likeB, h25, h44]; done) | (simp [likeB, h25, h65]; done)) _
            · refine g_iconst (pc2 := 48) dX8_like_47 k_iconst_1 rfl ?_
              refine g_goto 73 dX8_like_48 rfl ?_
              refine g_iaddN (pc2 := 74) dX8_like_73 rfl ?_
              refine g_is3 (pc2 := 75) dX8_like_74 (by decide) rfl ?_
              refine g_in4 (pc2 := 78) dX8_like_75 (nI_inc _) (by decide) rfl ?_
              refine g_goto 5 dX8_like_78 rfl ?_
              first | exact ih1 (by first | (simp [likeB, h25, h32, h44]; done) | (simp [likeB, h25]; exact ⟨h32, h44⟩) | (simp [likeB, h25, h65]; done)) _ | exact ih0 (by first | (simp [likeB, h25, h32]; done) | (simp [likeB, h25, h44]; done) | (simp [likeB, h25, h65]; done)) _
  refine g_iconst (pc2 := 1) dX8_like_0 k_iconst_0 rfl ?_
  refine g_is3 (pc2 := 2) dX8_like_1 (by decide) rfl ?_
  refine g_iconst (pc2 := 3) dX8_like_2 k_iconst_0 rfl ?_
  refine g_is4 (pc2 := 5) dX8_like_3 (by decide) rfl ?_
  exact key 0 (Nat.zero_le _) _
def fillF (g f0 : Nat → Int32) (k : Nat) : Nat → Int32 := fun j => if j < k then g j else f0 j
theorem fillF_0 (g f0 : Nat → Int32) : fillF g f0 0 = f0 := by
  funext j
  exact if_neg (by omega)
theorem fillF_s (g f0 : Nat → Int32) (k : Nat) : upd (fillF g f0 k) k (g k) = fillF g f0 (k + 1) := by
  funext j
  unfold upd fillF
  by_cases h : j = k
  · subst h; rw [if_pos rfl, if_pos (by omega)]
  · rw [if_neg h]
    by_cases h2 : j < k
    · rw [if_pos h2, if_pos (by omega)]
    · rw [if_neg h2, if_neg (by omega)]
def fill2 (g : Nat → Nat → Int32) (f0 : Nat → Int32) (x y : Nat) : Nat → Int32 := fun z => if (z / 28 < x ∧ z % 28 < z / 28) ∨ (z / 28 = x ∧ z % 28 < y) then g (z / 28) (z % 28) else f0 z
theorem fill2_0 (g : Nat → Nat → Int32) (f0 : Nat → Int32) : fill2 g f0 0 0 = f0 := by
  funext z
  exact if_neg (by omega)
theorem fill2_s (g : Nat → Nat → Int32) (f0 : Nat → Int32) (x y : Nat) (hy : y < 28) : upd (fill2 g f0 x y) (28 * x + y) (g x y) = fill2 g f0 x (y + 1) := by
  funext z
  unfold upd fill2
  by_cases h : z = 28 * x + y
  · subst h
    rw [if_pos rfl, if_pos (by omega), show (28 * x + y) / 28 = x by omega, show (28 * x + y) % 28 = y by omega]
  · rw [if_neg h]
    by_cases h2 : (z / 28 < x ∧ z % 28 < z / 28) ∨ (z / 28 = x ∧ z % 28 < y)
    · rw [if_pos h2, if_pos (by omega)]
    · rw [if_neg h2, if_neg (by omega)]
theorem fill2_r (g : Nat → Nat → Int32) (f0 : Nat → Int32) (x : Nat) : fill2 g f0 x x = fill2 g f0 (x + 1) 0 := by
  funext z
  unfold fill2
  by_cases h2 : (z / 28 < x ∧ z % 28 < z / 28) ∨ (z / 28 = x ∧ z % 28 < x)
  · rw [if_pos h2, if_pos (by omega)]
  · rw [if_neg h2, if_neg (by omega)]
def clX (w : Nat → Int32) (nt : Int32) (T x y : Nat) : Bool := (canB w nt T (x / 4) (x % 4) && (canB w nt T (y / 4) (y % 4) && !decide (x / 4 = y / 4))) && decide (0 < pf_kind w (x / 4) (x % 4) (y / 4) (y % 4))
def S_lays (σ : lt_S) (nt : Int32) (T N : Nat) : lt_S := lt_ur (lt_ur σ 82 (fillF (fun x => bI (canB (σ 77) nt T (x / 4) (x % 4))) (σ 82) (4 * N))) 83 (fill2 (fun x y => bI (clX (σ 77) nt T x y)) (σ 83) (4 * N) 0)
theorem R_m_lays2 (l : lt_L) (d : Nat) (σ : lt_S) {ln T N : Nat} (hw : Wf (σ 77) ln T N) (nt : Int32) (z1 z2 z3 : Option Value) : lt_g l (d + 4) mX8_laysClashes lt_SA (lt_ur σ 82 (fillF (fun x => bI (canB (σ 77) nt T (x / 4) (x % 4))) (σ 82) (4 * N))) 91 [some (.ref 76), some (.int nt), some (.int (nI T)), z1, z2, z3] [] none (S_lays σ nt T N) := by
  have hN := hw.2.2.1
  generalize hσ1 : lt_ur σ 82 (fillF (fun x => bI (canB (σ 77) nt T (x / 4) (x % 4))) (σ 82) (4 * N)) = σ1
  have h77 : σ1 77 = σ 77 := by rw [← hσ1]; rfl
  have h83 : σ1 83 = σ 83 := by rw [← hσ1]; rfl
  have h82 : ∀ x, x < 4 * N → σ1 82 x = bI (canB (σ 77) nt T (x / 4) (x % 4)) := fun x hx => by rw [← hσ1, lt_ur_eq]; exact if_pos hx
  have hS : S_lays σ nt T N = lt_ur σ1 83 (fill2 (fun x y => bI (clX (σ 77) nt T x y)) (σ 83) (4 * N) 0) := by rw [← hσ1]; rfl
  rw [hS]
  have key : ∀ x, x ≤ 4 * N → ∀ z2 z3 : Option Value, lt_g l (d + 4) mX8_laysClashes lt_SA (lt_ur σ1 83 (fill2 (fun x y => bI (clX (σ 77) nt T x y)) (σ 83) x 0)) 93 [some (.ref 76), some (.int nt), some (.int (nI T)), some (.int (nI x)), z2, z3] [] none (lt_ur σ1 83 (fill2 (fun x y => bI (clX (σ 77) nt T x y)) (σ 83) (4 * N) 0)) := by
    refine lt_dn (4 * N) ?_ ?_
    · intro z2 z3
      refine g_il3 (pc2 := 94) dX8_laysClashes_93 rfl ?_
      refine g_iconst (pc2 := 95) dX8_laysClashes_94 k_iconst_4 rfl ?_
      refine g_al0 (pc2 := 96) dX8_laysClashes_95 rfl ?_
      refine g_getr (pc2 := 99) (by rfl) (by rfl) flX8_7 dX8_laysClashes_96 rfl ?_
      refine g_iconst (pc2 := 100) dX8_laysClashes_99 k_iconst_2 rfl ?_
      refine g_iald (pc2 := 101) (by rfl) (by omega) (by decide) dX8_laysClashes_100 rfl ?_
      rw [show lt_ur σ1 83 (fill2 (fun x y => bI (clX (σ 77) nt T x y)) (σ 83) (4 * N) 0) 77 2 = σ 77 2 from congrFun h77 2, hN.1]
      refine g_imulN (pc2 := 102) dX8_laysClashes_101 rfl ?_
      refine g_icmpN_ge 205 105 dX8_laysClashes_102 rfl rfl (by omega) (by omega) (fun h102 => ?_) (fun h102 => ?_)
      · exact g_retT dX8_laysClashes_205 rfl (Nat.le_refl _) (Nat.le_refl _) (rfl)
      · omega
    · intro x hx ih z2 z3
      have key2 : ∀ y, y ≤ x → ∀ z3 : Option Value, lt_g l (d + 4) mX8_laysClashes lt_SA (lt_ur σ1 83 (fill2 (fun x y => bI (clX (σ 77) nt T x y)) (σ 83) x y)) 108 [some (.ref 76), some (.int nt), some (.int (nI T)), some (.int (nI x)), some (.int (nI y)), z3] [] none (lt_ur σ1 83 (fill2 (fun x y => bI (clX (σ 77) nt T x y)) (σ 83) (4 * N) 0)) := by
        refine lt_dn x ?_ ?_
        · intro z3
          rw [fill2_r]
          refine g_il4 (pc2 := 110) dX8_laysClashes_108 rfl ?_
          refine g_il3 (pc2 := 111) dX8_laysClashes_110 rfl ?_
          refine g_icmpN_ge 199 114 dX8_laysClashes_111 rfl rfl (by omega) (by omega) (fun h111 => ?_) (fun h111 => ?_)
          · refine g_in3 (pc2 := 202) dX8_laysClashes_199 (nI_inc _) (by decide) rfl ?_
            refine g_goto 93 dX8_laysClashes_202 rfl ?_
            exact ih _ _
          · omega
        · intro y hy ih2 z3
          have fin : ∀ (z3 : Option Value) (v : Int32), v = bI (clX (σ 77) nt T x y) → lt_g l (d + 4) mX8_laysClashes lt_SA (lt_ur σ1 83 (fill2 (fun x y => bI (clX (σ 77) nt T x y)) (σ 83) x y)) 192 [some (.ref 76), some (.int nt), some (.int (nI T)), some (.int (nI x)), some (.int (nI y)), z3] [.int v, .int (nI (28 * x + y)), .ref 83] none (lt_ur σ1 83 (fill2 (fun x y => bI (clX (σ 77) nt T x y)) (σ 83) (4 * N) 0)) := by
            intro z3 v hv
            subst hv
            refine g_zast (pc2 := 193) (by rfl) (by omega) (by decide) (bI_vp _) dX8_laysClashes_192 rfl ?_
            refine g_in4 (pc2 := 196) dX8_laysClashes_193 (nI_inc _) (by decide) rfl ?_
            refine g_goto 108 dX8_laysClashes_196 rfl ?_
            rw [lt_up_ur, lt_ur_eq, lt_ur_ur, fill2_s _ _ _ _ (by omega)]
            exact ih2 _
          have hx4 : x / 4 < N := by omega
          have hy4 : y / 4 < N := by omega
          have hlx : Ln (lt_ur σ1 83 (fill2 (fun x y => bI (clX (σ 77) nt T x y)) (σ 83) x y) 77) (x / 4) := by rw [show lt_ur σ1 83 (fill2 (fun x y => bI (clX (σ 77) nt T x y)) (σ 83) x y) 77 = σ 77 from h77]; exact hw.ln hx4
          have hly : Ln (lt_ur σ1 83 (fill2 (fun x y => bI (clX (σ 77) nt T x y)) (σ 83) x y) 77) (y / 4) := by rw [show lt_ur σ1 83 (fill2 (fun x y => bI (clX (σ 77) nt T x y)) (σ 83) x y) 77 = σ 77 from h77]; exact hw.ln hy4
          have hkl := pf_kind_le (σ 77) (x / 4) (x % 4) (y / 4) (y % 4)
          have mid : ∀ (v : Int32) (b : Bool), v = bI b → b = (canB (σ 77) nt T (x / 4) (x % 4) && (canB (σ 77) nt T (y / 4) (y % 4) && !decide (x / 4 = y / 4))) → lt_g l (d + 4) mX8_laysClashes lt_SA (lt_ur σ1 83 (fill2 (fun x y => bI (clX (σ 77) nt T x y)) (σ 83) x y)) 150 [some (.ref 76), some (.int nt), some (.int (nI T)), some (.int (nI x)), some (.int (nI y)), some (.int v)] [] none (lt_ur σ1 83 (fill2 (fun x y => bI (clX (σ 77) nt T x y)) (σ 83) (4 * N) 0)) := by
            intro v b hv hb
            subst hv
            refine g_al0 (pc2 := 151) dX8_laysClashes_150 rfl ?_
            refine g_getr (pc2 := 154) (by rfl) (by rfl) flX8_29 dX8_laysClashes_151 rfl ?_
            refine g_bipush (pc2 := 156) dX8_laysClashes_154 k_bipush_28 rfl ?_
            refine g_il3 (pc2 := 157) dX8_laysClashes_156 rfl ?_
            refine g_imulN (pc2 := 158) dX8_laysClashes_157 rfl ?_
            refine g_il4 (pc2 := 160) dX8_laysClashes_158 rfl ?_
            refine g_iaddN (pc2 := 161) dX8_laysClashes_160 rfl ?_
            refine g_il5 (pc2 := 163) dX8_laysClashes_161 rfl ?_
            refine g_if_eqB 191 166 dX8_laysClashes_163 rfl rfl (fun h163 => ?_) (fun h163 => ?_)
            · refine g_iconst (pc2 := 192) dX8_laysClashes_191 k_iconst_0 rfl ?_
              exact fin _ _ (by rw [show clX (σ 77) nt T x y = false from (by first | (simp [clX, ← hb, h163]; done) | (rw [nI_le0 (by omega)] at h184; simp [clX, ← hb, h163, h184]; done) | (rw [nI_le0 (by omega)] at h184; simp [clX, ← hb, h163]; omega))]; rfl)
            · refine g_al0 (pc2 := 167) dX8_laysClashes_166 rfl ?_
              refine g_il3 (pc2 := 168) dX8_laysClashes_167 rfl ?_
              refine g_iconst (pc2 := 169) dX8_laysClashes_168 k_iconst_4 rfl ?_
              refine g_idivN (pc2 := 170) dX8_laysClashes_169 rfl (by omega) (by decide) (by decide) ?_
              refine g_il3 (pc2 := 171) dX8_laysClashes_170 rfl ?_
              refine g_iconst (pc2 := 172) dX8_laysClashes_171 k_iconst_4 rfl ?_
              refine g_iremN (pc2 := 173) dX8_laysClashes_172 rfl (by omega) (by decide) (by decide) ?_
              refine g_il4 (pc2 := 175) dX8_laysClashes_173 rfl ?_
              refine g_iconst (pc2 := 176) dX8_laysClashes_175 k_iconst_4 rfl ?_
              refine g_idivN (pc2 := 177) dX8_laysClashes_176 rfl (by omega) (by decide) (by decide) ?_
              refine g_il4 (pc2 := 179) dX8_laysClashes_177 rfl ?_
              refine g_iconst (pc2 := 180) dX8_laysClashes_179 k_iconst_4 rfl ?_
              refine g_iremN (pc2 := 181) dX8_laysClashes_180 rfl (by omega) (by decide) (by decide) ?_
              refine g_cVi (pc2 := 184) (R_m_clashOf l d _ _ _ _ _ hlx (by omega) hly (by omega)) meX8_clashOf mlX8_122 (by rfl) ⟨_, rfl, rfl⟩ rfl rfl (by simp) ⟨Nat.le_refl _, Nat.le_refl _⟩ dX8_laysClashes_181 rfl ?_
              rw [show lt_ur σ1 83 (fill2 (fun x y => bI (clX (σ 77) nt T x y)) (σ 83) x y) 77 = σ 77 from h77]
              refine g_if_le 191 187 dX8_laysClashes_184 rfl rfl (fun h184 => ?_) (fun h184 => ?_)
              · refine g_iconst (pc2 := 192) dX8_laysClashes_191 k_iconst_0 rfl ?_
                exact fin _ _ (by rw [show clX (σ 77) nt T x y = false from (by first | (simp [clX, ← hb, h163]; done) | (rw [nI_le0 (by omega)] at h184; simp [clX, ← hb, h163, h184]; done) | (rw [nI_le0 (by omega)] at h184; simp [clX, ← hb, h163]; omega))]; rfl)
              · refine g_iconst (pc2 := 188) dX8_laysClashes_187 k_iconst_1 rfl ?_
                refine g_goto 192 dX8_laysClashes_188 rfl ?_
                exact fin _ _ (by rw [show clX (σ 77) nt T x y = true from (by first | (simp [clX, ← hb, h163]; done) | (rw [nI_le0 (by omega)] at h184; simp [clX, ← hb, h163, h184]; done) | (rw [nI_le0 (by omega)] at h184; simp [clX, ← hb, h163]; omega))]; rfl)
          refine g_il4 (pc2 := 110) dX8_laysClashes_108 rfl ?_
          refine g_il3 (pc2 := 111) dX8_laysClashes_110 rfl ?_
          refine g_icmpN_ge 199 114 dX8_laysClashes_111 rfl rfl (by omega) (by omega) (fun h111 => ?_) (fun h111 => ?_)
          · omega
          · refine g_al0 (pc2 := 115) dX8_laysClashes_114 rfl ?_
            refine g_getr (pc2 := 118) (by rfl) (by rfl) flX8_25 dX8_laysClashes_115 rfl ?_
            refine g_il3 (pc2 := 119) dX8_laysClashes_118 rfl ?_
            refine g_zald (pc2 := 120) (by rfl) (by omega) (by decide) dX8_laysClashes_119 rfl ?_
            rw [show lt_ur σ1 83 (fill2 (fun x y => bI (clX (σ 77) nt T x y)) (σ 83) x y) 82 x = σ1 82 x from rfl, h82 x hx]
            refine g_if_eqB 147 123 dX8_laysClashes_120 rfl rfl (fun h120 => ?_) (fun h120 => ?_)
            · refine g_iconst (pc2 := 148) dX8_laysClashes_147 k_iconst_0 rfl ?_
              refine g_is5 (pc2 := 150) dX8_laysClashes_148 (by decide) rfl ?_
              exact mid _ false bI_f.symm (by first | (simp [h120, h130, h140]; done) | (simp [h120, h130]; done) | (simp [h120]; done))
            · refine g_al0 (pc2 := 124) dX8_laysClashes_123 rfl ?_
              refine g_getr (pc2 := 127) (by rfl) (by rfl) flX8_25 dX8_laysClashes_124 rfl ?_
              refine g_il4 (pc2 := 129) dX8_laysClashes_127 rfl ?_
              refine g_zald (pc2 := 130) (by rfl) (by omega) (by decide) dX8_laysClashes_129 rfl ?_
              rw [show lt_ur σ1 83 (fill2 (fun x y => bI (clX (σ 77) nt T x y)) (σ 83) x y) 82 y = σ1 82 y from rfl, h82 y (by omega)]
              refine g_if_eqB 147 133 dX8_laysClashes_130 rfl rfl (fun h130 => ?_) (fun h130 => ?_)
              · refine g_iconst (pc2 := 148) dX8_laysClashes_147 k_iconst_0 rfl ?_
                refine g_is5 (pc2 := 150) dX8_laysClashes_148 (by decide) rfl ?_
                exact mid _ false bI_f.symm (by first | (simp [h120, h130, h140]; done) | (simp [h120, h130]; done) | (simp [h120]; done))
              · refine g_il3 (pc2 := 134) dX8_laysClashes_133 rfl ?_
                refine g_iconst (pc2 := 135) dX8_laysClashes_134 k_iconst_4 rfl ?_
                refine g_idivN (pc2 := 136) dX8_laysClashes_135 rfl (by omega) (by decide) (by decide) ?_
                refine g_il4 (pc2 := 138) dX8_laysClashes_136 rfl ?_
                refine g_iconst (pc2 := 139) dX8_laysClashes_138 k_iconst_4 rfl ?_
                refine g_idivN (pc2 := 140) dX8_laysClashes_139 rfl (by omega) (by decide) (by decide) ?_
                refine g_icmpN_eq 147 143 dX8_laysClashes_140 rfl rfl (by omega) (by omega) (fun h140 => ?_) (fun h140 => ?_)
                · refine g_iconst (pc2 := 148) dX8_laysClashes_147 k_iconst_0 rfl ?_
                  refine g_is5 (pc2 := 150) dX8_laysClashes_148 (by decide) rfl ?_
                  exact mid _ false bI_f.symm (by first | (simp [h120, h130, h140]; done) | (simp [h120, h130]; done) | (simp [h120]; done))
                · refine g_iconst (pc2 := 144) dX8_laysClashes_143 k_iconst_1 rfl ?_
                  refine g_goto 148 dX8_laysClashes_144 rfl ?_
                  refine g_is5 (pc2 := 150) dX8_laysClashes_148 (by decide) rfl ?_
                  exact mid _ true bI_t.symm (by first | (simp [h120, h130, h140]; done) | (simp [h120, h130]; done) | (simp [h120]; done))
      refine g_il3 (pc2 := 94) dX8_laysClashes_93 rfl ?_
      refine g_iconst (pc2 := 95) dX8_laysClashes_94 k_iconst_4 rfl ?_
      refine g_al0 (pc2 := 96) dX8_laysClashes_95 rfl ?_
      refine g_getr (pc2 := 99) (by rfl) (by rfl) flX8_7 dX8_laysClashes_96 rfl ?_
      refine g_iconst (pc2 := 100) dX8_laysClashes_99 k_iconst_2 rfl ?_
      refine g_iald (pc2 := 101) (by rfl) (by omega) (by decide) dX8_laysClashes_100 rfl ?_
      rw [show lt_ur σ1 83 (fill2 (fun x y => bI (clX (σ 77) nt T x y)) (σ 83) x 0) 77 2 = σ 77 2 from congrFun h77 2, hN.1]
      refine g_imulN (pc2 := 102) dX8_laysClashes_101 rfl ?_
      refine g_icmpN_ge 205 105 dX8_laysClashes_102 rfl rfl (by omega) (by omega) (fun h102 => ?_) (fun h102 => ?_)
      · omega
      · refine g_iconst (pc2 := 106) dX8_laysClashes_105 k_iconst_0 rfl ?_
        refine g_is4 (pc2 := 108) dX8_laysClashes_106 (by decide) rfl ?_
        exact key2 0 (Nat.zero_le _) _
  have k0 := key 0 (Nat.zero_le _)
  rw [fill2_0, ← h83, lt_ur_self] at k0
  rw [← h83]
  refine g_iconst (pc2 := 92) dX8_laysClashes_91 k_iconst_0 rfl ?_
  refine g_is3 (pc2 := 93) dX8_laysClashes_92 (by decide) rfl ?_
  exact k0 _ _
theorem R_m_laysClashes (l : lt_L) (d : Nat) (σ : lt_S) {ln T N : Nat} (hw : Wf (σ 77) ln T N) (nt : Int32) : lt_T l (d + 4) mX8_laysClashes lt_SA σ [.ref 76, .int nt] none (S_lays σ nt T N) := by
  refine lt_T.of [some (.ref 76), some (.int nt), none, none, none, none] rfl rfl (Nat.le_of_ble_eq_true rfl) ?_
  have hN := hw.2.2.1
  have hT := hw.2.1
  have key : ∀ x, x ≤ 4 * N → ∀ z1 z2 : Option Value, lt_g l (d + 4) mX8_laysClashes lt_SA (lt_ur σ 82 (fillF (fun x => bI (canB (σ 77) nt T (x / 4) (x % 4))) (σ 82) x)) 9 [some (.ref 76), some (.int nt), some (.int (nI T)), some (.int (nI x)), z1, z2] [] none (S_lays σ nt T N) := by
    refine lt_dn (4 * N) ?_ ?_
    · intro z1 z2
      refine g_il3 (pc2 := 10) dX8_laysClashes_9 rfl ?_
      refine g_iconst (pc2 := 11) dX8_laysClashes_10 k_iconst_4 rfl ?_
      refine g_al0 (pc2 := 12) dX8_laysClashes_11 rfl ?_
      refine g_getr (pc2 := 15) (by rfl) (by rfl) flX8_7 dX8_laysClashes_12 rfl ?_
      refine g_iconst (pc2 := 16) dX8_laysClashes_15 k_iconst_2 rfl ?_
      refine g_iald (pc2 := 17) (by rfl) (by omega) (by decide) dX8_laysClashes_16 rfl ?_
      rw [show lt_ur σ 82 (fillF (fun x => bI (canB (σ 77) nt T (x / 4) (x % 4))) (σ 82) (4 * N)) 77 2 = σ 77 2 from rfl, hN.1]
      refine g_imulN (pc2 := 18) dX8_laysClashes_17 rfl ?_
      refine g_icmpN_ge 91 21 dX8_laysClashes_18 rfl rfl (by omega) (by omega) (fun h18 => ?_) (fun h18 => ?_)
      · exact R_m_lays2 l d σ hw nt _ _ _
      · omega
    · intro x hx ih z1 z2
      have hlx : Ln (lt_ur σ 82 (fillF (fun x => bI (canB (σ 77) nt T (x / 4) (x % 4))) (σ 82) x) 77) (x / 4) := hw.ln (show x / 4 < N by omega)
      have fin : ∀ v : Int32, v = bI (canB (σ 77) nt T (x / 4) (x % 4)) → lt_g l (d + 4) mX8_laysClashes lt_SA (lt_ur σ 82 (fillF (fun x => bI (canB (σ 77) nt T (x / 4) (x % 4))) (σ 82) x)) 84 [some (.ref 76), some (.int nt), some (.int (nI T)), some (.int (nI x)), some (.int (nI (x / 4))), some (.int (nI (x % 4)))] [.int v, .int (nI x), .ref 82] none (S_lays σ nt T N) := by
        intro v hv
        subst hv
        refine g_zast (pc2 := 85) (by rfl) (by omega) (by decide) (bI_vp _) dX8_laysClashes_84 rfl ?_
        refine g_in3 (pc2 := 88) dX8_laysClashes_85 (nI_inc _) (by decide) rfl ?_
        refine g_goto 9 dX8_laysClashes_88 rfl ?_
        rw [lt_up_ur, lt_ur_eq, lt_ur_ur, fillF_s (fun x => bI (canB (σ 77) nt T (x / 4) (x % 4)))]
        exact ih _ _
      refine g_il3 (pc2 := 10) dX8_laysClashes_9 rfl ?_
      refine g_iconst (pc2 := 11) dX8_laysClashes_10 k_iconst_4 rfl ?_
      refine g_al0 (pc2 := 12) dX8_laysClashes_11 rfl ?_
      refine g_getr (pc2 := 15) (by rfl) (by rfl) flX8_7 dX8_laysClashes_12 rfl ?_
      refine g_iconst (pc2 := 16) dX8_laysClashes_15 k_iconst_2 rfl ?_
      refine g_iald (pc2 := 17) (by rfl) (by omega) (by decide) dX8_laysClashes_16 rfl ?_
      rw [show lt_ur σ 82 (fillF (fun x => bI (canB (σ 77) nt T (x / 4) (x % 4))) (σ 82) x) 77 2 = σ 77 2 from rfl, hN.1]
      refine g_imulN (pc2 := 18) dX8_laysClashes_17 rfl ?_
      refine g_icmpN_ge 91 21 dX8_laysClashes_18 rfl rfl (by omega) (by omega) (fun h18 => ?_) (fun h18 => ?_)
      · omega
      · refine g_il3 (pc2 := 22) dX8_laysClashes_21 rfl ?_
        refine g_iconst (pc2 := 23) dX8_laysClashes_22 k_iconst_4 rfl ?_
        refine g_idivN (pc2 := 24) dX8_laysClashes_23 rfl (by omega) (by decide) (by decide) ?_
        refine g_is4 (pc2 := 26) dX8_laysClashes_24 (by decide) rfl ?_
        refine g_il3 (pc2 := 27) dX8_laysClashes_26 rfl ?_
        refine g_iconst (pc2 := 28) dX8_laysClashes_27 k_iconst_4 rfl ?_
        refine g_iremN (pc2 := 29) dX8_laysClashes_28 rfl (by omega) (by decide) (by decide) ?_
        refine g_is5 (pc2 := 31) dX8_laysClashes_29 (by decide) rfl ?_
        refine g_al0 (pc2 := 32) dX8_laysClashes_31 rfl ?_
        refine g_getr (pc2 := 35) (by rfl) (by rfl) flX8_25 dX8_laysClashes_32 rfl ?_
        refine g_il3 (pc2 := 36) dX8_laysClashes_35 rfl ?_
        refine g_il5 (pc2 := 38) dX8_laysClashes_36 rfl ?_
        refine g_il2 (pc2 := 39) dX8_laysClashes_38 rfl ?_
        refine g_icmpN_ge 83 42 dX8_laysClashes_39 rfl rfl (by omega) (by omega) (fun h39 => ?_) (fun h39 => ?_)
        · refine g_iconst (pc2 := 84) dX8_laysClashes_83 k_iconst_0 rfl ?_
          exact fin _ (by rw [show canB (σ 77) nt T (x / 4) (x % 4) = false from (by first | (simp [canB, h39]; omega) | (rw [show lt_ur σ 82 (fillF (fun x => bI (canB (σ 77) nt T (x / 4) (x % 4))) (σ 82) x) 77 = σ 77 from rfl] at *; first | (simp [canB, h50]; done) | (simp [canB, h63]; done) | (simp [canB, h76]; done) | (simp [canB, h50, h63, h76]; omega)))]; rfl)
        · refine g_al0 (pc2 := 43) dX8_laysClashes_42 rfl ?_
          refine g_il4 (pc2 := 45) dX8_laysClashes_43 rfl ?_
          refine g_il5 (pc2 := 47) dX8_laysClashes_45 rfl ?_
          refine g_cVi (pc2 := 50) (R_m_doesFit l d _ _ _ hlx (by omega)) meX8_doesFit mlX8_129 (by rfl) ⟨_, rfl, rfl⟩ rfl rfl (by simp) ⟨Nat.le_refl _, Nat.le_refl _⟩ dX8_laysClashes_47 rfl ?_
          refine g_if_eqB 83 53 dX8_laysClashes_50 rfl rfl (fun h50 => ?_) (fun h50 => ?_)
          · refine g_iconst (pc2 := 84) dX8_laysClashes_83 k_iconst_0 rfl ?_
            exact fin _ (by rw [show canB (σ 77) nt T (x / 4) (x % 4) = false from (by first | (simp [canB, h39]; omega) | (rw [show lt_ur σ 82 (fillF (fun x => bI (canB (σ 77) nt T (x / 4) (x % 4))) (σ 82) x) 77 = σ 77 from rfl] at *; first | (simp [canB, h50]; done) | (simp [canB, h63]; done) | (simp [canB, h76]; done) | (simp [canB, h50, h63, h76]; omega)))]; rfl)
          · refine g_al0 (pc2 := 54) dX8_laysClashes_53 rfl ?_
            refine g_il4 (pc2 := 56) dX8_laysClashes_54 rfl ?_
            refine g_il5 (pc2 := 58) dX8_laysClashes_56 rfl ?_
            refine g_cVi (pc2 := 61) (R_m_in' l (d + 1) _ _ _ hlx (by omega)) meX8_wayIn mlX8_113 (by rfl) ⟨_, rfl, rfl⟩ rfl rfl (by simp) ⟨Nat.le_refl _, Nat.le_refl _⟩ dX8_laysClashes_58 rfl ?_
            refine g_il1 (pc2 := 62) dX8_laysClashes_61 rfl ?_
            refine g_iand (pc2 := 63) dX8_laysClashes_62 rfl ?_
            refine g_if_ne 83 66 dX8_laysClashes_63 rfl rfl (fun h63 => ?_) (fun h63 => ?_)
            · refine g_iconst (pc2 := 84) dX8_laysClashes_83 k_iconst_0 rfl ?_
              exact fin _ (by rw [show canB (σ 77) nt T (x / 4) (x % 4) = false from (by first | (simp [canB, h39]; omega) | (rw [show lt_ur σ 82 (fillF (fun x => bI (canB (σ 77) nt T (x / 4) (x % 4))) (σ 82) x) 77 = σ 77 from rfl] at *; first | (simp [canB, h50]; done) | (simp [canB, h63]; done) | (simp [canB, h76]; done) | (simp [canB, h50, h63, h76]; omega)))]; rfl)
            · refine g_al0 (pc2 := 67) dX8_laysClashes_66 rfl ?_
              refine g_il4 (pc2 := 69) dX8_laysClashes_67 rfl ?_
              refine g_il5 (pc2 := 71) dX8_laysClashes_69 rfl ?_
              refine g_cVi (pc2 := 74) (R_m_out' l (d + 1) _ _ _ hlx (by omega)) meX8_wayOut mlX8_116 (by rfl) ⟨_, rfl, rfl⟩ rfl rfl (by simp) ⟨Nat.le_refl _, Nat.le_refl _⟩ dX8_laysClashes_71 rfl ?_
              refine g_il1 (pc2 := 75) dX8_laysClashes_74 rfl ?_
              refine g_iand (pc2 := 76) dX8_laysClashes_75 rfl ?_
              refine g_if_ne 83 79 dX8_laysClashes_76 rfl rfl (fun h76 => ?_) (fun h76 => ?_)
              · refine g_iconst (pc2 := 84) dX8_laysClashes_83 k_iconst_0 rfl ?_
                exact fin _ (by rw [show canB (σ 77) nt T (x / 4) (x % 4) = false from (by first | (simp [canB, h39]; omega) | (rw [show lt_ur σ 82 (fillF (fun x => bI (canB (σ 77) nt T (x / 4) (x % 4))) (σ 82) x) 77 = σ 77 from rfl] at *; first | (simp [canB, h50]; done) | (simp [canB, h63]; done) | (simp [canB, h76]; done) | (simp [canB, h50, h63, h76]; omega)))]; rfl)
              · refine g_iconst (pc2 := 80) dX8_laysClashes_79 k_iconst_1 rfl ?_
                refine g_goto 84 dX8_laysClashes_80 rfl ?_
                exact fin _ (by rw [show canB (σ 77) nt T (x / 4) (x % 4) = true from (by first | (simp [canB, h39]; omega) | (rw [show lt_ur σ 82 (fillF (fun x => bI (canB (σ 77) nt T (x / 4) (x % 4))) (σ 82) x) 77 = σ 77 from rfl] at *; first | (simp [canB, h50]; done) | (simp [canB, h63]; done) | (simp [canB, h76]; done) | (simp [canB, h50, h63, h76]; omega)))]; rfl)
  have k0 := key 0 (Nat.zero_le _)
  rw [fillF_0, lt_ur_self] at k0
  refine g_al0 (pc2 := 1) dX8_laysClashes_0 rfl ?_
  refine g_getr (pc2 := 4) (by rfl) (by rfl) flX8_7 dX8_laysClashes_1 rfl ?_
  refine g_iconst (pc2 := 5) dX8_laysClashes_4 k_iconst_1 rfl ?_
  refine g_iald (pc2 := 6) (by rfl) (by omega) (by decide) dX8_laysClashes_5 rfl ?_
  rw [hT.1]
  refine g_is2 (pc2 := 7) dX8_laysClashes_6 (by decide) rfl ?_
  refine g_iconst (pc2 := 8) dX8_laysClashes_7 k_iconst_0 rfl ?_
  refine g_is3 (pc2 := 9) dX8_laysClashes_8 (by decide) rfl ?_
  exact k0 _ _
