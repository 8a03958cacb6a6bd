/-! the library's texts -/
def byt : List (List Nat) := [[121, 97, 114, 100, 32, 50, 44, 51, 59, 112, 97, 116, 104, 32, 48, 44, 48, 44, 49, 59, 112, 97, 116, 104, 32, 48, 44, 49, 44, 49, 44, 50, 59, 112, 97, 116, 104, 32, 48, 44, 50, 44, 49, 44, 50, 44, 51, 59, 112, 97, 116, 104, 32, 49, 44, 48, 44, 52, 44, 53, 59, 112, 97, 116, 104, 32, 49, 44, 49, 44, 52, 59, 112, 97, 116, 104, 32, 49, 44, 50, 44, 51, 59, 99, 111, 109, 101, 32, 48, 44, 49, 44, 49, 48, 44, 50, 48, 44, 49, 59, 99, 111, 109, 101, 32, 49, 44, 48, 44, 49, 50, 44, 49, 56, 44, 57, 59, 99, 111, 109, 101, 32, 48, 44, 48, 44, 49, 53, 44, 50, 53, 44, 49, 59, 99, 111, 109, 101, 32, 49, 44, 49, 44, 50, 50, 44, 51, 48, 44, 48, 59, 115, 112, 97, 110, 32, 49, 59], [121, 97, 114, 100, 32, 112, 97, 116, 104, 32, 99, 111, 109, 101, 32, 112, 97, 105, 114, 32, 115, 112, 97, 110, 32]]
def chN (i j : Nat) : Nat := (byt.getD i []).getD j 0
theorem byt_e0 : lt_byt.getD 0 [] = (byt.getD 0 []).map nI := by decide +kernel
theorem byt_e1 : lt_byt.getD 1 [] = (byt.getD 1 []).map nI := by decide +kernel
theorem byt_o0 : ∀ x ∈ byt.getD 0 [], x < 128 ∧ 32 ≤ x := by decide +kernel
theorem byt_o1 : ∀ x ∈ byt.getD 1 [], x < 128 ∧ 32 ≤ x := by decide +kernel
theorem getD_m (xs : List Nat) {j : Nat} (h : j < xs.length) : (xs.map nI).getD j 0 = nI (xs.getD j 0) ∧ xs.getD j 0 ∈ xs := by
  rw [List.getD_eq_getElem?_getD, List.getElem?_map, List.getD_eq_getElem?_getD, List.getElem?_eq_getElem h]
  exact ⟨rfl, List.getElem_mem h⟩
theorem chN_0 : ∀ j, j < 158 → (lt_byt.getD 0 []).getD j 0 = nI (chN 0 j) ∧ chN 0 j < 128 ∧ 32 ≤ chN 0 j := by
  intro j hj
  have h := getD_m (byt.getD 0 []) (j := j) hj
  rw [byt_e0]
  exact ⟨h.1, byt_o0 _ h.2⟩
theorem chN_1 : ∀ j, j < 25 → (lt_byt.getD 1 []).getD j 0 = nI (chN 1 j) ∧ chN 1 j < 128 ∧ 32 ≤ chN 1 j := by
  intro j hj
  have h := getD_m (byt.getD 1 []) (j := j) hj
  rw [byt_e1]
  exact ⟨h.1, byt_o1 _ h.2⟩
theorem chN_at {i j : Nat} (hi : i < 2) (hj : j < lt_len.getD i 0) : (lt_byt.getD i []).getD j 0 = nI (chN i j) ∧ chN i j < 128 ∧ 32 ≤ chN i j := by
  rcases (show i = 0 ∨ i = 1 by omega) with rfl | rfl
  · exact chN_0 j hj
  · exact chN_1 j hj
theorem by_id : ∀ k, k < 128 → (((nI k &&& nI 255).toUInt32 % 65536).toInt32 = nI k ∧ narrow .char (.int (nI k)) = .int (nI k)) := by decide +kernel
theorem len_lt (i : Nat) : lt_len.getD i 0 < 2 ^ 31 := by
  match i with
  | 0 => decide
  | 1 => decide
  | (n + 2) => show (0 : Nat) < 2 ^ 31; decide
theorem R_j_ci3 (l : lt_L) (d : Nat) (sh : lt_H) (σ : lt_S) {j n : Nat} (hj : j < n) (hn : n < 2 ^ 31) (v : Value) : lt_T l (d + 1) mJ3_checkIndex_8e157 sh σ [.int (nI j), .int (nI n), v] (some (nI j)) σ := by
  refine lt_T.of [some (.int (nI j)), some (.int (nI n)), some v] rfl rfl (Nat.le_of_ble_eq_true rfl) ?_
  refine g_il0 (pc2 := 1) dJ3_checkIndex_8e157_0 rfl ?_
  refine g_if_lt 9 4 dJ3_checkIndex_8e157_1 rfl rfl (fun h => absurd h (nI_pos (by omega))) (fun _ => ?_)
  refine g_il0 (pc2 := 5) dJ3_checkIndex_8e157_4 rfl ?_
  refine g_il1 (pc2 := 6) dJ3_checkIndex_8e157_5 rfl ?_
  refine g_icmpN_lt 16 9 dJ3_checkIndex_8e157_6 rfl rfl (by omega) (by omega) (fun _ => ?_) (fun h => absurd hj h)
  refine g_il0 (pc2 := 17) dJ3_checkIndex_8e157_16 rfl ?_
  exact g_iretT dJ3_checkIndex_8e157_17 rfl (Nat.le_refl _) (Nat.le_refl _) rfl rfl
theorem R_j_ci0 (l : lt_L) (d : Nat) (sh : lt_H) (σ : lt_S) {j n : Nat} (hj : j < n) (hn : n < 2 ^ 31) : lt_T l (d + 2) mJ0_checkIndex_df160 sh σ [.int (nI j), .int (nI n)] none σ := by
  refine lt_T.of [some (.int (nI j)), some (.int (nI n))] rfl rfl (Nat.le_of_ble_eq_true rfl) ?_
  refine g_il0 (pc2 := 1) dJ0_checkIndex_df160_0 rfl ?_
  refine g_il1 (pc2 := 2) dJ0_checkIndex_df160_1 rfl ?_
  refine g_formatter (pc2 := 5) xlJ0_1053 dJ0_checkIndex_df160_2 rfl ?_ ?_
  · refine g_cSi (pc2 := 8) (R_j_ci3 l d sh σ hj hn .null) meJ3_checkIndex_8e157 mlJ0_1059 rfl rfl (by simp) ⟨Nat.le_refl _, Nat.le_refl _⟩ dJ0_checkIndex_df160_5 rfl ?_
    refine g_pop (pc2 := 9) dJ0_checkIndex_df160_8 rfl ?_
    exact g_retT dJ0_checkIndex_df160_9 rfl (Nat.le_refl _) (Nat.le_refl _) rfl
  · refine g_cSi (pc2 := 8) (R_j_ci3 l d sh σ hj hn (.ref 5)) meJ3_checkIndex_8e157 mlJ0_1059 rfl rfl (by simp) ⟨Nat.le_refl _, Nat.le_refl _⟩ dJ0_checkIndex_df160_5 rfl ?_
    refine g_pop (pc2 := 9) dJ0_checkIndex_df160_8 rfl ?_
    exact g_retT dJ0_checkIndex_df160_9 rfl (Nat.le_refl _) (Nat.le_refl _) rfl
theorem R_j_at1 (l : lt_L) (d : Nat) (sh : lt_H) (σ : lt_S) {i j : Nat} (hi : i < 2) (hj : j < lt_len.getD i 0) : lt_T l (d + 3) mJ1_charAt_3b067 sh σ [.ref (3 + i), .int (nI j)] (some (nI (chN i j))) σ := by
  refine lt_T.of [some (.ref (3 + i)), some (.int (nI j))] rfl rfl (Nat.le_of_ble_eq_true rfl) ?_
  have hc := chN_at hi hj
  have hb := by_id (chN i j) hc.2.1
  refine g_il1 (pc2 := 1) dJ1_charAt_3b067_0 rfl ?_
  refine g_al0 (pc2 := 2) dJ1_charAt_3b067_1 rfl ?_
  refine g_slen (pc2 := 3) hi rfl dJ1_charAt_3b067_2 rfl ?_
  refine g_cSv (pc2 := 6) (R_j_ci0 l d sh σ hj (len_lt i)) meJ0_checkIndex_df160 mlJ1_9 rfl rfl (by simp) ⟨Nat.le_refl _, Nat.le_refl _⟩ dJ1_charAt_3b067_3 rfl ?_
  refine g_al0 (pc2 := 7) dJ1_charAt_3b067_6 rfl ?_
  refine g_il1 (pc2 := 8) dJ1_charAt_3b067_7 rfl ?_
  refine g_sbyt (pc2 := 9) hi rfl hj (len_lt i) hc.1 dJ1_charAt_3b067_8 rfl ?_
  refine g_sipush (pc2 := 12) dJ1_charAt_3b067_9 k_sipush_255 rfl ?_
  refine g_iand (pc2 := 13) dJ1_charAt_3b067_12 rfl ?_
  refine g_i2c (pc2 := 14) dJ1_charAt_3b067_13 hb.1 rfl ?_
  exact g_zret dJ1_charAt_3b067_14 rfl hb.2 (Nat.le_refl _) (Nat.le_refl _) ⟨rfl, rfl, rfl⟩
theorem R_j_latin (l : lt_L) (d : Nat) (sh : lt_H) (σ : lt_S) {i : Nat} (hi : i < 2) : lt_T l (d + 1) mJ0_isLatin1_aae02 sh σ [.ref (1 + i)] (some (nI 1)) σ := by
  refine lt_T.of [some (.ref (1 + i))] rfl rfl (Nat.le_of_ble_eq_true rfl) ?_
  refine g_compact (pc2 := 3) xlJ0_38 dJ0_isLatin1_aae02_0 rfl ?_
  refine g_if_eq 17 6 dJ0_isLatin1_aae02_3 rfl rfl (fun h => absurd h (by decide)) (fun _ => ?_)
  refine g_al0 (pc2 := 7) dJ0_isLatin1_aae02_6 rfl ?_
  refine g_scod (pc2 := 10) hi xlJ0_15 dJ0_isLatin1_aae02_7 rfl ?_
  refine g_if_ne 17 13 dJ0_isLatin1_aae02_10 rfl rfl (fun h => absurd rfl h) (fun _ => ?_)
  refine g_iconst (pc2 := 14) dJ0_isLatin1_aae02_13 k_iconst_1 rfl ?_
  refine g_goto 18 dJ0_isLatin1_aae02_14 rfl ?_
  exact g_zret dJ0_isLatin1_aae02_18 rfl (bI_nar true) (Nat.le_refl _) (Nat.le_refl _) ⟨rfl, rfl, rfl⟩
theorem R_j_coder (l : lt_L) (d : Nat) (sh : lt_H) (σ : lt_S) {i : Nat} (hi : i < 2) : lt_T l (d + 1) mJ0_coder_7d493 sh σ [.ref (1 + i)] (some 0) σ := by
  refine lt_T.of [some (.ref (1 + i))] rfl rfl (Nat.le_of_ble_eq_true rfl) ?_
  refine g_compact (pc2 := 3) xlJ0_38 dJ0_coder_7d493_0 rfl ?_
  refine g_if_eq 13 6 dJ0_coder_7d493_3 rfl rfl (fun h => absurd h (by decide)) (fun _ => ?_)
  refine g_al0 (pc2 := 7) dJ0_coder_7d493_6 rfl ?_
  refine g_scod (pc2 := 10) hi xlJ0_15 dJ0_coder_7d493_7 rfl ?_
  refine g_goto 14 dJ0_coder_7d493_10 rfl ?_
  exact g_zret dJ0_coder_7d493_14 rfl (by decide) (Nat.le_refl _) (Nat.le_refl _) ⟨rfl, rfl, rfl⟩
theorem g_cXi {i idx n pc2 : Nat} {l : lt_L} {d mc ms : Nat} {M : lt_M} {ck cn : Nat} {sh : lt_H} {σ : lt_S} {pc : Nat} {L : List (Option Value)} {st : List Value} {Q : lt_Q} {M' : lt_M} {as stk : List Value} {x : Int32} {σ' : lt_S} (hi : i < 2) (hR : lt_T l d M' sh σ (.ref (1 + i) :: as) (some x) σ') (me : lt_meV M' n) (lk : Cond.methodLink M.1.cls idx M'.1 ∈ lt_tb) (hcl : M'.1.cls = "java/lang/String")
    (hn : as.length = n) (hstk : stk = as.reverse ++ .ref (1 + i) :: st) (hst : st.length ≤ 8) (hcell : ck ≤ mc ∧ cn ≤ ms) (hd : decode M.2.1 pc = .ok (.invokevirtual idx, 3)) (he : pc + 3 = pc2)
    (kk : lt_G l (d + 1) mc ms M ck cn sh σ' pc2 L (.int x :: st) Q) : lt_G l (d + 1) mc ms M ck cn sh σ pc L stk Q :=
  g_callX hi hR me lk hcl hn hstk hst hcell hd he (fun r sh' s' h => by obtain ⟨rfl, rfl, rfl⟩ := h; exact kk)
theorem R_j_charAt (l : lt_L) (d : Nat) (sh : lt_H) (σ : lt_S) {i j : Nat} (hi : i < 2) (hj : j < lt_len.getD i 0) : lt_T l (d + 4) mJ0_charAt_5068e sh σ [.ref (1 + i), .int (nI j)] (some (nI (chN i j))) σ := by
  refine lt_T.of [some (.ref (1 + i)), some (.int (nI j))] rfl rfl (Nat.le_of_ble_eq_true rfl) ?_
  have hc := chN_at hi hj
  have hb := by_id (chN i j) hc.2.1
  refine g_al0 (pc2 := 1) dJ0_charAt_5068e_0 rfl ?_
  refine g_cXi (pc2 := 4) hi (R_j_latin l (d + 2) sh σ hi) meJ0_isLatin1_aae02 mlJ0_492 rfl rfl rfl (by simp) ⟨Nat.le_refl _, Nat.le_refl _⟩ dJ0_charAt_5068e_1 rfl ?_
  refine g_if_eq 16 7 dJ0_charAt_5068e_4 rfl rfl (fun h => absurd h (by decide)) (fun _ => ?_)
  refine g_al0 (pc2 := 8) dJ0_charAt_5068e_7 rfl ?_
  refine g_sval (pc2 := 11) hi xlJ0_9 dJ0_charAt_5068e_8 rfl ?_
  refine g_il1 (pc2 := 12) dJ0_charAt_5068e_11 rfl ?_
  refine g_cSi (pc2 := 15) (R_j_at1 l d sh σ hi hj) meJ1_charAt_3b067 mlJ0_495 rfl rfl (by simp) ⟨Nat.le_refl _, Nat.le_refl _⟩ dJ0_charAt_5068e_12 rfl ?_
  exact g_zret dJ0_charAt_5068e_15 rfl hb.2 (Nat.le_refl _) (Nat.le_refl _) ⟨rfl, rfl, rfl⟩
theorem R_j_length (l : lt_L) (d : Nat) (sh : lt_H) (σ : lt_S) : lt_T l (d + 2) mJ0_length_8abf5 sh σ [.ref 1] (some (nI 158)) σ := by
  refine lt_T.of [some (.ref 1)] rfl rfl (Nat.le_of_ble_eq_true rfl) ?_
  refine g_al0 (pc2 := 1) dJ0_length_8abf5_0 rfl ?_
  refine g_sval (i := 0) (pc2 := 4) (by decide) xlJ0_9 dJ0_length_8abf5_1 rfl ?_
  refine g_slen (i := 0) (pc2 := 5) (by decide) rfl dJ0_length_8abf5_4 rfl ?_
  refine g_al0 (pc2 := 6) dJ0_length_8abf5_5 rfl ?_
  refine g_cXi (i := 0) (pc2 := 9) (by decide) (R_j_coder l d sh σ (i := 0) (by decide)) meJ0_coder_7d493 mlJ0_335 rfl rfl rfl (by simp) ⟨Nat.le_refl _, Nat.le_refl _⟩ dJ0_length_8abf5_6 rfl ?_
  refine g_ishr (pc2 := 10) dJ0_length_8abf5_9 rfl ?_
  exact g_iretT dJ0_length_8abf5_10 rfl (Nat.le_refl _) (Nat.le_refl _) (by decide) rfl
/-! the class: letters of a text -/
def ltr (tx : Nat → Nat) (n p : Nat) : Nat := if p < n then tx p else 0
theorem ltr_lt {σ : lt_S} {n : Nat} {tx : Nat → Nat} (h : TC σ n tx) (p : Nat) : ltr tx n p < 128 := by
  unfold ltr
  split
  · next hp => exact (h.2.2 p hp).2
  · decide
theorem R_c_letterAt (l : lt_L) (d : Nat) (t : lt_H) (σ : lt_S) {n : Nat} {tx : Nat → Nat} (hT : TC σ n tx) (p : Nat) (hp : p < 400) : lt_T l (d + 1) mX5_letterAt (lt_SC ++ t) σ [.ref 11, .int (nI p)] (some (nI (ltr tx n p))) σ := by
  refine lt_T.of [some (.ref 11), some (.int (nI p))] rfl rfl (Nat.le_of_ble_eq_true rfl) ?_
  have q1 := hT.1
  have h2 := hT.2.1
  have h3 := hT.2.2 p
  refine g_il1 (pc2 := 1) dX5_letterAt_0 rfl ?_
  refine g_if_lt 21 4 dX5_letterAt_1 rfl rfl (fun h1 => ?_) (fun h1 => ?_)
  · exact absurd h1 (nI_pos (by omega))
  · refine g_il1 (pc2 := 5) dX5_letterAt_4 rfl ?_
    refine g_al0 (pc2 := 6) dX5_letterAt_5 rfl ?_
    refine g_geti (pc2 := 9) (by rfl) (by rfl) flX5_15 dX5_letterAt_6 rfl ?_
    rw [q1]
    refine g_icmpN_ge 21 12 dX5_letterAt_9 rfl rfl (by omega) (by omega) (fun h9 => ?_) (fun h9 => ?_)
    · refine g_iconst (pc2 := 22) dX5_letterAt_21 k_iconst_0 rfl ?_
      exact g_iretT dX5_letterAt_22 rfl (Nat.le_refl _) (Nat.le_refl _) (by unfold ltr; first | (rw [if_pos (by omega)]; exact (h3 (by omega)).1) | (rw [if_neg (by omega)])) (rfl)
    · refine g_al0 (pc2 := 13) dX5_letterAt_12 rfl ?_
      refine g_getr (pc2 := 16) (by rfl) (by rfl) flX5_9 dX5_letterAt_13 rfl ?_
      refine g_il1 (pc2 := 17) dX5_letterAt_16 rfl ?_
      refine g_cald (pc2 := 18) (by rfl) (by omega) (by decide) dX5_letterAt_17 rfl ?_
      refine g_goto 22 dX5_letterAt_18 rfl ?_
      exact g_iretT dX5_letterAt_22 rfl (Nat.le_refl _) (Nat.le_refl _) (by unfold ltr; first | (rw [if_pos (by omega)]; exact (h3 (by omega)).1) | (rw [if_neg (by omega)])) (rfl)
def clr (f : Nat → Int32) : Nat → Int32 := fillF (fun _ => -4) f 12
def S_clear13 (σ : lt_S) : lt_S := lt_ur (lt_up (lt_up (lt_up (lt_up σ 13 0 (nI 0)) 13 1 (nI 0)) 13 2 (nI 0)) 13 3 (nI 1)) 14 (clr (σ 14))
theorem R_c_clear13 (l : lt_L) (d : Nat) (t : lt_H) (σ : lt_S) : lt_T l (d + 1) mX6_clear (lt_SC ++ t) σ [.ref 13] none (S_clear13 σ) := by
  refine lt_T.of [some (.ref 13), none] rfl rfl (Nat.le_of_ble_eq_true rfl) ?_
  unfold S_clear13 clr
  generalize hσ1 : lt_up (lt_up (lt_up (lt_up σ 13 0 (nI 0)) 13 1 (nI 0)) 13 2 (nI 0)) 13 3 (nI 1) = σ1
  have e : σ 14 = σ1 14 := by rw [← hσ1]; rfl
  rw [e]
  have key : ∀ k, k ≤ 12 → lt_g l (d + 1) mX6_clear (lt_SC ++ t) (lt_ur σ1 14 (fillF (fun _ => -4) (σ1 14) k)) 22 [some (.ref 13), some (.int (nI k))] [] none (lt_ur σ1 14 (fillF (fun _ => -4) (σ1 14) 12)) := by
    refine lt_dn 12 ?_ ?_
    · refine g_il1 (pc2 := 23) dX6_clear_22 rfl ?_
      refine g_al0 (pc2 := 24) dX6_clear_23 rfl ?_
      refine g_getr (pc2 := 27) (by rfl) (by rfl) flX6_24 dX6_clear_24 rfl ?_
      refine g_alen (pc2 := 28) (by rfl) (by decide) (show Int32.ofNat _ = nI _ from rfl) dX6_clear_27 rfl ?_
      refine g_icmpN_ge 45 31 dX6_clear_28 rfl rfl (by omega) (by omega) (fun h28 => ?_) (fun h28 => ?_)
      · exact g_retT dX6_clear_45 rfl (Nat.le_refl _) (Nat.le_refl _) (rfl)
      · omega
    · intro k hk ih
      refine g_il1 (pc2 := 23) dX6_clear_22 rfl ?_
      refine g_al0 (pc2 := 24) dX6_clear_23 rfl ?_
      refine g_getr (pc2 := 27) (by rfl) (by rfl) flX6_24 dX6_clear_24 rfl ?_
      refine g_alen (pc2 := 28) (by rfl) (by decide) (show Int32.ofNat _ = nI _ from rfl) dX6_clear_27 rfl ?_
      refine g_icmpN_ge 45 31 dX6_clear_28 rfl rfl (by omega) (by omega) (fun h28 => ?_) (fun h28 => ?_)
      · omega
      · refine g_al0 (pc2 := 32) dX6_clear_31 rfl ?_
        refine g_getr (pc2 := 35) (by rfl) (by rfl) flX6_24 dX6_clear_32 rfl ?_
        refine g_il1 (pc2 := 36) dX6_clear_35 rfl ?_
        refine g_bipush (pc2 := 38) dX6_clear_36 k_bipush_m4 rfl ?_
        refine g_iast (pc2 := 39) (by rfl) (by omega) (by decide) dX6_clear_38 rfl ?_
        refine g_in1 (pc2 := 42) dX6_clear_39 (nI_inc _) (by decide) rfl ?_
        refine g_goto 22 dX6_clear_42 rfl ?_
        rw [lt_up_ur, lt_ur_eq, lt_ur_ur]
        rw [show upd (fillF (fun _ => (-4 : Int32)) (σ1 14) k) k (-4) = fillF (fun _ => -4) (σ1 14) (k + 1) from fillF_s (fun _ => -4) (σ1 14) k]
        exact ih
  have k0 := key 0 (Nat.zero_le _)
  rw [fillF_0, lt_ur_self] at k0
  refine g_al0 (pc2 := 1) dX6_clear_0 rfl ?_
  refine g_iconst (pc2 := 2) dX6_clear_1 k_iconst_0 rfl ?_
  refine g_puti (pc2 := 5) (by rfl) (by rfl) flX6_9 (fpX6_0 _) (fun h => by first | cases h | rfl) dX6_clear_2 rfl ?_
  refine g_al0 (pc2 := 6) dX6_clear_5 rfl ?_
  refine g_iconst (pc2 := 7) dX6_clear_6 k_iconst_0 rfl ?_
  refine g_puti (pc2 := 10) (by rfl) (by rfl) flX6_15 (fpX6_1 _) (fun h => by first | cases h | rfl) dX6_clear_7 rfl ?_
  refine g_al0 (pc2 := 11) dX6_clear_10 rfl ?_
  refine g_iconst (pc2 := 12) dX6_clear_11 k_iconst_0 rfl ?_
  refine g_puti (pc2 := 15) (by rfl) (by rfl) flX6_18 (fpX6_2 _) (fun h => by first | cases h | rfl) dX6_clear_12 rfl ?_
  refine g_al0 (pc2 := 16) dX6_clear_15 rfl ?_
  refine g_iconst (pc2 := 17) dX6_clear_16 k_iconst_1 rfl ?_
  refine g_puti (pc2 := 20) (by rfl) (by rfl) flX6_21 (fpX6_3 _) (fun h => by first | cases h | rfl) dX6_clear_17 rfl ?_
  rw [hσ1]
  refine g_iconst (pc2 := 21) dX6_clear_20 k_iconst_0 rfl ?_
  refine g_is1 (pc2 := 22) dX6_clear_21 (by decide) rfl ?_
  exact k0
theorem CY_clear13 (σ : lt_S) {r : Nat → Int32} (h : Beg r) : CY 13 (S_clear13 σ) r 0 := by
  obtain ⟨h0, h1, h2, h3, h4⟩ := h
  unfold S_clear13
  refine ⟨⟨?_, ?_, ?_, ?_⟩, fun k hk => ?_, fun i hi => by omega⟩
  · rw [h0, lt_ur_ne _ _ (by decide), lt_up_ne _ _ _ (by decide), lt_up_ne _ _ _ (by decide), lt_up_ne _ _ _ (by decide), lt_up_at]
  · rw [h1, lt_ur_ne _ _ (by decide), lt_up_ne _ _ _ (by decide), lt_up_ne _ _ _ (by decide), lt_up_at]
  · rw [h2, lt_ur_ne _ _ (by decide), lt_up_ne _ _ _ (by decide), lt_up_at]
  · rw [h3, lt_ur_ne _ _ (by decide), lt_up_at]
  · rw [h4 (4 + k) (by omega) (by omega)]
    show clr (σ 14) k = -4
    exact if_pos hk
def S_clear26 (σ : lt_S) : lt_S := lt_ur (lt_up (lt_up (lt_up (lt_up σ 26 0 (nI 0)) 26 1 (nI 0)) 26 2 (nI 0)) 26 3 (nI 1)) 27 (clr (σ 27))
theorem R_c_clear26 (l : lt_L) (d : Nat) (t : lt_H) (σ : lt_S) : lt_T l (d + 1) mX6_clear (lt_SC ++ t) σ [.ref 26] none (S_clear26 σ) := by
  refine lt_T.of [some (.ref 26), none] rfl rfl (Nat.le_of_ble_eq_true rfl) ?_
  unfold S_clear26 clr
  generalize hσ1 : lt_up (lt_up (lt_up (lt_up σ 26 0 (nI 0)) 26 1 (nI 0)) 26 2 (nI 0)) 26 3 (nI 1) = σ1
  have e : σ 27 = σ1 27 := by rw [← hσ1]; rfl
  rw [e]
  have key : ∀ k, k ≤ 12 → lt_g l (d + 1) mX6_clear (lt_SC ++ t) (lt_ur σ1 27 (fillF (fun _ => -4) (σ1 27) k)) 22 [some (.ref 26), some (.int (nI k))] [] none (lt_ur σ1 27 (fillF (fun _ => -4) (σ1 27) 12)) := by
    refine lt_dn 12 ?_ ?_
    · refine g_il1 (pc2 := 23) dX6_clear_22 rfl ?_
      refine g_al0 (pc2 := 24) dX6_clear_23 rfl ?_
      refine g_getr (pc2 := 27) (by rfl) (by rfl) flX6_24 dX6_clear_24 rfl ?_
      refine g_alen (pc2 := 28) (by rfl) (by decide) (show Int32.ofNat _ = nI _ from rfl) dX6_clear_27 rfl ?_
      refine g_icmpN_ge 45 31 dX6_clear_28 rfl rfl (by omega) (by omega) (fun h28 => ?_) (fun h28 => ?_)
      · exact g_retT dX6_clear_45 rfl (Nat.le_refl _) (Nat.le_refl _) (rfl)
      · omega
    · intro k hk ih
      refine g_il1 (pc2 := 23) dX6_clear_22 rfl ?_
      refine g_al0 (pc2 := 24) dX6_clear_23 rfl ?_
      refine g_getr (pc2 := 27) (by rfl) (by rfl) flX6_24 dX6_clear_24 rfl ?_
      refine g_alen (pc2 := 28) (by rfl) (by decide) (show Int32.ofNat _ = nI _ from rfl) dX6_clear_27 rfl ?_
      refine g_icmpN_ge 45 31 dX6_clear_28 rfl rfl (by omega) (by omega) (fun h28 => ?_) (fun h28 => ?_)
      · omega
      · refine g_al0 (pc2 := 32) dX6_clear_31 rfl ?_
        refine g_getr (pc2 := 35) (by rfl) (by rfl) flX6_24 dX6_clear_32 rfl ?_
        refine g_il1 (pc2 := 36) dX6_clear_35 rfl ?_
        refine g_bipush (pc2 := 38) dX6_clear_36 k_bipush_m4 rfl ?_
        refine g_iast (pc2 := 39) (by rfl) (by omega) (by decide) dX6_clear_38 rfl ?_
        refine g_in1 (pc2 := 42) dX6_clear_39 (nI_inc _) (by decide) rfl ?_
        refine g_goto 22 dX6_clear_42 rfl ?_
        rw [lt_up_ur, lt_ur_eq, lt_ur_ur]
        rw [show upd (fillF (fun _ => (-4 : Int32)) (σ1 27) k) k (-4) = fillF (fun _ => -4) (σ1 27) (k + 1) from fillF_s (fun _ => -4) (σ1 27) k]
        exact ih
  have k0 := key 0 (Nat.zero_le _)
  rw [fillF_0, lt_ur_self] at k0
  refine g_al0 (pc2 := 1) dX6_clear_0 rfl ?_
  refine g_iconst (pc2 := 2) dX6_clear_1 k_iconst_0 rfl ?_
  refine g_puti (pc2 := 5) (by rfl) (by rfl) flX6_9 (fpX6_0 _) (fun h => by first | cases h | rfl) dX6_clear_2 rfl ?_
  refine g_al0 (pc2 := 6) dX6_clear_5 rfl ?_
  refine g_iconst (pc2 := 7) dX6_clear_6 k_iconst_0 rfl ?_
  refine g_puti (pc2 := 10) (by rfl) (by rfl) flX6_15 (fpX6_1 _) (fun h => by first | cases h | rfl) dX6_clear_7 rfl ?_
  refine g_al0 (pc2 := 11) dX6_clear_10 rfl ?_
  refine g_iconst (pc2 := 12) dX6_clear_11 k_iconst_0 rfl ?_
  refine g_puti (pc2 := 15) (by rfl) (by rfl) flX6_18 (fpX6_2 _) (fun h => by first | cases h | rfl) dX6_clear_12 rfl ?_
  refine g_al0 (pc2 := 16) dX6_clear_15 rfl ?_
  refine g_iconst (pc2 := 17) dX6_clear_16 k_iconst_1 rfl ?_
  refine g_puti (pc2 := 20) (by rfl) (by rfl) flX6_21 (fpX6_3 _) (fun h => by first | cases h | rfl) dX6_clear_17 rfl ?_
  rw [hσ1]
  refine g_iconst (pc2 := 21) dX6_clear_20 k_iconst_0 rfl ?_
  refine g_is1 (pc2 := 22) dX6_clear_21 (by decide) rfl ?_
  exact k0
theorem CY_clear26 (σ : lt_S) {r : Nat → Int32} (h : Beg r) : CY 26 (S_clear26 σ) r 0 := by
  obtain ⟨h0, h1, h2, h3, h4⟩ := h
  unfold S_clear26
  refine ⟨⟨?_, ?_, ?_, ?_⟩, fun k hk => ?_, fun i hi => by omega⟩
  · rw [h0, lt_ur_ne _ _ (by decide), lt_up_ne _ _ _ (by decide), lt_up_ne _ _ _ (by decide), lt_up_ne _ _ _ (by decide), lt_up_at]
  · rw [h1, lt_ur_ne _ _ (by decide), lt_up_ne _ _ _ (by decide), lt_up_ne _ _ _ (by decide), lt_up_at]
  · rw [h2, lt_ur_ne _ _ (by decide), lt_up_ne _ _ _ (by decide), lt_up_at]
  · rw [h3, lt_ur_ne _ _ (by decide), lt_up_at]
  · rw [h4 (4 + k) (by omega) (by omega)]
    show clr (σ 27) k = -4
    exact if_pos hk
