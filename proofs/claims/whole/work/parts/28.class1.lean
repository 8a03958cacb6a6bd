/-! bits, from the kit's family BITS -/
def bt (x : Int32) (i : Nat) : Bool := x.toBitVec.getLsbD i
theorem b_ext {x y : Int32} (h : ∀ i, i < 32 → bt x i = bt y i) : x = y := Int32.toBitVec_inj.mp (BitVec.eq_of_getLsbD_eq (fun i hi => h i hi))
theorem b_or (x y : Int32) (i : Nat) : bt (x ||| y) i = (bt x i || bt y i) := by unfold bt; rw [Int32.toBitVec_or, BitVec.getLsbD_or]
theorem b_and (x y : Int32) (i : Nat) : bt (x &&& y) i = (bt x i && bt y i) := by unfold bt; rw [Int32.toBitVec_and, BitVec.getLsbD_and]
theorem b_xor (x y : Int32) (i : Nat) : bt (x ^^^ y) i = (bt x i ^^ bt y i) := by unfold bt; rw [Int32.toBitVec_xor, BitVec.getLsbD_xor]
theorem b_big {x : Int32} {i : Nat} (h : 32 ≤ i) : bt x i = false := BitVec.getLsbD_of_ge _ _ h
theorem b_255 (i : Nat) : bt 255 i = decide (i < 8) := by
  rcases Nat.lt_or_ge i 32 with h | h
  · exact (by decide +kernel : ∀ i, i < 32 → bt 255 i = decide (i < 8)) i h
  · rw [b_big h, decide_eq_false (by omega)]
theorem b_65535 (i : Nat) : bt 65535 i = decide (i < 16) := by
  rcases Nat.lt_or_ge i 32 with h | h
  · exact (by decide +kernel : ∀ i, i < 32 → bt 65535 i = decide (i < 16)) i h
  · rw [b_big h, decide_eq_false (by omega)]
theorem b_m1 : ∀ i, i < 32 → bt (-1) i = true := by decide +kernel
theorem b_0 (i : Nat) : bt 0 i = false := BitVec.getLsbD_zero
theorem s_l : ∀ n, n < 32 → ((nI n &&& 31).toBitVec.smod 32).toNat = n := by decide +kernel
theorem s_u : ∀ n, n < 32 → (((nI n).toUInt32 &&& Int32.toUInt32 31).toBitVec % 32).toNat = n := by decide +kernel
theorem b_shl (n : Nat) (hn : n < 32) (x : Int32) {i : Nat} (hi : i < 32) : bt (x <<< (nI n &&& 31)) i = (decide (n ≤ i) && bt x (i - n)) := by
  unfold bt
  rw [Int32.toBitVec_shiftLeft]
  show (x.toBitVec <<< ((nI n &&& 31).toBitVec.smod 32).toNat).getLsbD i = _
  rw [s_l n hn, BitVec.getLsbD_shiftLeft]
  rcases Nat.lt_or_ge i n with h | h
  · simp [h, Nat.not_le.mpr h]
  · simp [hi, h, Nat.not_lt.mpr h]
theorem b_ushr (n : Nat) (hn : n < 32) (x : Int32) (i : Nat) : bt ((x.toUInt32 >>> ((nI n).toUInt32 &&& Int32.toUInt32 31)).toInt32) i = bt x (n + i) := by
  show (x.toUInt32 >>> ((nI n).toUInt32 &&& Int32.toUInt32 31)).toBitVec.getLsbD i = x.toUInt32.toBitVec.getLsbD (n + i)
  rw [UInt32.toBitVec_shiftRight]
  show (x.toUInt32.toBitVec >>> (((nI n).toUInt32 &&& Int32.toUInt32 31).toBitVec % 32).toNat).getLsbD i = _
  rw [s_u n hn, BitVec.getLsbD_ushiftRight]
theorem b_sshr (n : Nat) (hn : n < 32) (x : Int32) {i : Nat} (hi : i < 32) : bt (x >>> (nI n &&& 31)) i = if n + i < 32 then bt x (n + i) else bt x 31 := by
  unfold bt
  rw [Int32.toBitVec_shiftRight]
  show (x.toBitVec.sshiftRight ((nI n &&& 31).toBitVec.smod 32).toNat).getLsbD i = _
  rw [s_l n hn, BitVec.getLsbD_sshiftRight, BitVec.msb_eq_getLsbD_last]
  simp [hi]
/-! the class: the yard's and the plan's row -/
def CY (y : Nat) (σ : lt_S) (w : Nat → Int32) (N : Nat) : Prop := (σ y 0 = w 0 ∧ σ y 1 = w 1 ∧ σ y 2 = w 2 ∧ σ y 3 = w 3) ∧ (∀ k, k < 12 → σ (y + 1) k = w (4 + k)) ∧ ∀ i, i < N → σ (y + 2) i = w (16 + 7 * i + 0) ∧ σ (y + 3) i = w (16 + 7 * i + 1) ∧ σ (y + 4) i = w (16 + 7 * i + 5)
def CP (p : Nat) (σ : lt_S) (w : Nat → Int32) (N : Nat) : Prop := ∀ i, i < N → σ (p + 1) i = w (16 + 7 * i + 2) ∧ σ (p + 2) i = w (16 + 7 * i + 3) ∧ σ (p + 3) i = (if w (16 + 7 * i + 4) = -4 then nI 9 else w (16 + 7 * i + 4)) ∧ σ (p + 4) i = w (16 + 7 * i + 6)
theorem R_c_seat (l : lt_L) (d : Nat) (sh : lt_H) (σ : lt_S) (i t : Nat) : lt_T l (d + 1) mX0_seat sh σ [.int (nI i), .int (nI t)] (some (nI (i * 4 + t))) σ := by
  refine lt_T.of [some (.int (nI i)), some (.int (nI t))] rfl rfl (Nat.le_of_ble_eq_true rfl) ?_
  refine g_il0 (pc2 := 1) dX0_seat_0 rfl ?_
  refine g_iconst (pc2 := 2) dX0_seat_1 k_iconst_4 rfl ?_
  refine g_imulN (pc2 := 3) dX0_seat_2 rfl ?_
  refine g_il1 (pc2 := 4) dX0_seat_3 rfl ?_
  refine g_iaddN (pc2 := 5) dX0_seat_4 rfl ?_
  exact g_iretT dX0_seat_5 rfl (Nat.le_refl _) (Nat.le_refl _) (rfl) (rfl)
theorem R_c_meet (l : lt_L) (d : Nat) (sh : lt_H) (σ : lt_S) (s a b : Int32) : lt_T l (d + 1) mX0_meet sh σ [.int s, .int a, .int b] (some (bI (!decide (s = 0) && (!decide (nI 1 < a - b) && !decide (nI 1 < b - a))))) σ := by
  refine lt_T.of [some (.int s), some (.int a), some (.int b)] rfl rfl (Nat.le_of_ble_eq_true rfl) ?_
  refine g_il0 (pc2 := 1) dX0_meet_0 rfl ?_
  refine g_if_eq 22 4 dX0_meet_1 rfl rfl (fun h1 => ?_) (fun h1 => ?_)
  · refine g_iconst (pc2 := 23) dX0_meet_22 k_iconst_0 rfl ?_
    exact g_zretT dX0_meet_23 rfl (Nat.le_refl _) (Nat.le_refl _) (by simp [bI, *]) (rfl)
  · refine g_il1 (pc2 := 5) dX0_meet_4 rfl ?_
    refine g_il2 (pc2 := 6) dX0_meet_5 rfl ?_
    refine g_isub (pc2 := 7) dX0_meet_6 rfl ?_
    refine g_iconst (pc2 := 8) dX0_meet_7 k_iconst_1 rfl ?_
    refine g_icmp_gt 22 11 dX0_meet_8 rfl rfl (fun h8 => ?_) (fun h8 => ?_)
    · refine g_iconst (pc2 := 23) dX0_meet_22 k_iconst_0 rfl ?_
      exact g_zretT dX0_meet_23 rfl (Nat.le_refl _) (Nat.le_refl _) (by simp [bI, *]) (rfl)
    · refine g_il2 (pc2 := 12) dX0_meet_11 rfl ?_
      refine g_il1 (pc2 := 13) dX0_meet_12 rfl ?_
      refine g_isub (pc2 := 14) dX0_meet_13 rfl ?_
      refine g_iconst (pc2 := 15) dX0_meet_14 k_iconst_1 rfl ?_
      refine g_icmp_gt 22 18 dX0_meet_15 rfl rfl (fun h15 => ?_) (fun h15 => ?_)
      · refine g_iconst (pc2 := 23) dX0_meet_22 k_iconst_0 rfl ?_
        exact g_zretT dX0_meet_23 rfl (Nat.le_refl _) (Nat.le_refl _) (by simp [bI, *]) (rfl)
      · refine g_iconst (pc2 := 19) dX0_meet_18 k_iconst_1 rfl ?_
        refine g_goto 23 dX0_meet_19 rfl ?_
        exact g_zretT dX0_meet_23 rfl (Nat.le_refl _) (Nat.le_refl _) (by simp [bI, *]) (rfl)
theorem lt1_le2 (x : Int32) : nI 1 < x ↔ nI 2 ≤ x := by
  rw [Int32.lt_iff_toInt_lt, Int32.le_iff_toInt_le, nI_toInt (by decide), nI_toInt (by decide)]
  omega
theorem meet_eq (s a b : Int32) : (!decide (s = 0) && (!decide (nI 1 < a - b) && !decide (nI 1 < b - a))) = (pf_meet a b && !decide (s = 0)) := by
  unfold pf_meet
  rw [decide_eq_decide.mpr (lt1_le2 (a - b)), decide_eq_decide.mpr (lt1_le2 (b - a)), Bool.and_comm]
theorem R_c_hasLine13 (l : lt_L) (d : Nat) (t : lt_H) (σ : lt_S) (x : Int32) : lt_T l (d + 1) mX6_hasLine (lt_SC ++ t) σ [.ref 13, .int x] (some (bI (hasB x (σ 13 0)))) σ := by
  refine lt_T.of [some (.ref 13), some (.int x)] rfl rfl (Nat.le_of_ble_eq_true rfl) ?_
  refine g_il1 (pc2 := 1) dX6_hasLine_0 rfl ?_
  refine g_if_lt 16 4 dX6_hasLine_1 rfl rfl (fun h1 => ?_) (fun h1 => ?_)
  · refine g_iconst (pc2 := 17) dX6_hasLine_16 k_iconst_0 rfl ?_
    exact g_zretT dX6_hasLine_17 rfl (Nat.le_refl _) (Nat.le_refl _) (by simp [hasB, bI, *]) (rfl)
  · refine g_il1 (pc2 := 5) dX6_hasLine_4 rfl ?_
    refine g_al0 (pc2 := 6) dX6_hasLine_5 rfl ?_
    refine g_geti (pc2 := 9) (by rfl) (by rfl) flX6_9 dX6_hasLine_6 rfl ?_
    refine g_icmp_ge 16 12 dX6_hasLine_9 rfl rfl (fun h9 => ?_) (fun h9 => ?_)
    · refine g_iconst (pc2 := 17) dX6_hasLine_16 k_iconst_0 rfl ?_
      exact g_zretT dX6_hasLine_17 rfl (Nat.le_refl _) (Nat.le_refl _) (by simp [hasB, bI, *]) (rfl)
    · refine g_iconst (pc2 := 13) dX6_hasLine_12 k_iconst_1 rfl ?_
      refine g_goto 17 dX6_hasLine_13 rfl ?_
      exact g_zretT dX6_hasLine_17 rfl (Nat.le_refl _) (Nat.le_refl _) (by simp [hasB, bI, *]) (rfl)
theorem R_c_hasTrack13 (l : lt_L) (d : Nat) (t : lt_H) (σ : lt_S) (x : Int32) : lt_T l (d + 1) mX6_hasTrack (lt_SC ++ t) σ [.ref 13, .int x] (some (bI (hasB x (σ 13 1)))) σ := by
  refine lt_T.of [some (.ref 13), some (.int x)] rfl rfl (Nat.le_of_ble_eq_true rfl) ?_
  refine g_il1 (pc2 := 1) dX6_hasTrack_0 rfl ?_
  refine g_if_lt 16 4 dX6_hasTrack_1 rfl rfl (fun h1 => ?_) (fun h1 => ?_)
  · refine g_iconst (pc2 := 17) dX6_hasTrack_16 k_iconst_0 rfl ?_
    exact g_zretT dX6_hasTrack_17 rfl (Nat.le_refl _) (Nat.le_refl _) (by simp [hasB, bI, *]) (rfl)
  · refine g_il1 (pc2 := 5) dX6_hasTrack_4 rfl ?_
    refine g_al0 (pc2 := 6) dX6_hasTrack_5 rfl ?_
    refine g_geti (pc2 := 9) (by rfl) (by rfl) flX6_15 dX6_hasTrack_6 rfl ?_
    refine g_icmp_ge 16 12 dX6_hasTrack_9 rfl rfl (fun h9 => ?_) (fun h9 => ?_)
    · refine g_iconst (pc2 := 17) dX6_hasTrack_16 k_iconst_0 rfl ?_
      exact g_zretT dX6_hasTrack_17 rfl (Nat.le_refl _) (Nat.le_refl _) (by simp [hasB, bI, *]) (rfl)
    · refine g_iconst (pc2 := 13) dX6_hasTrack_12 k_iconst_1 rfl ?_
      refine g_goto 17 dX6_hasTrack_13 rfl ?_
      exact g_zretT dX6_hasTrack_17 rfl (Nat.le_refl _) (Nat.le_refl _) (by simp [hasB, bI, *]) (rfl)
theorem R_c_hasTrain13 (l : lt_L) (d : Nat) (t : lt_H) (σ : lt_S) (x : Int32) : lt_T l (d + 1) mX6_hasTrain (lt_SC ++ t) σ [.ref 13, .int x] (some (bI (hasB x (σ 13 2)))) σ := by
  refine lt_T.of [some (.ref 13), some (.int x)] rfl rfl (Nat.le_of_ble_eq_true rfl) ?_
  refine g_il1 (pc2 := 1) dX6_hasTrain_0 rfl ?_
  refine g_if_lt 16 4 dX6_hasTrain_1 rfl rfl (fun h1 => ?_) (fun h1 => ?_)
  · refine g_iconst (pc2 := 17) dX6_hasTrain_16 k_iconst_0 rfl ?_
    exact g_zretT dX6_hasTrain_17 rfl (Nat.le_refl _) (Nat.le_refl _) (by simp [hasB, bI, *]) (rfl)
  · refine g_il1 (pc2 := 5) dX6_hasTrain_4 rfl ?_
    refine g_al0 (pc2 := 6) dX6_hasTrain_5 rfl ?_
    refine g_geti (pc2 := 9) (by rfl) (by rfl) flX6_18 dX6_hasTrain_6 rfl ?_
    refine g_icmp_ge 16 12 dX6_hasTrain_9 rfl rfl (fun h9 => ?_) (fun h9 => ?_)
    · refine g_iconst (pc2 := 17) dX6_hasTrain_16 k_iconst_0 rfl ?_
      exact g_zretT dX6_hasTrain_17 rfl (Nat.le_refl _) (Nat.le_refl _) (by simp [hasB, bI, *]) (rfl)
    · refine g_iconst (pc2 := 13) dX6_hasTrain_12 k_iconst_1 rfl ?_
      refine g_goto 17 dX6_hasTrain_13 rfl ?_
      exact g_zretT dX6_hasTrain_17 rfl (Nat.le_refl _) (Nat.le_refl _) (by simp [hasB, bI, *]) (rfl)
theorem R_c_hasLine26 (l : lt_L) (d : Nat) (t : lt_H) (σ : lt_S) (x : Int32) : lt_T l (d + 1) mX6_hasLine (lt_SC ++ t) σ [.ref 26, .int x] (some (bI (hasB x (σ 26 0)))) σ := by
  refine lt_T.of [some (.ref 26), some (.int x)] rfl rfl (Nat.le_of_ble_eq_true rfl) ?_
  refine g_il1 (pc2 := 1) dX6_hasLine_0 rfl ?_
  refine g_if_lt 16 4 dX6_hasLine_1 rfl rfl (fun h1 => ?_) (fun h1 => ?_)
  · refine g_iconst (pc2 := 17) dX6_hasLine_16 k_iconst_0 rfl ?_
    exact g_zretT dX6_hasLine_17 rfl (Nat.le_refl _) (Nat.le_refl _) (by simp [hasB, bI, *]) (rfl)
  · refine g_il1 (pc2 := 5) dX6_hasLine_4 rfl ?_
    refine g_al0 (pc2 := 6) dX6_hasLine_5 rfl ?_
    refine g_geti (pc2 := 9) (by rfl) (by rfl) flX6_9 dX6_hasLine_6 rfl ?_
    refine g_icmp_ge 16 12 dX6_hasLine_9 rfl rfl (fun h9 => ?_) (fun h9 => ?_)
    · refine g_iconst (pc2 := 17) dX6_hasLine_16 k_iconst_0 rfl ?_
      exact g_zretT dX6_hasLine_17 rfl (Nat.le_refl _) (Nat.le_refl _) (by simp [hasB, bI, *]) (rfl)
    · refine g_iconst (pc2 := 13) dX6_hasLine_12 k_iconst_1 rfl ?_
      refine g_goto 17 dX6_hasLine_13 rfl ?_
      exact g_zretT dX6_hasLine_17 rfl (Nat.le_refl _) (Nat.le_refl _) (by simp [hasB, bI, *]) (rfl)
theorem R_c_hasTrack26 (l : lt_L) (d : Nat) (t : lt_H) (σ : lt_S) (x : Int32) : lt_T l (d + 1) mX6_hasTrack (lt_SC ++ t) σ [.ref 26, .int x] (some (bI (hasB x (σ 26 1)))) σ := by
  refine lt_T.of [some (.ref 26), some (.int x)] rfl rfl (Nat.le_of_ble_eq_true rfl) ?_
  refine g_il1 (pc2 := 1) dX6_hasTrack_0 rfl ?_
  refine g_if_lt 16 4 dX6_hasTrack_1 rfl rfl (fun h1 => ?_) (fun h1 => ?_)
  · refine g_iconst (pc2 := 17) dX6_hasTrack_16 k_iconst_0 rfl ?_
    exact g_zretT dX6_hasTrack_17 rfl (Nat.le_refl _) (Nat.le_refl _) (by simp [hasB, bI, *]) (rfl)
  · refine g_il1 (pc2 := 5) dX6_hasTrack_4 rfl ?_
    refine g_al0 (pc2 := 6) dX6_hasTrack_5 rfl ?_
    refine g_geti (pc2 := 9) (by rfl) (by rfl) flX6_15 dX6_hasTrack_6 rfl ?_
    refine g_icmp_ge 16 12 dX6_hasTrack_9 rfl rfl (fun h9 => ?_) (fun h9 => ?_)
    · refine g_iconst (pc2 := 17) dX6_hasTrack_16 k_iconst_0 rfl ?_
      exact g_zretT dX6_hasTrack_17 rfl (Nat.le_refl _) (Nat.le_refl _) (by simp [hasB, bI, *]) (rfl)
    · refine g_iconst (pc2 := 13) dX6_hasTrack_12 k_iconst_1 rfl ?_
      refine g_goto 17 dX6_hasTrack_13 rfl ?_
      exact g_zretT dX6_hasTrack_17 rfl (Nat.le_refl _) (Nat.le_refl _) (by simp [hasB, bI, *]) (rfl)
theorem R_c_hasTrain26 (l : lt_L) (d : Nat) (t : lt_H) (σ : lt_S) (x : Int32) : lt_T l (d + 1) mX6_hasTrain (lt_SC ++ t) σ [.ref 26, .int x] (some (bI (hasB x (σ 26 2)))) σ := by
  refine lt_T.of [some (.ref 26), some (.int x)] rfl rfl (Nat.le_of_ble_eq_true rfl) ?_
  refine g_il1 (pc2 := 1) dX6_hasTrain_0 rfl ?_
  refine g_if_lt 16 4 dX6_hasTrain_1 rfl rfl (fun h1 => ?_) (fun h1 => ?_)
  · refine g_iconst (pc2 := 17) dX6_hasTrain_16 k_iconst_0 rfl ?_
    exact g_zretT dX6_hasTrain_17 rfl (Nat.le_refl _) (Nat.le_refl _) (by simp [hasB, bI, *]) (rfl)
  · refine g_il1 (pc2 := 5) dX6_hasTrain_4 rfl ?_
    refine g_al0 (pc2 := 6) dX6_hasTrain_5 rfl ?_
    refine g_geti (pc2 := 9) (by rfl) (by rfl) flX6_18 dX6_hasTrain_6 rfl ?_
    refine g_icmp_ge 16 12 dX6_hasTrain_9 rfl rfl (fun h9 => ?_) (fun h9 => ?_)
    · refine g_iconst (pc2 := 17) dX6_hasTrain_16 k_iconst_0 rfl ?_
      exact g_zretT dX6_hasTrain_17 rfl (Nat.le_refl _) (Nat.le_refl _) (by simp [hasB, bI, *]) (rfl)
    · refine g_iconst (pc2 := 13) dX6_hasTrain_12 k_iconst_1 rfl ?_
      refine g_goto 17 dX6_hasTrain_13 rfl ?_
      exact g_zretT dX6_hasTrain_17 rfl (Nat.le_refl _) (Nat.le_refl _) (by simp [hasB, bI, *]) (rfl)
theorem R_c_switchesOf (l : lt_L) (d : Nat) (t : lt_H) (σ : lt_S) (a b : Nat) (ha : a < 3) (hb : b < 4) : lt_T l (d + 1) mX6_switchesOf (lt_SC ++ t) σ [.ref 13, .int (nI a), .int (nI b)] (some (σ 14 (a * 4 + b))) σ := by
  refine lt_T.of [some (.ref 13), some (.int (nI a)), some (.int (nI b))] rfl rfl (Nat.le_of_ble_eq_true rfl) ?_
  refine g_al0 (pc2 := 1) dX6_switchesOf_0 rfl ?_
  refine g_getr (pc2 := 4) (by rfl) (by rfl) flX6_24 dX6_switchesOf_1 rfl ?_
  refine g_il1 (pc2 := 5) dX6_switchesOf_4 rfl ?_
  refine g_iconst (pc2 := 6) dX6_switchesOf_5 k_iconst_4 rfl ?_
  refine g_imulN (pc2 := 7) dX6_switchesOf_6 rfl ?_
  refine g_il2 (pc2 := 8) dX6_switchesOf_7 rfl ?_
  refine g_iaddN (pc2 := 9) dX6_switchesOf_8 rfl ?_
  refine g_iald (pc2 := 10) (by rfl) (by omega) (by decide) dX6_switchesOf_9 rfl ?_
  exact g_iretT dX6_switchesOf_10 rfl (Nat.le_refl _) (Nat.le_refl _) (rfl) (rfl)
theorem R_c_routeIn (l : lt_L) (d : Nat) (t : lt_H) (σ : lt_S) {w : Nat → Int32} {N : Nat} (hy : CY 13 σ w N) (i b : Nat) (hi : i < N) (hl : Ln w i) (hb : b < 4) : lt_T l (d + 1) mX6_routeIn (lt_SC ++ t) σ [.ref 13, .int (nI i), .int (nI b)] (some (pf_in w i b)) σ := by
  refine lt_T.of [some (.ref 13), some (.int (nI i)), some (.int (nI b))] rfl rfl (Nat.le_of_ble_eq_true rfl) ?_
  obtain ⟨h7, ⟨a, ha, ea⟩, -⟩ := hl
  have e1 : σ 15 i = nI a := ((hy.2.2 i hi).1).trans ea
  have e2 : σ 14 (a * 4 + b) = w (4 + (a * 4 + b)) := hy.2.1 _ (by omega)
  refine g_al0 (pc2 := 1) dX6_routeIn_0 rfl ?_
  refine g_getr (pc2 := 4) (by rfl) (by rfl) flX6_24 dX6_routeIn_1 rfl ?_
  refine g_al0 (pc2 := 5) dX6_routeIn_4 rfl ?_
  refine g_getr (pc2 := 8) (by rfl) (by rfl) flX6_28 dX6_routeIn_5 rfl ?_
  refine g_il1 (pc2 := 9) dX6_routeIn_8 rfl ?_
  refine g_iald (pc2 := 10) (by rfl) (by omega) (by decide) dX6_routeIn_9 rfl ?_
  rw [e1]
  refine g_iconst (pc2 := 11) dX6_routeIn_10 k_iconst_4 rfl ?_
  refine g_imulN (pc2 := 12) dX6_routeIn_11 rfl ?_
  refine g_il2 (pc2 := 13) dX6_routeIn_12 rfl ?_
  refine g_iaddN (pc2 := 14) dX6_routeIn_13 rfl ?_
  refine g_iald (pc2 := 15) (by rfl) (by omega) (by decide) dX6_routeIn_14 rfl ?_
  rw [e2]
  exact g_iretT dX6_routeIn_15 rfl (Nat.le_refl _) (Nat.le_refl _) (by unfold pf_in; rw [ea, tN_nI (by omega)]; congr 1; omega) (rfl)
theorem R_c_routeOut (l : lt_L) (d : Nat) (t : lt_H) (σ : lt_S) {w : Nat → Int32} {N : Nat} (hy : CY 13 σ w N) (i b : Nat) (hi : i < N) (hl : Ln w i) (hb : b < 4) : lt_T l (d + 1) mX6_routeOut (lt_SC ++ t) σ [.ref 13, .int (nI i), .int (nI b)] (some (pf_out w i b)) σ := by
  refine lt_T.of [some (.ref 13), some (.int (nI i)), some (.int (nI b))] rfl rfl (Nat.le_of_ble_eq_true rfl) ?_
  obtain ⟨h7, -, ⟨a, ha, ea⟩⟩ := hl
  have e1 : σ 16 i = nI a := ((hy.2.2 i hi).2.1).trans ea
  have e2 : σ 14 (a * 4 + b) = w (4 + (a * 4 + b)) := hy.2.1 _ (by omega)
  refine g_al0 (pc2 := 1) dX6_routeOut_0 rfl ?_
  refine g_getr (pc2 := 4) (by rfl) (by rfl) flX6_24 dX6_routeOut_1 rfl ?_
  refine g_al0 (pc2 := 5) dX6_routeOut_4 rfl ?_
  refine g_getr (pc2 := 8) (by rfl) (by rfl) flX6_31 dX6_routeOut_5 rfl ?_
  refine g_il1 (pc2 := 9) dX6_routeOut_8 rfl ?_
  refine g_iald (pc2 := 10) (by rfl) (by omega) (by decide) dX6_routeOut_9 rfl ?_
  rw [e1]
  refine g_iconst (pc2 := 11) dX6_routeOut_10 k_iconst_4 rfl ?_
  refine g_imulN (pc2 := 12) dX6_routeOut_11 rfl ?_
  refine g_il2 (pc2 := 13) dX6_routeOut_12 rfl ?_
  refine g_iaddN (pc2 := 14) dX6_routeOut_13 rfl ?_
  refine g_iald (pc2 := 15) (by rfl) (by omega) (by decide) dX6_routeOut_14 rfl ?_
  rw [e2]
  exact g_iretT dX6_routeOut_15 rfl (Nat.le_refl _) (Nat.le_refl _) (by unfold pf_out; rw [ea, tN_nI (by omega)]; congr 1; omega) (rfl)
theorem R_c_fits (l : lt_L) (d : Nat) (t : lt_H) (σ : lt_S) {w : Nat → Int32} {N : Nat} (hy : CY 13 σ w N) (i b : Nat) (hi : i < N) (hl : Ln w i) (hb : b < 4) : lt_T l (d + 2) mX6_fits (lt_SC ++ t) σ [.ref 13, .int (nI i), .int (nI b)] (some (bI (pf_fit w i b))) σ := by
  refine lt_T.of [some (.ref 13), some (.int (nI i)), some (.int (nI b))] rfl rfl (Nat.le_of_ble_eq_true rfl) ?_
  refine g_al0 (pc2 := 1) dX6_fits_0 rfl ?_
  refine g_il1 (pc2 := 2) dX6_fits_1 rfl ?_
  refine g_il2 (pc2 := 3) dX6_fits_2 rfl ?_
  refine g_cVi (pc2 := 6) (R_c_routeIn l d _ _ hy _ _ hi hl hb) meX6_routeIn mlX6_37 (by rfl) ⟨_, rfl, rfl⟩ rfl rfl (by simp) ⟨Nat.le_refl _, Nat.le_refl _⟩ dX6_fits_3 rfl ?_
  refine g_bipush (pc2 := 8) dX6_fits_6 k_bipush_m4 rfl ?_
  refine g_icmp_eq 26 11 dX6_fits_8 rfl rfl (fun h8 => ?_) (fun h8 => ?_)
  · refine g_iconst (pc2 := 27) dX6_fits_26 k_iconst_0 rfl ?_
    exact g_zretT dX6_fits_27 rfl (Nat.le_refl _) (Nat.le_refl _) (by simp [pf_fit, bI, *]) (rfl)
  · refine g_al0 (pc2 := 12) dX6_fits_11 rfl ?_
    refine g_il1 (pc2 := 13) dX6_fits_12 rfl ?_
    refine g_il2 (pc2 := 14) dX6_fits_13 rfl ?_
    refine g_cVi (pc2 := 17) (R_c_routeOut l d _ _ hy _ _ hi hl hb) meX6_routeOut mlX6_41 (by rfl) ⟨_, rfl, rfl⟩ rfl rfl (by simp) ⟨Nat.le_refl _, Nat.le_refl _⟩ dX6_fits_14 rfl ?_
    refine g_bipush (pc2 := 19) dX6_fits_17 k_bipush_m4 rfl ?_
    refine g_icmp_eq 26 22 dX6_fits_19 rfl rfl (fun h19 => ?_) (fun h19 => ?_)
    · refine g_iconst (pc2 := 27) dX6_fits_26 k_iconst_0 rfl ?_
      exact g_zretT dX6_fits_27 rfl (Nat.le_refl _) (Nat.le_refl _) (by simp [pf_fit, bI, *]) (rfl)
    · refine g_iconst (pc2 := 23) dX6_fits_22 k_iconst_1 rfl ?_
      refine g_goto 27 dX6_fits_23 rfl ?_
      exact g_zretT dX6_fits_27 rfl (Nat.le_refl _) (Nat.le_refl _) (by simp [pf_fit, bI, *]) (rfl)
theorem R_c_areCoupled (l : lt_L) (d : Nat) (t : lt_H) (σ : lt_S) {w : Nat → Int32} {N : Nat} (hy : CY 13 σ w N) (i j : Nat) (hi : i < N) (hN : N ≤ 7) : lt_T l (d + 1) mX6_areCoupled (lt_SC ++ t) σ [.ref 13, .int (nI i), .int (nI j)] (some (bI (pf_mates w i j))) σ := by
  refine lt_T.of [some (.ref 13), some (.int (nI i)), some (.int (nI j))] rfl rfl (Nat.le_of_ble_eq_true rfl) ?_
  have e1 : σ 17 i = w (16 + 7 * i + 5) := (hy.2.2 i hi).2.2
  refine g_al0 (pc2 := 1) dX6_areCoupled_0 rfl ?_
  refine g_getr (pc2 := 4) (by rfl) (by rfl) flX6_34 dX6_areCoupled_1 rfl ?_
  refine g_il1 (pc2 := 5) dX6_areCoupled_4 rfl ?_
  refine g_iald (pc2 := 6) (by rfl) (by omega) (by decide) dX6_areCoupled_5 rfl ?_
  rw [e1]
  refine g_il2 (pc2 := 7) dX6_areCoupled_6 rfl ?_
  refine g_icmp_ne 14 10 dX6_areCoupled_7 rfl rfl (fun h7 => ?_) (fun h7 => ?_)
  · refine g_iconst (pc2 := 15) dX6_areCoupled_14 k_iconst_0 rfl ?_
    exact g_zretT dX6_areCoupled_15 rfl (Nat.le_refl _) (Nat.le_refl _) (by simp [pf_mates, bI, *]) (rfl)
  · refine g_iconst (pc2 := 11) dX6_areCoupled_10 k_iconst_1 rfl ?_
    refine g_goto 15 dX6_areCoupled_11 rfl ?_
    exact g_zretT dX6_areCoupled_15 rfl (Nat.le_refl _) (Nat.le_refl _) (by simp [pf_mates, bI, *]) (rfl)
theorem gap_eq (g : Int32) : (if g < nI 1 then nI 1 else g) = (if nI 1 ≤ g then g else nI 1) := by
  by_cases h : g < nI 1
  · rw [if_pos h, if_neg (Int32.not_le.mpr h)]
  · rw [if_neg h, if_pos (Int32.not_lt.mp h)]
theorem R_c_isBehind (l : lt_L) (d : Nat) (t : lt_H) (σ : lt_S) {w : Nat → Int32} {N : Nat} (hy : CY 13 σ w N) (hp : CP 18 σ w N) (i j : Nat) (hi : i < N) (hj : j < N) (hN : N ≤ 7) : lt_T l (d + 2) mX0_isBehind (lt_SC ++ t) σ [.ref 37, .int (nI i), .int (nI j)] (some (bI (decide (w (16 + 7 * j + 3) + pf_gap w ≤ w (16 + 7 * i + 2))))) σ := by
  refine lt_T.of [some (.ref 37), some (.int (nI i)), some (.int (nI j))] rfl rfl (Nat.le_of_ble_eq_true rfl) ?_
  have e1 : σ 19 i = w (16 + 7 * i + 2) := (hp i hi).1
  have e2 : σ 20 j = w (16 + 7 * j + 3) := (hp j hj).2.1
  have e3 : σ 13 3 = w 3 := hy.1.2.2.2
  refine g_al0 (pc2 := 1) dX0_isBehind_0 rfl ?_
  refine g_getr (pc2 := 4) (by rfl) (by rfl) flX0_19 dX0_isBehind_1 rfl ?_
  refine g_getr (pc2 := 7) (by rfl) (by rfl) flX0_57 dX0_isBehind_4 rfl ?_
  refine g_il1 (pc2 := 8) dX0_isBehind_7 rfl ?_
  refine g_iald (pc2 := 9) (by rfl) (by omega) (by decide) dX0_isBehind_8 rfl ?_
  rw [e1]
  refine g_al0 (pc2 := 10) dX0_isBehind_9 rfl ?_
  refine g_getr (pc2 := 13) (by rfl) (by rfl) flX0_19 dX0_isBehind_10 rfl ?_
  refine g_getr (pc2 := 16) (by rfl) (by rfl) flX0_62 dX0_isBehind_13 rfl ?_
  refine g_il2 (pc2 := 17) dX0_isBehind_16 rfl ?_
  refine g_iald (pc2 := 18) (by rfl) (by omega) (by decide) dX0_isBehind_17 rfl ?_
  rw [e2]
  refine g_al0 (pc2 := 19) dX0_isBehind_18 rfl ?_
  refine g_getr (pc2 := 22) (by rfl) (by rfl) flX0_15 dX0_isBehind_19 rfl ?_
  refine g_geti (pc2 := 25) (by rfl) (by rfl) flX0_65 dX0_isBehind_22 rfl ?_
  rw [e3]
  refine g_iconst (pc2 := 26) dX0_isBehind_25 k_iconst_1 rfl ?_
  refine g_max (pc2 := 29) mlX0_68 mm_max1 mm_2 mm_max3 (by simp) (by omega) (Nat.le_refl _) (Nat.le_refl _) dX0_isBehind_26 rfl ?_
  rw [gap_eq]
  refine g_iadd (pc2 := 30) dX0_isBehind_29 rfl ?_
  refine g_icmp_lt 37 33 dX0_isBehind_30 rfl rfl (fun h30 => ?_) (fun h30 => ?_)
  · refine g_iconst (pc2 := 38) dX0_isBehind_37 k_iconst_0 rfl ?_
    exact g_zretT dX0_isBehind_38 rfl (Nat.le_refl _) (Nat.le_refl _) (by first | (rw [show decide (w (16 + 7 * j + 3) + pf_gap w ≤ w (16 + 7 * i + 2)) = false from decide_eq_false (Int32.not_le.mpr h30)]; rfl) | (rw [show decide (w (16 + 7 * j + 3) + pf_gap w ≤ w (16 + 7 * i + 2)) = true from decide_eq_true (Int32.not_lt.mp h30)]; rfl)) (rfl)
  · refine g_iconst (pc2 := 34) dX0_isBehind_33 k_iconst_1 rfl ?_
    refine g_goto 38 dX0_isBehind_34 rfl ?_
    exact g_zretT dX0_isBehind_38 rfl (Nat.le_refl _) (Nat.le_refl _) (by first | (rw [show decide (w (16 + 7 * j + 3) + pf_gap w ≤ w (16 + 7 * i + 2)) = false from decide_eq_false (Int32.not_le.mpr h30)]; rfl) | (rw [show decide (w (16 + 7 * j + 3) + pf_gap w ≤ w (16 + 7 * i + 2)) = true from decide_eq_true (Int32.not_lt.mp h30)]; rfl)) (rfl)
theorem R_c_shareSwitch (l : lt_L) (d : Nat) (t : lt_H) (σ : lt_S) {w : Nat → Int32} {N : Nat} (hy : CY 13 σ w N) (hp : CP 18 σ w N) (i a j b : Nat) (hi : i < N) (hj : j < N) (hli : Ln w i) (hlj : Ln w j) (ha : a < 4) (hb : b < 4) : lt_T l (d + 2) mX0_shareSwitch (lt_SC ++ t) σ [.ref 37, .int (nI i), .int (nI a), .int (nI j), .int (nI b)] (some (bI (pf_sw w i a j b))) σ := by
  refine lt_T.of [some (.ref 37), some (.int (nI i)), some (.int (nI a)), some (.int (nI j)), some (.int (nI b)), none, none, none, none, none, none] rfl rfl (Nat.le_of_ble_eq_true rfl) ?_
  have hi7 := hli.1
  have hj7 := hlj.1
  have a1 : σ 19 i = w (16 + 7 * i + 2) := (hp i hi).1
  have a2 : σ 19 j = w (16 + 7 * j + 2) := (hp j hj).1
  have b1 : σ 20 i = w (16 + 7 * i + 3) := (hp i hi).2.1
  have b2 : σ 20 j = w (16 + 7 * j + 3) := (hp j hj).2.1
  refine g_al0 (pc2 := 1) dX0_shareSwitch_0 rfl ?_
  refine g_getr (pc2 := 4) (by rfl) (by rfl) flX0_15 dX0_shareSwitch_1 rfl ?_
  refine g_il1 (pc2 := 5) dX0_shareSwitch_4 rfl ?_
  refine g_il2 (pc2 := 6) dX0_shareSwitch_5 rfl ?_
  refine g_cVi (pc2 := 9) (R_c_routeIn l d _ _ hy _ _ hi hli ha) meX6_routeIn mlX0_73 (by rfl) ⟨_, rfl, rfl⟩ rfl rfl (by simp) ⟨Nat.le_refl _, Nat.le_refl _⟩ dX0_shareSwitch_6 rfl ?_
  refine g_is5 (pc2 := 11) dX0_shareSwitch_9 (by decide) rfl ?_
  refine g_al0 (pc2 := 12) dX0_shareSwitch_11 rfl ?_
  refine g_getr (pc2 := 15) (by rfl) (by rfl) flX0_15 dX0_shareSwitch_12 rfl ?_
  refine g_il1 (pc2 := 16) dX0_shareSwitch_15 rfl ?_
  refine g_il2 (pc2 := 17) dX0_shareSwitch_16 rfl ?_
  refine g_cVi (pc2 := 20) (R_c_routeOut l d _ _ hy _ _ hi hli ha) meX6_routeOut mlX0_76 (by rfl) ⟨_, rfl, rfl⟩ rfl rfl (by simp) ⟨Nat.le_refl _, Nat.le_refl _⟩ dX0_shareSwitch_17 rfl ?_
  refine g_is6 (pc2 := 22) dX0_shareSwitch_20 (by decide) rfl ?_
  refine g_al0 (pc2 := 23) dX0_shareSwitch_22 rfl ?_
  refine g_getr (pc2 := 26) (by rfl) (by rfl) flX0_15 dX0_shareSwitch_23 rfl ?_
  refine g_il3 (pc2 := 27) dX0_shareSwitch_26 rfl ?_
  refine g_il4 (pc2 := 29) dX0_shareSwitch_27 rfl ?_
  refine g_cVi (pc2 := 32) (R_c_routeIn l d _ _ hy _ _ hj hlj hb) meX6_routeIn mlX0_73 (by rfl) ⟨_, rfl, rfl⟩ rfl rfl (by simp) ⟨Nat.le_refl _, Nat.le_refl _⟩ dX0_shareSwitch_29 rfl ?_
  refine g_is7 (pc2 := 34) dX0_shareSwitch_32 (by decide) rfl ?_
  refine g_al0 (pc2 := 35) dX0_shareSwitch_34 rfl ?_
  refine g_getr (pc2 := 38) (by rfl) (by rfl) flX0_15 dX0_shareSwitch_35 rfl ?_
  refine g_il3 (pc2 := 39) dX0_shareSwitch_38 rfl ?_
  refine g_il4 (pc2 := 41) dX0_shareSwitch_39 rfl ?_
  refine g_cVi (pc2 := 44) (R_c_routeOut l d _ _ hy _ _ hj hlj hb) meX6_routeOut mlX0_76 (by rfl) ⟨_, rfl, rfl⟩ rfl rfl (by simp) ⟨Nat.le_refl _, Nat.le_refl _⟩ dX0_shareSwitch_41 rfl ?_
  refine g_is8 (pc2 := 46) dX0_shareSwitch_44 (by decide) rfl ?_
  refine g_al0 (pc2 := 47) dX0_shareSwitch_46 rfl ?_
  refine g_getr (pc2 := 50) (by rfl) (by rfl) flX0_19 dX0_shareSwitch_47 rfl ?_
  refine g_getr (pc2 := 53) (by rfl) (by rfl) flX0_57 dX0_shareSwitch_50 rfl ?_
  refine g_il1 (pc2 := 54) dX0_shareSwitch_53 rfl ?_
  refine g_iald (pc2 := 55) (by rfl) (by omega) (by decide) dX0_shareSwitch_54 rfl ?_
  rw [a1]
  refine g_iconst (pc2 := 56) dX0_shareSwitch_55 k_iconst_1 rfl ?_
  refine g_isub (pc2 := 57) dX0_shareSwitch_56 rfl ?_
  refine g_is9 (pc2 := 59) dX0_shareSwitch_57 (by decide) rfl ?_
  refine g_al0 (pc2 := 60) dX0_shareSwitch_59 rfl ?_
  refine g_getr (pc2 := 63) (by rfl) (by rfl) flX0_19 dX0_shareSwitch_60 rfl ?_
  refine g_getr (pc2 := 66) (by rfl) (by rfl) flX0_57 dX0_shareSwitch_63 rfl ?_
  refine g_il3 (pc2 := 67) dX0_shareSwitch_66 rfl ?_
  refine g_iald (pc2 := 68) (by rfl) (by omega) (by decide) dX0_shareSwitch_67 rfl ?_
  rw [a2]
  refine g_iconst (pc2 := 69) dX0_shareSwitch_68 k_iconst_1 rfl ?_
  refine g_isub (pc2 := 70) dX0_shareSwitch_69 rfl ?_
  refine g_is10 (pc2 := 72) dX0_shareSwitch_70 (by decide) rfl ?_
  refine g_il5 (pc2 := 74) dX0_shareSwitch_72 rfl ?_
  refine g_il7 (pc2 := 76) dX0_shareSwitch_74 rfl ?_
  refine g_iand (pc2 := 77) dX0_shareSwitch_76 rfl ?_
  refine g_il9 (pc2 := 79) dX0_shareSwitch_77 rfl ?_
  refine g_il10 (pc2 := 81) dX0_shareSwitch_79 rfl ?_
  refine g_cSi (pc2 := 84) (R_c_meet l d _ _ _ _ _) meX0_meet mlX0_79 rfl rfl (by simp) ⟨Nat.le_refl _, Nat.le_refl _⟩ dX0_shareSwitch_81 rfl ?_
  rw [meet_eq]
  refine g_if_neB 160 87 dX0_shareSwitch_84 rfl rfl (fun h84 => ?_) (fun h84 => ?_)
  · refine g_iconst (pc2 := 161) dX0_shareSwitch_160 k_iconst_1 rfl ?_
    refine g_goto 165 dX0_shareSwitch_161 rfl ?_
    exact g_zretT dX0_shareSwitch_165 rfl (Nat.le_refl _) (Nat.le_refl _) (by first | (rw [show pf_sw w i a j b = true from (by unfold pf_sw; first | (rw [h84]; simp; done) | (rw [h106]; simp; done) | (rw [h128]; simp; done) | (rw [h157]; simp; done))]; rfl) | (rw [show pf_sw w i a j b = false from (by unfold pf_sw; rw [h84, h106, h128, h157]; rfl)]; rfl)) (rfl)
  · refine g_il5 (pc2 := 89) dX0_shareSwitch_87 rfl ?_
    refine g_il8 (pc2 := 91) dX0_shareSwitch_89 rfl ?_
    refine g_iand (pc2 := 92) dX0_shareSwitch_91 rfl ?_
    refine g_il9 (pc2 := 94) dX0_shareSwitch_92 rfl ?_
    refine g_al0 (pc2 := 95) dX0_shareSwitch_94 rfl ?_
    refine g_getr (pc2 := 98) (by rfl) (by rfl) flX0_19 dX0_shareSwitch_95 rfl ?_
    refine g_getr (pc2 := 101) (by rfl) (by rfl) flX0_62 dX0_shareSwitch_98 rfl ?_
    refine g_il3 (pc2 := 102) dX0_shareSwitch_101 rfl ?_
    refine g_iald (pc2 := 103) (by rfl) (by omega) (by decide) dX0_shareSwitch_102 rfl ?_
    rw [b2]
    refine g_cSi (pc2 := 106) (R_c_meet l d _ _ _ _ _) meX0_meet mlX0_79 rfl rfl (by simp) ⟨Nat.le_refl _, Nat.le_refl _⟩ dX0_shareSwitch_103 rfl ?_
    rw [meet_eq]
    refine g_if_neB 160 109 dX0_shareSwitch_106 rfl rfl (fun h106 => ?_) (fun h106 => ?_)
    · refine g_iconst (pc2 := 161) dX0_shareSwitch_160 k_iconst_1 rfl ?_
      refine g_goto 165 dX0_shareSwitch_161 rfl ?_
      exact g_zretT dX0_shareSwitch_165 rfl (Nat.le_refl _) (Nat.le_refl _) (by first | (rw [show pf_sw w i a j b = true from (by unfold pf_sw; first | (rw [h84]; simp; done) | (rw [h106]; simp; done) | (rw [h128]; simp; done) | (rw [h157]; simp; done))]; rfl) | (rw [show pf_sw w i a j b = false from (by unfold pf_sw; rw [h84, h106, h128, h157]; rfl)]; rfl)) (rfl)
    · refine g_il6 (pc2 := 111) dX0_shareSwitch_109 rfl ?_
      refine g_il7 (pc2 := 113) dX0_shareSwitch_111 rfl ?_
      refine g_iand (pc2 := 114) dX0_shareSwitch_113 rfl ?_
      refine g_al0 (pc2 := 115) dX0_shareSwitch_114 rfl ?_
      refine g_getr (pc2 := 118) (by rfl) (by rfl) flX0_19 dX0_shareSwitch_115 rfl ?_
      refine g_getr (pc2 := 121) (by rfl) (by rfl) flX0_62 dX0_shareSwitch_118 rfl ?_
      refine g_il1 (pc2 := 122) dX0_shareSwitch_121 rfl ?_
      refine g_iald (pc2 := 123) (by rfl) (by omega) (by decide) dX0_shareSwitch_122 rfl ?_
      rw [b1]
      refine g_il10 (pc2 := 125) dX0_shareSwitch_123 rfl ?_
      refine g_cSi (pc2 := 128) (R_c_meet l d _ _ _ _ _) meX0_meet mlX0_79 rfl rfl (by simp) ⟨Nat.le_refl _, Nat.le_refl _⟩ dX0_shareSwitch_125 rfl ?_
      rw [meet_eq]
      refine g_if_neB 160 131 dX0_shareSwitch_128 rfl rfl (fun h128 => ?_) (fun h128 => ?_)
      · refine g_iconst (pc2 := 161) dX0_shareSwitch_160 k_iconst_1 rfl ?_
        refine g_goto 165 dX0_shareSwitch_161 rfl ?_
        exact g_zretT dX0_shareSwitch_165 rfl (Nat.le_refl _) (Nat.le_refl _) (by first | (rw [show pf_sw w i a j b = true from (by unfold pf_sw; first | (rw [h84]; simp; done) | (rw [h106]; simp; done) | (rw [h128]; simp; done) | (rw [h157]; simp; done))]; rfl) | (rw [show pf_sw w i a j b = false from (by unfold pf_sw; rw [h84, h106, h128, h157]; rfl)]; rfl)) (rfl)
      · refine g_il6 (pc2 := 133) dX0_shareSwitch_131 rfl ?_
        refine g_il8 (pc2 := 135) dX0_shareSwitch_133 rfl ?_
        refine g_iand (pc2 := 136) dX0_shareSwitch_135 rfl ?_
        refine g_al0 (pc2 := 137) dX0_shareSwitch_136 rfl ?_
        refine g_getr (pc2 := 140) (by rfl) (by rfl) flX0_19 dX0_shareSwitch_137 rfl ?_
        refine g_getr (pc2 := 143) (by rfl) (by rfl) flX0_62 dX0_shareSwitch_140 rfl ?_
        refine g_il1 (pc2 := 144) dX0_shareSwitch_143 rfl ?_
        refine g_iald (pc2 := 145) (by rfl) (by omega) (by decide) dX0_shareSwitch_144 rfl ?_
        rw [b1]
        refine g_al0 (pc2 := 146) dX0_shareSwitch_145 rfl ?_
        refine g_getr (pc2 := 149) (by rfl) (by rfl) flX0_19 dX0_shareSwitch_146 rfl ?_
        refine g_getr (pc2 := 152) (by rfl) (by rfl) flX0_62 dX0_shareSwitch_149 rfl ?_
        refine g_il3 (pc2 := 153) dX0_shareSwitch_152 rfl ?_
        refine g_iald (pc2 := 154) (by rfl) (by omega) (by decide) dX0_shareSwitch_153 rfl ?_
        rw [b2]
        refine g_cSi (pc2 := 157) (R_c_meet l d _ _ _ _ _) meX0_meet mlX0_79 rfl rfl (by simp) ⟨Nat.le_refl _, Nat.le_refl _⟩ dX0_shareSwitch_154 rfl ?_
        rw [meet_eq]
        refine g_if_eqB 164 160 dX0_shareSwitch_157 rfl rfl (fun h157 => ?_) (fun h157 => ?_)
        · refine g_iconst (pc2 := 165) dX0_shareSwitch_164 k_iconst_0 rfl ?_
          exact g_zretT dX0_shareSwitch_165 rfl (Nat.le_refl _) (Nat.le_refl _) (by first | (rw [show pf_sw w i a j b = true from (by unfold pf_sw; first | (rw [h84]; simp; done) | (rw [h106]; simp; done) | (rw [h128]; simp; done) | (rw [h157]; simp; done))]; rfl) | (rw [show pf_sw w i a j b = false from (by unfold pf_sw; rw [h84, h106, h128, h157]; rfl)]; rfl)) (rfl)
        · refine g_iconst (pc2 := 161) dX0_shareSwitch_160 k_iconst_1 rfl ?_
          refine g_goto 165 dX0_shareSwitch_161 rfl ?_
          exact g_zretT dX0_shareSwitch_165 rfl (Nat.le_refl _) (Nat.le_refl _) (by first | (rw [show pf_sw w i a j b = true from (by unfold pf_sw; first | (rw [h84]; simp; done) | (rw [h106]; simp; done) | (rw [h128]; simp; done) | (rw [h157]; simp; done))]; rfl) | (rw [show pf_sw w i a j b = false from (by unfold pf_sw; rw [h84, h106, h128, h157]; rfl)]; rfl)) (rfl)
def kindF (w : Nat → Int32) (i a j b : Nat) : Nat := if pf_fit w i a && pf_fit w j b then pf_kind w i a j b else 0
theorem kindF_le (w : Nat → Int32) (i t j o : Nat) : kindF w i t j o ≤ 3 := by
  unfold kindF
  split
  · exact pf_kind_le w i t j o
  · omega
theorem R_c_kind (l : lt_L) (d : Nat) (t : lt_H) (σ : lt_S) {w : Nat → Int32} {N : Nat} (hN : N ≤ 7) (hy : CY 13 σ w N) (hp : CP 18 σ w N) (i a j b : Nat) (hi : i < N) (hj : j < N) (hli : Ln w i) (hlj : Ln w j) (ha : a < 4) (hb : b < 4) : lt_T l (d + 3) mX0_kind (lt_SC ++ t) σ [.ref 37, .int (nI i), .int (nI a), .int (nI j), .int (nI b)] (some (nI (kindF w i a j b))) σ := by
  refine lt_T.of [some (.ref 37), some (.int (nI i)), some (.int (nI a)), some (.int (nI j)), some (.int (nI b)), none] rfl rfl (Nat.le_of_ble_eq_true rfl) ?_
  generalize hr : some (nI (kindF w i a j b)) = r
  have ap : ∀ q1 q2, decide (w (16 + 7 * j + 3) + pf_gap w ≤ w (16 + 7 * i + 2)) = q1 → decide (w (16 + 7 * i + 3) + pf_gap w ≤ w (16 + 7 * j + 2)) = q2 → pf_apart w i j = (q2 || q1) := fun q1 q2 h1 h2 => by unfold pf_apart; rw [h1, h2]
  have fin : pf_fit w i a = true → pf_fit w j b = true → ¬ (a = b ∧ pf_mates w i j = true) → ∀ (x : Nat), x = (if a = b ∧ pf_apart w i j = false then 1 else 0) → lt_g l (d + 3) mX0_kind (lt_SC ++ t) σ 80 [some (.ref 37), some (.int (nI i)), some (.int (nI a)), some (.int (nI j)), some (.int (nI b)), some (.int (nI x))] [] r σ := by
    intro f1 f2 hm x hx
    have hk : kindF w i a j b = x + (if pf_sw w i a j b = true then 2 else 0) := by unfold kindF; rw [f1, f2]; simp only [Bool.and_self, if_true]; unfold pf_kind; rw [if_neg hm, hx]
    have hx1 : x = 0 ∨ x = 1 := by rw [hx]; split <;> omega
    rw [← hr, hk]
    refine g_al0 (pc2 := 81) dX0_kind_80 rfl ?_
    refine g_il1 (pc2 := 82) dX0_kind_81 rfl ?_
    refine g_il2 (pc2 := 83) dX0_kind_82 rfl ?_
    refine g_il3 (pc2 := 84) dX0_kind_83 rfl ?_
    refine g_il4 (pc2 := 86) dX0_kind_84 rfl ?_
    refine g_cVi (pc2 := 89) (R_c_shareSwitch l d _ _ hy hp _ _ _ _ hi hj hli hlj ha hb) meX0_shareSwitch mlX0_53 (by rfl) ⟨_, rfl, rfl⟩ rfl rfl (by simp) ⟨Nat.le_refl _, Nat.le_refl _⟩ dX0_kind_86 rfl ?_
    refine g_if_eqB 98 92 dX0_kind_89 rfl rfl (fun h89 => ?_) (fun h89 => ?_)
    · refine g_il5 (pc2 := 100) dX0_kind_98 rfl ?_
      exact g_iretT dX0_kind_100 rfl (Nat.le_refl _) (Nat.le_refl _) (by rw [h89]; rcases hx1 with e | e <;> rw [e] <;> rfl) (rfl)
    · refine g_il5 (pc2 := 94) dX0_kind_92 rfl ?_
      refine g_iconst (pc2 := 95) dX0_kind_94 k_iconst_2 rfl ?_
      refine g_ior (pc2 := 96) dX0_kind_95 rfl ?_
      refine g_is5 (pc2 := 98) dX0_kind_96 (by decide) rfl ?_
      refine g_il5 (pc2 := 100) dX0_kind_98 rfl ?_
      exact g_iretT dX0_kind_100 rfl (Nat.le_refl _) (Nat.le_refl _) (by rw [h89]; rcases hx1 with e | e <;> rw [e] <;> rfl) (rfl)
  have go : pf_fit w i a = true → pf_fit w j b = true → ¬ (a = b ∧ pf_mates w i j = true) → lt_g l (d + 3) mX0_kind (lt_SC ++ t) σ 47 [some (.ref 37), some (.int (nI i)), some (.int (nI a)), some (.int (nI j)), some (.int (nI b)), none] [] r σ := by
    intro f1 f2 hm
    refine g_iconst (pc2 := 48) dX0_kind_47 k_iconst_0 rfl ?_
    refine g_is5 (pc2 := 50) dX0_kind_48 (by decide) rfl ?_
    refine g_il2 (pc2 := 51) dX0_kind_50 rfl ?_
    refine g_il4 (pc2 := 53) dX0_kind_51 rfl ?_
    refine g_icmpN_ne 80 56 dX0_kind_53 rfl rfl (by omega) (by omega) (fun h53 => ?_) (fun h53 => ?_)
    · first | exact fin f1 f2 hm 0 (by first | (rw [if_neg (fun h => h53 h.1)]; done) | (rw [if_neg (fun h => by have := h.2; rw [ap _ _ h62 rfl, Bool.or_true] at this; cases this)]; done) | (rw [if_neg (fun h => by have := h.2; rw [ap _ _ rfl h71, Bool.true_or] at this; cases this)]; done)) | exact fin f1 f2 hm 1 (by rw [if_pos ⟨h53, by rw [ap _ _ h62 h71]; rfl⟩])
    · refine g_al0 (pc2 := 57) dX0_kind_56 rfl ?_
      refine g_il1 (pc2 := 58) dX0_kind_57 rfl ?_
      refine g_il3 (pc2 := 59) dX0_kind_58 rfl ?_
      refine g_cVi (pc2 := 62) (R_c_isBehind l d _ _ hy hp _ _ hi hj hN) meX0_isBehind mlX0_50 (by rfl) ⟨_, rfl, rfl⟩ rfl rfl (by simp) ⟨Nat.le_refl _, Nat.le_refl _⟩ dX0_kind_59 rfl ?_
      refine g_if_neB 80 65 dX0_kind_62 rfl rfl (fun h62 => ?_) (fun h62 => ?_)
      · first | exact fin f1 f2 hm 0 (by first | (rw [if_neg (fun h => h53 h.1)]; done) | (rw [if_neg (fun h => by have := h.2; rw [ap _ _ h62 rfl, Bool.or_true] at this; cases this)]; done) | (rw [if_neg (fun h => by have := h.2; rw [ap _ _ rfl h71, Bool.true_or] at this; cases this)]; done)) | exact fin f1 f2 hm 1 (by rw [if_pos ⟨h53, by rw [ap _ _ h62 h71]; rfl⟩])
      · refine g_al0 (pc2 := 66) dX0_kind_65 rfl ?_
        refine g_il3 (pc2 := 67) dX0_kind_66 rfl ?_
        refine g_il1 (pc2 := 68) dX0_kind_67 rfl ?_
        refine g_cVi (pc2 := 71) (R_c_isBehind l d _ _ hy hp _ _ hj hi hN) meX0_isBehind mlX0_50 (by rfl) ⟨_, rfl, rfl⟩ rfl rfl (by simp) ⟨Nat.le_refl _, Nat.le_refl _⟩ dX0_kind_68 rfl ?_
        refine g_if_neB 80 74 dX0_kind_71 rfl rfl (fun h71 => ?_) (fun h71 => ?_)
        · first | exact fin f1 f2 hm 0 (by first | (rw [if_neg (fun h => h53 h.1)]; done) | (rw [if_neg (fun h => by have := h.2; rw [ap _ _ h62 rfl, Bool.or_true] at this; cases this)]; done) | (rw [if_neg (fun h => by have := h.2; rw [ap _ _ rfl h71, Bool.true_or] at this; cases this)]; done)) | exact fin f1 f2 hm 1 (by rw [if_pos ⟨h53, by rw [ap _ _ h62 h71]; rfl⟩])
        · refine g_il5 (pc2 := 76) dX0_kind_74 rfl ?_
          refine g_iconst (pc2 := 77) dX0_kind_76 k_iconst_1 rfl ?_
          refine g_ior (pc2 := 78) dX0_kind_77 rfl ?_
          refine g_is5 (pc2 := 80) dX0_kind_78 (by decide) rfl ?_
          first | exact fin f1 f2 hm 0 (by first | (rw [if_neg (fun h => h53 h.1)]; done) | (rw [if_neg (fun h => by have := h.2; rw [ap _ _ h62 rfl, Bool.or_true] at this; cases this)]; done) | (rw [if_neg (fun h => by have := h.2; rw [ap _ _ rfl h71, Bool.true_or] at this; cases this)]; done)) | exact fin f1 f2 hm 1 (by rw [if_pos ⟨h53, by rw [ap _ _ h62 h71]; rfl⟩])
  refine g_al0 (pc2 := 1) dX0_kind_0 rfl ?_
  refine g_getr (pc2 := 4) (by rfl) (by rfl) flX0_15 dX0_kind_1 rfl ?_
  refine g_il1 (pc2 := 5) dX0_kind_4 rfl ?_
  refine g_il2 (pc2 := 6) dX0_kind_5 rfl ?_
  refine g_cVi (pc2 := 9) (R_c_fits l (d + 0) _ _ hy _ _ hi hli ha) meX6_fits mlX0_43 (by rfl) ⟨_, rfl, rfl⟩ rfl rfl (by simp) ⟨Nat.le_refl _, Nat.le_refl _⟩ dX0_kind_6 rfl ?_
  refine g_if_eqB 25 12 dX0_kind_9 rfl rfl (fun h9 => ?_) (fun h9 => ?_)
  · subst hr
    refine g_iconst (pc2 := 26) dX0_kind_25 k_iconst_0 rfl ?_
    exact g_iretT dX0_kind_26 rfl (Nat.le_refl _) (Nat.le_refl _) (by first | (simp [kindF, h9]; done) | (simp [kindF, h22]; done) | (simp [kindF, pf_kind, h30, h42]; done)) (rfl)
  · refine g_al0 (pc2 := 13) dX0_kind_12 rfl ?_
    refine g_getr (pc2 := 16) (by rfl) (by rfl) flX0_15 dX0_kind_13 rfl ?_
    refine g_il3 (pc2 := 17) dX0_kind_16 rfl ?_
    refine g_il4 (pc2 := 19) dX0_kind_17 rfl ?_
    refine g_cVi (pc2 := 22) (R_c_fits l (d + 0) _ _ hy _ _ hj hlj hb) meX6_fits mlX0_43 (by rfl) ⟨_, rfl, rfl⟩ rfl rfl (by simp) ⟨Nat.le_refl _, Nat.le_refl _⟩ dX0_kind_19 rfl ?_
    refine g_if_neB 27 25 dX0_kind_22 rfl rfl (fun h22 => ?_) (fun h22 => ?_)
    · refine g_il2 (pc2 := 28) dX0_kind_27 rfl ?_
      refine g_il4 (pc2 := 30) dX0_kind_28 rfl ?_
      refine g_icmpN_ne 47 33 dX0_kind_30 rfl rfl (by omega) (by omega) (fun h30 => ?_) (fun h30 => ?_)
      · exact go h9 h22 (fun h => by first | exact h30 h.1 | (rw [h42] at h; cases h.2))
      · refine g_al0 (pc2 := 34) dX0_kind_33 rfl ?_
        refine g_getr (pc2 := 37) (by rfl) (by rfl) flX0_15 dX0_kind_34 rfl ?_
        refine g_il1 (pc2 := 38) dX0_kind_37 rfl ?_
        refine g_il3 (pc2 := 39) dX0_kind_38 rfl ?_
        refine g_cVi (pc2 := 42) (R_c_areCoupled l (d + 1) _ _ hy _ _ hi hN) meX6_areCoupled mlX0_47 (by rfl) ⟨_, rfl, rfl⟩ rfl rfl (by simp) ⟨Nat.le_refl _, Nat.le_refl _⟩ dX0_kind_39 rfl ?_
        refine g_if_eqB 47 45 dX0_kind_42 rfl rfl (fun h42 => ?_) (fun h42 => ?_)
        · exact go h9 h22 (fun h => by first | exact h30 h.1 | (rw [h42] at h; cases h.2))
        · subst hr
          refine g_iconst (pc2 := 46) dX0_kind_45 k_iconst_0 rfl ?_
          exact g_iretT dX0_kind_46 rfl (Nat.le_refl _) (Nat.le_refl _) (by first | (simp [kindF, h9]; done) | (simp [kindF, h22]; done) | (simp [kindF, pf_kind, h30, h42]; done)) (rfl)
    · subst hr
      refine g_iconst (pc2 := 26) dX0_kind_25 k_iconst_0 rfl ?_
      exact g_iretT dX0_kind_26 rfl (Nat.le_refl _) (Nat.le_refl _) (by first | (simp [kindF, h9]; done) | (simp [kindF, h22]; done) | (simp [kindF, pf_kind, h30, h42]; done)) (rfl)
/-! what is against a seat, as bits -/
def agB (w : Nat → Int32) (i t j o : Nat) : Bool := !decide (j = i) && !decide (kindF w i t j o = 0)
def agV (w : Nat → Int32) (i t j o : Nat) : Int32 := if agB w i t j o then nI 1 <<< (nI (j * 4 + o) &&& 31) else nI 0
def agF (w : Nat → Int32) (T N i t : Nat) : Int32 := orF (fun j => orF (agV w i t j) T) N
theorem R_c_seatsAgainst (l : lt_L) (d : Nat) (t : lt_H) (σ : lt_S) {w : Nat → Int32} {ln T N : Nat} (hw : Wf w ln T N) (hy : CY 13 σ w N) (hp : CP 18 σ w N) (i a : Nat) (hi : i < N) (ha : a < 4) : lt_T l (d + 4) mX0_seatsAgainst (lt_SC ++ t) σ [.ref 37, .int (nI i), .int (nI a)] (some (agF w T N i a)) σ := by
  refine lt_T.of [some (.ref 37), some (.int (nI i)), some (.int (nI a)), none, none, none] rfl rfl (Nat.le_of_ble_eq_true rfl) ?_
  have hN := hw.2.2.1
  have hT := hw.2.1
  have e2 : σ 13 2 = nI N := hy.1.2.2.1.trans hN.1
  have e1 : σ 13 1 = nI T := hy.1.2.1.trans hT.1
  unfold agF
  have key : ∀ j, j ≤ N → ∀ z : Option Value, lt_g l (d + 4) mX0_seatsAgainst (lt_SC ++ t) σ 5 [some (.ref 37), some (.int (nI i)), some (.int (nI a)), some (.int (orF (fun j => orF (agV w i a j) T) j)), some (.int (nI j)), z] [] (some (orF (fun j => orF (agV w i a j) T) N)) σ := by
    refine lt_dn N ?_ ?_
    · intro z
      refine g_il4 (pc2 := 7) dX0_seatsAgainst_5 rfl ?_
      refine g_al0 (pc2 := 8) dX0_seatsAgainst_7 rfl ?_
      refine g_getr (pc2 := 11) (by rfl) (by rfl) flX0_15 dX0_seatsAgainst_8 rfl ?_
      refine g_geti (pc2 := 14) (by rfl) (by rfl) flX0_23 dX0_seatsAgainst_11 rfl ?_
      rw [e2]
      refine g_icmpN_ge 75 17 dX0_seatsAgainst_14 rfl rfl (by omega) (by omega) (fun h14 => ?_) (fun h14 => ?_)
      · refine g_il3 (pc2 := 76) dX0_seatsAgainst_75 rfl ?_
        exact g_iretT dX0_seatsAgainst_76 rfl (Nat.le_refl _) (Nat.le_refl _) (rfl) (rfl)
      · omega
    · intro j hj ih z
      have key2 : ∀ o, o ≤ T → lt_g l (d + 4) mX0_seatsAgainst (lt_SC ++ t) σ 20 [some (.ref 37), some (.int (nI i)), some (.int (nI a)), some (.int (orF (fun j => orF (agV w i a j) T) j ||| orF (agV w i a j) o)), some (.int (nI j)), some (.int (nI o))] [] (some (orF (fun j => orF (agV w i a j) T) N)) σ := by
        refine lt_dn T ?_ ?_
        · refine g_il5 (pc2 := 22) dX0_seatsAgainst_20 rfl ?_
          refine g_al0 (pc2 := 23) dX0_seatsAgainst_22 rfl ?_
          refine g_getr (pc2 := 26) (by rfl) (by rfl) flX0_15 dX0_seatsAgainst_23 rfl ?_
          refine g_geti (pc2 := 29) (by rfl) (by rfl) flX0_29 dX0_seatsAgainst_26 rfl ?_
          rw [e1]
          refine g_icmpN_ge 69 32 dX0_seatsAgainst_29 rfl rfl (by omega) (by omega) (fun h29 => ?_) (fun h29 => ?_)
          · refine g_in4 (pc2 := 72) dX0_seatsAgainst_69 (nI_inc _) (by decide) rfl ?_
            refine g_goto 5 dX0_seatsAgainst_72 rfl ?_
            exact ih _
          · omega
        · intro o ho ih2
          have hkl := kindF_le w i a j o
          simp only [orF] at ih2
          rw [← or_assoc32] at ih2
          refine g_il5 (pc2 := 22) dX0_seatsAgainst_20 rfl ?_
          refine g_al0 (pc2 := 23) dX0_seatsAgainst_22 rfl ?_
          refine g_getr (pc2 := 26) (by rfl) (by rfl) flX0_15 dX0_seatsAgainst_23 rfl ?_
          refine g_geti (pc2 := 29) (by rfl) (by rfl) flX0_29 dX0_seatsAgainst_26 rfl ?_
          rw [e1]
          refine g_icmpN_ge 69 32 dX0_seatsAgainst_29 rfl rfl (by omega) (by omega) (fun h29 => ?_) (fun h29 => ?_)
          · omega
          · refine g_il4 (pc2 := 34) dX0_seatsAgainst_32 rfl ?_
            refine g_il1 (pc2 := 35) dX0_seatsAgainst_34 rfl ?_
            refine g_icmpN_eq 63 38 dX0_seatsAgainst_35 rfl rfl (by omega) (by omega) (fun h35 => ?_) (fun h35 => ?_)
            · refine g_in5 (pc2 := 66) dX0_seatsAgainst_63 (nI_inc _) (by decide) rfl ?_
              refine g_goto 20 dX0_seatsAgainst_66 rfl ?_
              first | (rw [show agV w i a j o = nI 1 <<< (nI (j * 4 + o) &&& 31) from if_pos (by rw [← nI_0, nI_eq (by omega) (by decide)] at h48; simp [agB, h35, h48])] at ih2; exact ih2) | (rw [show agV w i a j o = nI 0 from if_neg (by first | (simp [agB, h35]; done) | (rw [← nI_0, nI_eq (by omega) (by decide)] at h48; simp [agB, h48]; done)), or_0] at ih2; exact ih2)
            · refine g_al0 (pc2 := 39) dX0_seatsAgainst_38 rfl ?_
              refine g_il1 (pc2 := 40) dX0_seatsAgainst_39 rfl ?_
              refine g_il2 (pc2 := 41) dX0_seatsAgainst_40 rfl ?_
              refine g_il4 (pc2 := 43) dX0_seatsAgainst_41 rfl ?_
              refine g_il5 (pc2 := 45) dX0_seatsAgainst_43 rfl ?_
              refine g_cVi (pc2 := 48) (R_c_kind l d _ _ hN.2 hy hp _ _ _ _ hi hj (hw.ln hi) (hw.ln hj) ha (by omega)) meX0_kind mlX0_39 (by rfl) ⟨_, rfl, rfl⟩ rfl rfl (by simp) ⟨Nat.le_refl _, Nat.le_refl _⟩ dX0_seatsAgainst_45 rfl ?_
              refine g_if_eq 63 51 dX0_seatsAgainst_48 rfl rfl (fun h48 => ?_) (fun h48 => ?_)
              · refine g_in5 (pc2 := 66) dX0_seatsAgainst_63 (nI_inc _) (by decide) rfl ?_
                refine g_goto 20 dX0_seatsAgainst_66 rfl ?_
                first | (rw [show agV w i a j o = nI 1 <<< (nI (j * 4 + o) &&& 31) from if_pos (by rw [← nI_0, nI_eq (by omega) (by decide)] at h48; simp [agB, h35, h48])] at ih2; exact ih2) | (rw [show agV w i a j o = nI 0 from if_neg (by first | (simp [agB, h35]; done) | (rw [← nI_0, nI_eq (by omega) (by decide)] at h48; simp [agB, h48]; done)), or_0] at ih2; exact ih2)
              · refine g_il3 (pc2 := 52) dX0_seatsAgainst_51 rfl ?_
                refine g_iconst (pc2 := 53) dX0_seatsAgainst_52 k_iconst_1 rfl ?_
                refine g_il4 (pc2 := 55) dX0_seatsAgainst_53 rfl ?_
                refine g_il5 (pc2 := 57) dX0_seatsAgainst_55 rfl ?_
                refine g_cSi (pc2 := 60) (R_c_seat l (d + 2) _ _ _ _) meX0_seat mlX0_32 rfl rfl (by simp) ⟨Nat.le_refl _, Nat.le_refl _⟩ dX0_seatsAgainst_57 rfl ?_
                refine g_ishl (pc2 := 61) dX0_seatsAgainst_60 rfl ?_
                refine g_ior (pc2 := 62) dX0_seatsAgainst_61 rfl ?_
                refine g_is3 (pc2 := 63) dX0_seatsAgainst_62 (by decide) rfl ?_
                refine g_in5 (pc2 := 66) dX0_seatsAgainst_63 (nI_inc _) (by decide) rfl ?_
                refine g_goto 20 dX0_seatsAgainst_66 rfl ?_
                first | (rw [show agV w i a j o = nI 1 <<< (nI (j * 4 + o) &&& 31) from if_pos (by rw [← nI_0, nI_eq (by omega) (by decide)] at h48; simp [agB, h35, h48])] at ih2; exact ih2) | (rw [show agV w i a j o = nI 0 from if_neg (by first | (simp [agB, h35]; done) | (rw [← nI_0, nI_eq (by omega) (by decide)] at h48; simp [agB, h48]; done)), or_0] at ih2; exact ih2)
      have k0 := key2 0 (Nat.zero_le _)
      rw [show orF (agV w i a j) 0 = nI 0 from rfl, or_0] at k0
      refine g_il4 (pc2 := 7) dX0_seatsAgainst_5 rfl ?_
      refine g_al0 (pc2 := 8) dX0_seatsAgainst_7 rfl ?_
      refine g_getr (pc2 := 11) (by rfl) (by rfl) flX0_15 dX0_seatsAgainst_8 rfl ?_
      refine g_geti (pc2 := 14) (by rfl) (by rfl) flX0_23 dX0_seatsAgainst_11 rfl ?_
      rw [e2]
      refine g_icmpN_ge 75 17 dX0_seatsAgainst_14 rfl rfl (by omega) (by omega) (fun h14 => ?_) (fun h14 => ?_)
      · omega
      · refine g_iconst (pc2 := 18) dX0_seatsAgainst_17 k_iconst_0 rfl ?_
        refine g_is5 (pc2 := 20) dX0_seatsAgainst_18 (by decide) rfl ?_
        exact k0
  refine g_iconst (pc2 := 1) dX0_seatsAgainst_0 k_iconst_0 rfl ?_
  refine g_is3 (pc2 := 2) dX0_seatsAgainst_1 (by decide) rfl ?_
  refine g_iconst (pc2 := 3) dX0_seatsAgainst_2 k_iconst_0 rfl ?_
  refine g_is4 (pc2 := 5) dX0_seatsAgainst_3 (by decide) rfl ?_
  exact key 0 (Nat.zero_le _) _
/-- the array of seats against -/
def CA (σ : lt_S) (w : Nat → Int32) (T N : Nat) : Prop := ∀ i, i < N → ∀ t, t < T → σ 38 (i * 4 + t) = agF w T N i t
def fill3 (g : Nat → Nat → Int32) (f0 : Nat → Int32) (T i o : Nat) : Nat → Int32 := fun z => if (z / 4 < i ∧ z % 4 < T) ∨ (z / 4 = i ∧ z % 4 < o) then g (z / 4) (z % 4) else f0 z
theorem fill3_0 (g : Nat → Nat → Int32) (f0 : Nat → Int32) (T : Nat) : fill3 g f0 T 0 0 = f0 := by
  funext z
  exact if_neg (by omega)
theorem fill3_s (g : Nat → Nat → Int32) (f0 : Nat → Int32) (T i o : Nat) (ho : o < T) (hT : T ≤ 4) : upd (fill3 g f0 T i o) (i * 4 + o) (g i o) = fill3 g f0 T i (o + 1) := by
  funext z
  unfold upd fill3
  by_cases h : z = i * 4 + o
  · subst h
    rw [if_pos rfl, if_pos (by omega), show (i * 4 + o) / 4 = i by omega, show (i * 4 + o) % 4 = o by omega]
  · rw [if_neg h]
    by_cases h2 : (z / 4 < i ∧ z % 4 < T) ∨ (z / 4 = i ∧ z % 4 < o)
    · rw [if_pos h2, if_pos (by omega)]
    · rw [if_neg h2, if_neg (by omega)]
theorem fill3_r (g : Nat → Nat → Int32) (f0 : Nat → Int32) (T i : Nat) : fill3 g f0 T i T = fill3 g f0 T (i + 1) 0 := by
  funext z
  unfold fill3
  by_cases h2 : (z / 4 < i ∧ z % 4 < T) ∨ (z / 4 = i ∧ z % 4 < T)
  · rw [if_pos h2, if_pos (by omega)]
  · rw [if_neg h2, if_neg (by omega)]
def S_work (σ : lt_S) (w : Nat → Int32) (T N : Nat) : lt_S := lt_ur σ 38 (fill3 (agF w T N) (σ 38) T N 0)
theorem CA_work (σ : lt_S) (w : Nat → Int32) (T N : Nat) (hT : T ≤ 4) : CA (S_work σ w T N) w T N := by
  intro i hi t ht
  unfold S_work
  rw [lt_ur_eq]
  unfold fill3
  rw [show (i * 4 + t) / 4 = i by omega, show (i * 4 + t) % 4 = t by omega]
  exact if_pos (by omega)
theorem R_c_workOut (l : lt_L) (d : Nat) (t : lt_H) (σ : lt_S) {w : Nat → Int32} {ln T N : Nat} (hw : Wf w ln T N) (hy : CY 13 σ w N) (hp : CP 18 σ w N) : lt_T l (d + 5) mX0_workOut (lt_SC ++ t) σ [.ref 37] none (S_work σ w T N) := by
  refine lt_T.of [some (.ref 37), none, none] rfl rfl (Nat.le_of_ble_eq_true rfl) ?_
  have hN := hw.2.2.1
  have hT := hw.2.1
  have e2 : σ 13 2 = nI N := hy.1.2.2.1.trans hN.1
  have e1 : σ 13 1 = nI T := hy.1.2.1.trans hT.1
  unfold S_work
  have key : ∀ i, i ≤ N → ∀ z : Option Value, lt_g l (d + 5) mX0_workOut (lt_SC ++ t) (lt_ur σ 38 (fill3 (agF w T N) (σ 38) T i 0)) 2 [some (.ref 37), some (.int (nI i)), z] [] none (lt_ur σ 38 (fill3 (agF w T N) (σ 38) T N 0)) := by
    refine lt_dn N ?_ ?_
    · intro z
      refine g_il1 (pc2 := 3) dX0_workOut_2 rfl ?_
      refine g_al0 (pc2 := 4) dX0_workOut_3 rfl ?_
      refine g_getr (pc2 := 7) (by rfl) (by rfl) flX0_15 dX0_workOut_4 rfl ?_
      refine g_geti (pc2 := 10) (by rfl) (by rfl) flX0_23 dX0_workOut_7 rfl ?_
      rw [show lt_ur σ 38 (fill3 (agF w T N) (σ 38) T N 0) 13 2 = nI N from e2]
      refine g_icmpN_ge 54 13 dX0_workOut_10 rfl rfl (by omega) (by omega) (fun h10 => ?_) (fun h10 => ?_)
      · exact g_retT dX0_workOut_54 rfl (Nat.le_refl _) (Nat.le_refl _) (rfl)
      · omega
    · intro i hi ih z
      have key2 : ∀ o, o ≤ T → lt_g l (d + 5) mX0_workOut (lt_SC ++ t) (lt_ur σ 38 (fill3 (agF w T N) (σ 38) T i o)) 15 [some (.ref 37), some (.int (nI i)), some (.int (nI o))] [] none (lt_ur σ 38 (fill3 (agF w T N) (σ 38) T N 0)) := by
        refine lt_dn T ?_ ?_
        · rw [fill3_r]
          refine g_il2 (pc2 := 16) dX0_workOut_15 rfl ?_
          refine g_al0 (pc2 := 17) dX0_workOut_16 rfl ?_
          refine g_getr (pc2 := 20) (by rfl) (by rfl) flX0_15 dX0_workOut_17 rfl ?_
          refine g_geti (pc2 := 23) (by rfl) (by rfl) flX0_29 dX0_workOut_20 rfl ?_
          rw [show lt_ur σ 38 (fill3 (agF w T N) (σ 38) T (i + 1) 0) 13 1 = nI T from e1]
          refine g_icmpN_ge 48 26 dX0_workOut_23 rfl rfl (by omega) (by omega) (fun h23 => ?_) (fun h23 => ?_)
          · refine g_in1 (pc2 := 51) dX0_workOut_48 (nI_inc _) (by decide) rfl ?_
            refine g_goto 2 dX0_workOut_51 rfl ?_
            exact ih _
          · omega
        · intro o ho ih2
          refine g_il2 (pc2 := 16) dX0_workOut_15 rfl ?_
          refine g_al0 (pc2 := 17) dX0_workOut_16 rfl ?_
          refine g_getr (pc2 := 20) (by rfl) (by rfl) flX0_15 dX0_workOut_17 rfl ?_
          refine g_geti (pc2 := 23) (by rfl) (by rfl) flX0_29 dX0_workOut_20 rfl ?_
          rw [show lt_ur σ 38 (fill3 (agF w T N) (σ 38) T i o) 13 1 = nI T from e1]
          refine g_icmpN_ge 48 26 dX0_workOut_23 rfl rfl (by omega) (by omega) (fun h23 => ?_) (fun h23 => ?_)
          · omega
          · refine g_al0 (pc2 := 27) dX0_workOut_26 rfl ?_
            refine g_getr (pc2 := 30) (by rfl) (by rfl) flX0_9 dX0_workOut_27 rfl ?_
            refine g_il1 (pc2 := 31) dX0_workOut_30 rfl ?_
            refine g_il2 (pc2 := 32) dX0_workOut_31 rfl ?_
            refine g_cSi (pc2 := 35) (R_c_seat l (d + 3) _ _ _ _) meX0_seat mlX0_32 rfl rfl (by simp) ⟨Nat.le_refl _, Nat.le_refl _⟩ dX0_workOut_32 rfl ?_
            refine g_al0 (pc2 := 36) dX0_workOut_35 rfl ?_
            refine g_il1 (pc2 := 37) dX0_workOut_36 rfl ?_
            refine g_il2 (pc2 := 38) dX0_workOut_37 rfl ?_
            refine g_cVi (pc2 := 41) (R_c_seatsAgainst l d _ _ hw (show CY 13 (lt_ur σ 38 (fill3 (agF w T N) (σ 38) T i o)) w N from hy) (show CP 18 (lt_ur σ 38 (fill3 (agF w T N) (σ 38) T i o)) w N from hp) _ _ hi (by omega)) meX0_seatsAgainst mlX0_36 (by rfl) ⟨_, rfl, rfl⟩ rfl rfl (by simp) ⟨Nat.le_refl _, Nat.le_refl _⟩ dX0_workOut_38 rfl ?_
            refine g_iast (pc2 := 42) (by rfl) (by omega) (by decide) dX0_workOut_41 rfl ?_
            refine g_in2 (pc2 := 45) dX0_workOut_42 (nI_inc _) (by decide) rfl ?_
            refine g_goto 15 dX0_workOut_45 rfl ?_
            rw [lt_up_ur, lt_ur_eq, lt_ur_ur, fill3_s _ _ _ _ _ ho hT.2.2]
            exact ih2
      refine g_il1 (pc2 := 3) dX0_workOut_2 rfl ?_
      refine g_al0 (pc2 := 4) dX0_workOut_3 rfl ?_
      refine g_getr (pc2 := 7) (by rfl) (by rfl) flX0_15 dX0_workOut_4 rfl ?_
      refine g_geti (pc2 := 10) (by rfl) (by rfl) flX0_23 dX0_workOut_7 rfl ?_
      rw [show lt_ur σ 38 (fill3 (agF w T N) (σ 38) T i 0) 13 2 = nI N from e2]
      refine g_icmpN_ge 54 13 dX0_workOut_10 rfl rfl (by omega) (by omega) (fun h10 => ?_) (fun h10 => ?_)
      · omega
      · refine g_iconst (pc2 := 14) dX0_workOut_13 k_iconst_0 rfl ?_
        refine g_is2 (pc2 := 15) dX0_workOut_14 (by decide) rfl ?_
        exact key2 0 (Nat.zero_le _)
  have k0 := key 0 (Nat.zero_le _)
  rw [fill3_0, lt_ur_self] at k0
  refine g_iconst (pc2 := 1) dX0_workOut_0 k_iconst_0 rfl ?_
  refine g_is1 (pc2 := 2) dX0_workOut_1 (by decide) rfl ?_
  exact k0 _
