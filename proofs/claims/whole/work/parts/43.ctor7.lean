/-! new objects -/
theorem nf0 : ∀ j, j < 3 → ∀ ty, parseFieldDescriptor (TX0 j).2.2.1 = some ty → defaultValue ty = vp_V (lt_fs (fun a => a) (fun _ => 0) 0 [some .null, some .null, some .null]) j := by
  intro j hj ty hty
  rcases (show j = 0 ∨ j = 1 ∨ j = 2 by omega) with rfl | rfl | rfl <;> (cases hty; rfl)
theorem nn0 : ∀ (k : Nat) (v : Value), ([some .null, some .null, some .null] : List (Option Value))[k]? = some (some v) → v = .null := by
  intro k v hv
  rcases (show k = 0 ∨ k = 1 ∨ k = 2 ∨ 3 ≤ k by omega) with rfl | rfl | rfl | h4
  · cases hv; rfl
  · cases hv; rfl
  · cases hv; rfl
  · rw [List.getElem?_eq_none (by simpa using h4)] at hv; cases hv
theorem nf1 : ∀ j, j < 3 → ∀ ty, parseFieldDescriptor (TX1 j).2.2.1 = some ty → defaultValue ty = vp_V (lt_fs (fun a => a) (fun _ => 0) 0 [some .null, none, none]) j := by
  intro j hj ty hty
  rcases (show j = 0 ∨ j = 1 ∨ j = 2 by omega) with rfl | rfl | rfl <;> (cases hty; rfl)
theorem nn1 : ∀ (k : Nat) (v : Value), ([some .null, none, none] : List (Option Value))[k]? = some (some v) → v = .null := by
  intro k v hv
  rcases (show k = 0 ∨ k = 1 ∨ k = 2 ∨ 3 ≤ k by omega) with rfl | rfl | rfl | h4
  · cases hv; rfl
  · cases hv
  · cases hv
  · rw [List.getElem?_eq_none (by simpa using h4)] at hv; cases hv
theorem nf2 : ∀ j, j < 4 → ∀ ty, parseFieldDescriptor (TX2 j).2.2.1 = some ty → defaultValue ty = vp_V (lt_fs (fun a => a) (fun _ => 0) 0 [some .null, some .null, some .null, some .null]) j := by
  intro j hj ty hty
  rcases (show j = 0 ∨ j = 1 ∨ j = 2 ∨ j = 3 by omega) with rfl | rfl | rfl | rfl <;> (cases hty; rfl)
theorem nn2 : ∀ (k : Nat) (v : Value), ([some .null, some .null, some .null, some .null] : List (Option Value))[k]? = some (some v) → v = .null := by
  intro k v hv
  rcases (show k = 0 ∨ k = 1 ∨ k = 2 ∨ k = 3 ∨ 4 ≤ k by omega) with rfl | rfl | rfl | rfl | h4
  · cases hv; rfl
  · cases hv; rfl
  · cases hv; rfl
  · cases hv; rfl
  · rw [List.getElem?_eq_none (by simpa using h4)] at hv; cases hv
theorem nf3 : ∀ j, j < 5 → ∀ ty, parseFieldDescriptor (TX3 j).2.2.1 = some ty → defaultValue ty = vp_V (lt_fs (fun a => a) (fun _ => 0) 0 [some .null, some .null, some .null, some .null, none]) j := by
  intro j hj ty hty
  rcases (show j = 0 ∨ j = 1 ∨ j = 2 ∨ j = 3 ∨ j = 4 by omega) with rfl | rfl | rfl | rfl | rfl <;> (cases hty; rfl)
theorem nn3 : ∀ (k : Nat) (v : Value), ([some .null, some .null, some .null, some .null, none] : List (Option Value))[k]? = some (some v) → v = .null := by
  intro k v hv
  rcases (show k = 0 ∨ k = 1 ∨ k = 2 ∨ k = 3 ∨ k = 4 ∨ 5 ≤ k by omega) with rfl | rfl | rfl | rfl | rfl | h4
  · cases hv; rfl
  · cases hv; rfl
  · cases hv; rfl
  · cases hv; rfl
  · cases hv
  · rw [List.getElem?_eq_none (by simpa using h4)] at hv; cases hv
theorem nf4 : ∀ j, j < 8 → ∀ ty, parseFieldDescriptor (TX4 j).2.2.1 = some ty → defaultValue ty = vp_V (lt_fs (fun a => a) (fun _ => 0) 0 [some .null, some .null, some .null, some .null, some .null, some .null, some .null, none]) j := by
  intro j hj ty hty
  rcases (show j = 0 ∨ j = 1 ∨ j = 2 ∨ j = 3 ∨ j = 4 ∨ j = 5 ∨ j = 6 ∨ j = 7 by omega) with rfl | rfl | rfl | rfl | rfl | rfl | rfl | rfl <;> (cases hty; rfl)
theorem nn4 : ∀ (k : Nat) (v : Value), ([some .null, some .null, some .null, some .null, some .null, some .null, some .null, none] : List (Option Value))[k]? = some (some v) → v = .null := by
  intro k v hv
  rcases (show k = 0 ∨ k = 1 ∨ k = 2 ∨ k = 3 ∨ k = 4 ∨ k = 5 ∨ k = 6 ∨ k = 7 ∨ 8 ≤ k by omega) with rfl | rfl | rfl | rfl | rfl | rfl | rfl | rfl | h4
  · cases hv; rfl
  · cases hv; rfl
  · cases hv; rfl
  · cases hv; rfl
  · cases hv; rfl
  · cases hv; rfl
  · cases hv; rfl
  · cases hv
  · rw [List.getElem?_eq_none (by simpa using h4)] at hv; cases hv
theorem nf5 : ∀ j, j < 2 → ∀ ty, parseFieldDescriptor (TX5 j).2.2.1 = some ty → defaultValue ty = vp_V (lt_fs (fun a => a) (fun _ => 0) 0 [some .null, none]) j := by
  intro j hj ty hty
  rcases (show j = 0 ∨ j = 1 by omega) with rfl | rfl <;> (cases hty; rfl)
theorem nn5 : ∀ (k : Nat) (v : Value), ([some .null, none] : List (Option Value))[k]? = some (some v) → v = .null := by
  intro k v hv
  rcases (show k = 0 ∨ k = 1 ∨ 2 ≤ k by omega) with rfl | rfl | h4
  · cases hv; rfl
  · cases hv
  · rw [List.getElem?_eq_none (by simpa using h4)] at hv; cases hv
theorem nf6 : ∀ j, j < 8 → ∀ ty, parseFieldDescriptor (TX6 j).2.2.1 = some ty → defaultValue ty = vp_V (lt_fs (fun a => a) (fun _ => 0) 0 [none, none, none, none, some .null, some .null, some .null, some .null]) j := by
  intro j hj ty hty
  rcases (show j = 0 ∨ j = 1 ∨ j = 2 ∨ j = 3 ∨ j = 4 ∨ j = 5 ∨ j = 6 ∨ j = 7 by omega) with rfl | rfl | rfl | rfl | rfl | rfl | rfl | rfl <;> (cases hty; rfl)
theorem nn6 : ∀ (k : Nat) (v : Value), ([none, none, none, none, some .null, some .null, some .null, some .null] : List (Option Value))[k]? = some (some v) → v = .null := by
  intro k v hv
  rcases (show k = 0 ∨ k = 1 ∨ k = 2 ∨ k = 3 ∨ k = 4 ∨ k = 5 ∨ k = 6 ∨ k = 7 ∨ 8 ≤ k by omega) with rfl | rfl | rfl | rfl | rfl | rfl | rfl | rfl | h4
  · cases hv
  · cases hv
  · cases hv
  · cases hv
  · cases hv; rfl
  · cases hv; rfl
  · cases hv; rfl
  · cases hv; rfl
  · rw [List.getElem?_eq_none (by simpa using h4)] at hv; cases hv
theorem nf7 : ∀ j, j < 8 → ∀ ty, parseFieldDescriptor (TX7 j).2.2.1 = some ty → defaultValue ty = vp_V (lt_fs (fun a => a) (fun _ => 0) 0 [some .null, some .null, some .null, some .null, some .null, some .null, some .null, some .null]) j := by
  intro j hj ty hty
  rcases (show j = 0 ∨ j = 1 ∨ j = 2 ∨ j = 3 ∨ j = 4 ∨ j = 5 ∨ j = 6 ∨ j = 7 by omega) with rfl | rfl | rfl | rfl | rfl | rfl | rfl | rfl <;> (cases hty; rfl)
theorem nn7 : ∀ (k : Nat) (v : Value), ([some .null, some .null, some .null, some .null, some .null, some .null, some .null, some .null] : List (Option Value))[k]? = some (some v) → v = .null := by
  intro k v hv
  rcases (show k = 0 ∨ k = 1 ∨ k = 2 ∨ k = 3 ∨ k = 4 ∨ k = 5 ∨ k = 6 ∨ k = 7 ∨ 8 ≤ k by omega) with rfl | rfl | rfl | rfl | rfl | rfl | rfl | rfl | h4
  · cases hv; rfl
  · cases hv; rfl
  · cases hv; rfl
  · cases hv; rfl
  · cases hv; rfl
  · cases hv; rfl
  · cases hv; rfl
  · cases hv; rfl
  · rw [List.getElem?_eq_none (by simpa using h4)] at hv; cases hv
theorem nf8 : ∀ j, j < 15 → ∀ ty, parseFieldDescriptor (TX8 j).2.2.1 = some ty → defaultValue ty = vp_V (lt_fs (fun a => a) (fun _ => 0) 0 [some .null, some .null, some .null, none, some .null, none, none, some .null, none, some .null, some .null, some .null, some .null, none, none]) j := by
  intro j hj ty hty
  rcases (show j = 0 ∨ j = 1 ∨ j = 2 ∨ j = 3 ∨ j = 4 ∨ j = 5 ∨ j = 6 ∨ j = 7 ∨ j = 8 ∨ j = 9 ∨ j = 10 ∨ j = 11 ∨ j = 12 ∨ j = 13 ∨ j = 14 by omega) with rfl | rfl | rfl | rfl | rfl | rfl | rfl | rfl | rfl | rfl | rfl | rfl | rfl | rfl | rfl <;> (cases hty; rfl)
theorem nn8 : ∀ (k : Nat) (v : Value), ([some .null, some .null, some .null, none, some .null, none, none, some .null, none, some .null, some .null, some .null, some .null, none, none] : List (Option Value))[k]? = some (some v) → v = .null := by
  intro k v hv
  rcases (show k = 0 ∨ k = 1 ∨ k = 2 ∨ k = 3 ∨ k = 4 ∨ k = 5 ∨ k = 6 ∨ k = 7 ∨ k = 8 ∨ k = 9 ∨ k = 10 ∨ k = 11 ∨ k = 12 ∨ k = 13 ∨ k = 14 ∨ 15 ≤ k by omega) with rfl | rfl | rfl | rfl | rfl | rfl | rfl | rfl | rfl | rfl | rfl | rfl | rfl | rfl | rfl | h4
  · cases hv; rfl
  · cases hv; rfl
  · cases hv; rfl
  · cases hv
  · cases hv; rfl
  · cases hv
  · cases hv
  · cases hv; rfl
  · cases hv
  · cases hv; rfl
  · cases hv; rfl
  · cases hv; rfl
  · cases hv; rfl
  · cases hv
  · cases hv
  · rw [List.getElem?_eq_none (by simpa using h4)] at hv; cases hv
/-! the class's constructor -/
def r00 : Nat → Int32 := pat (begRow (fun _ => 0)) (fun _ => 0)
theorem r00_beg : Beg r00 := (begRow_beg _).pat _
def s7_0 : lt_H := [.inr (.inr (7, [some .null, some .null, some .null, some .null, some .null, some .null, some .null, some .null]))]
def s7_1 : lt_H := [.inr (.inr (7, [some .null, some .null, some .null, some .null, some .null, some .null, some .null, some .null])), .inr (.inr (5, [some .null, none]))]
def s7_2 : lt_H := [.inr (.inr (7, [some .null, some .null, some .null, some .null, some .null, some .null, some .null, some .null]))]
def s7_3 : lt_H := [.inr (.inr (7, [some .null, some .null, some .null, some .null, some .null, some .null, some .null, some .null])), .inr (.inr (5, [some (.ref 12), none])), .inl (1, 200)]
def s7_4 : lt_H := [.inr (.inr (7, [some (.ref 11), some .null, some .null, some .null, some .null, some .null, some .null, some .null])), .inr (.inr (5, [some (.ref 12), none])), .inl (1, 200)]
def s7_5 : lt_H := [.inr (.inr (7, [some (.ref 11), some .null, some .null, some .null, some .null, some .null, some .null, some .null])), .inr (.inr (5, [some (.ref 12), none])), .inl (1, 200), .inr (.inr (6, [none, none, none, none, some .null, some .null, some .null, some .null]))]
def s7_6 : lt_H := [.inr (.inr (7, [some (.ref 11), some .null, some .null, some .null, some .null, some .null, some .null, some .null])), .inr (.inr (5, [some (.ref 12), none])), .inl (1, 200)]
def s7_7 : lt_H := [.inr (.inr (7, [some (.ref 11), some .null, some .null, some .null, some .null, some .null, some .null, some .null])), .inr (.inr (5, [some (.ref 12), none])), .inl (1, 200), .inr (.inr (6, [none, none, none, none, some (.ref 14), some (.ref 15), some (.ref 16), some (.ref 17)])), .inl (0, 12), .inl (0, 7), .inl (0, 7), .inl (0, 7)]
def s7_8 : lt_H := [.inr (.inr (7, [some (.ref 11), some (.ref 13), some .null, some .null, some .null, some .null, some .null, some .null])), .inr (.inr (5, [some (.ref 12), none])), .inl (1, 200), .inr (.inr (6, [none, none, none, none, some (.ref 14), some (.ref 15), some (.ref 16), some (.ref 17)])), .inl (0, 12), .inl (0, 7), .inl (0, 7), .inl (0, 7)]
def s7_9 : lt_H := [.inr (.inr (7, [some (.ref 11), some (.ref 13), some .null, some .null, some .null, some .null, some .null, some .null])), .inr (.inr (5, [some (.ref 12), none])), .inl (1, 200), .inr (.inr (6, [none, none, none, none, some (.ref 14), some (.ref 15), some (.ref 16), some (.ref 17)])), .inl (0, 12), .inl (0, 7), .inl (0, 7), .inl (0, 7), .inr (.inr (2, [some .null, some .null, some .null, some .null]))]
def s7_10 : lt_H := [.inr (.inr (7, [some (.ref 11), some (.ref 13), some .null, some .null, some .null, some .null, some .null, some .null])), .inr (.inr (5, [some (.ref 12), none])), .inl (1, 200), .inr (.inr (6, [none, none, none, none, some (.ref 14), some (.ref 15), some (.ref 16), some (.ref 17)])), .inl (0, 12), .inl (0, 7), .inl (0, 7), .inl (0, 7)]
def s7_11 : lt_H := [.inr (.inr (7, [some (.ref 11), some (.ref 13), some .null, some .null, some .null, some .null, some .null, some .null])), .inr (.inr (5, [some (.ref 12), none])), .inl (1, 200), .inr (.inr (6, [none, none, none, none, some (.ref 14), some (.ref 15), some (.ref 16), some (.ref 17)])), .inl (0, 12), .inl (0, 7), .inl (0, 7), .inl (0, 7), .inr (.inr (2, [some (.ref 19), some (.ref 20), some (.ref 21), some (.ref 22)])), .inl (0, 7), .inl (0, 7), .inl (0, 7), .inl (0, 7)]
def s7_12 : lt_H := [.inr (.inr (7, [some (.ref 11), some (.ref 13), some (.ref 18), some .null, some .null, some .null, some .null, some .null])), .inr (.inr (5, [some (.ref 12), none])), .inl (1, 200), .inr (.inr (6, [none, none, none, none, some (.ref 14), some (.ref 15), some (.ref 16), some (.ref 17)])), .inl (0, 12), .inl (0, 7), .inl (0, 7), .inl (0, 7), .inr (.inr (2, [some (.ref 19), some (.ref 20), some (.ref 21), some (.ref 22)])), .inl (0, 7), .inl (0, 7), .inl (0, 7), .inl (0, 7)]
def s7_13 : lt_H := [.inr (.inr (7, [some (.ref 11), some (.ref 13), some (.ref 18), some .null, some .null, some .null, some .null, some .null])), .inr (.inr (5, [some (.ref 12), none])), .inl (1, 200), .inr (.inr (6, [none, none, none, none, some (.ref 14), some (.ref 15), some (.ref 16), some (.ref 17)])), .inl (0, 12), .inl (0, 7), .inl (0, 7), .inl (0, 7), .inr (.inr (2, [some (.ref 19), some (.ref 20), some (.ref 21), some (.ref 22)])), .inl (0, 7), .inl (0, 7), .inl (0, 7), .inl (0, 7), .inr (.inr (3, [some .null, some .null, some .null, some .null, none]))]
def s7_14 : lt_H := [.inr (.inr (7, [some (.ref 11), some (.ref 13), some (.ref 18), some .null, some .null, some .null, some .null, some .null])), .inr (.inr (5, [some (.ref 12), none])), .inl (1, 200), .inr (.inr (6, [none, none, none, none, some (.ref 14), some (.ref 15), some (.ref 16), some (.ref 17)])), .inl (0, 12), .inl (0, 7), .inl (0, 7), .inl (0, 7), .inr (.inr (2, [some (.ref 19), some (.ref 20), some (.ref 21), some (.ref 22)])), .inl (0, 7), .inl (0, 7), .inl (0, 7), .inl (0, 7)]
def s7_15 : lt_H := [.inr (.inr (7, [some (.ref 11), some (.ref 13), some (.ref 18), some .null, some .null, some .null, some .null, some .null])), .inr (.inr (5, [some (.ref 12), none])), .inl (1, 200), .inr (.inr (6, [none, none, none, none, some (.ref 14), some (.ref 15), some (.ref 16), some (.ref 17)])), .inl (0, 12), .inl (0, 7), .inl (0, 7), .inl (0, 7), .inr (.inr (2, [some (.ref 19), some (.ref 20), some (.ref 21), some (.ref 22)])), .inl (0, 7), .inl (0, 7), .inl (0, 7), .inl (0, 7), .inr (.inr (3, [some (.ref 11), some (.ref 13), some (.ref 18), some (.ref 24), none])), .inl (0, 6)]
def s7_16 : lt_H := [.inr (.inr (7, [some (.ref 11), some (.ref 13), some (.ref 18), some (.ref 23), some .null, some .null, some .null, some .null])), .inr (.inr (5, [some (.ref 12), none])), .inl (1, 200), .inr (.inr (6, [none, none, none, none, some (.ref 14), some (.ref 15), some (.ref 16), some (.ref 17)])), .inl (0, 12), .inl (0, 7), .inl (0, 7), .inl (0, 7), .inr (.inr (2, [some (.ref 19), some (.ref 20), some (.ref 21), some (.ref 22)])), .inl (0, 7), .inl (0, 7), .inl (0, 7), .inl (0, 7), .inr (.inr (3, [some (.ref 11), some (.ref 13), some (.ref 18), some (.ref 24), none])), .inl (0, 6)]
def s7_17 : lt_H := [.inr (.inr (7, [some (.ref 11), some (.ref 13), some (.ref 18), some (.ref 23), some .null, some .null, some .null, some .null])), .inr (.inr (5, [some (.ref 12), none])), .inl (1, 200), .inr (.inr (6, [none, none, none, none, some (.ref 14), some (.ref 15), some (.ref 16), some (.ref 17)])), .inl (0, 12), .inl (0, 7), .inl (0, 7), .inl (0, 7), .inr (.inr (2, [some (.ref 19), some (.ref 20), some (.ref 21), some (.ref 22)])), .inl (0, 7), .inl (0, 7), .inl (0, 7), .inl (0, 7), .inr (.inr (3, [some (.ref 11), some (.ref 13), some (.ref 18), some (.ref 24), none])), .inl (0, 6), .inr (.inr (3, [some .null, some .null, some .null, some .null, none]))]
def s7_18 : lt_H := [.inr (.inr (7, [some (.ref 11), some (.ref 13), some (.ref 18), some (.ref 23), some .null, some .null, some .null, some .null])), .inr (.inr (5, [some (.ref 12), none])), .inl (1, 200), .inr (.inr (6, [none, none, none, none, some (.ref 14), some (.ref 15), some (.ref 16), some (.ref 17)])), .inl (0, 12), .inl (0, 7), .inl (0, 7), .inl (0, 7), .inr (.inr (2, [some (.ref 19), some (.ref 20), some (.ref 21), some (.ref 22)])), .inl (0, 7), .inl (0, 7), .inl (0, 7), .inl (0, 7), .inr (.inr (3, [some (.ref 11), some (.ref 13), some (.ref 18), some (.ref 24), none])), .inl (0, 6), .inr (.inr (3, [some .null, some .null, some .null, some .null, none])), .inr (.inr (6, [none, none, none, none, some .null, some .null, some .null, some .null]))]
def s7_19 : lt_H := [.inr (.inr (7, [some (.ref 11), some (.ref 13), some (.ref 18), some (.ref 23), some .null, some .null, some .null, some .null])), .inr (.inr (5, [some (.ref 12), none])), .inl (1, 200), .inr (.inr (6, [none, none, none, none, some (.ref 14), some (.ref 15), some (.ref 16), some (.ref 17)])), .inl (0, 12), .inl (0, 7), .inl (0, 7), .inl (0, 7), .inr (.inr (2, [some (.ref 19), some (.ref 20), some (.ref 21), some (.ref 22)])), .inl (0, 7), .inl (0, 7), .inl (0, 7), .inl (0, 7), .inr (.inr (3, [some (.ref 11), some (.ref 13), some (.ref 18), some (.ref 24), none])), .inl (0, 6), .inr (.inr (3, [some .null, some .null, some .null, some .null, none]))]
def s7_20 : lt_H := [.inr (.inr (7, [some (.ref 11), some (.ref 13), some (.ref 18), some (.ref 23), some .null, some .null, some .null, some .null])), .inr (.inr (5, [some (.ref 12), none])), .inl (1, 200), .inr (.inr (6, [none, none, none, none, some (.ref 14), some (.ref 15), some (.ref 16), some (.ref 17)])), .inl (0, 12), .inl (0, 7), .inl (0, 7), .inl (0, 7), .inr (.inr (2, [some (.ref 19), some (.ref 20), some (.ref 21), some (.ref 22)])), .inl (0, 7), .inl (0, 7), .inl (0, 7), .inl (0, 7), .inr (.inr (3, [some (.ref 11), some (.ref 13), some (.ref 18), some (.ref 24), none])), .inl (0, 6), .inr (.inr (3, [some .null, some .null, some .null, some .null, none])), .inr (.inr (6, [none, none, none, none, some (.ref 27), some (.ref 28), some (.ref 29), some (.ref 30)])), .inl (0, 12), .inl (0, 7), .inl (0, 7), .inl (0, 7)]
def s7_21 : lt_H := [.inr (.inr (7, [some (.ref 11), some (.ref 13), some (.ref 18), some (.ref 23), some .null, some .null, some .null, some .null])), .inr (.inr (5, [some (.ref 12), none])), .inl (1, 200), .inr (.inr (6, [none, none, none, none, some (.ref 14), some (.ref 15), some (.ref 16), some (.ref 17)])), .inl (0, 12), .inl (0, 7), .inl (0, 7), .inl (0, 7), .inr (.inr (2, [some (.ref 19), some (.ref 20), some (.ref 21), some (.ref 22)])), .inl (0, 7), .inl (0, 7), .inl (0, 7), .inl (0, 7), .inr (.inr (3, [some (.ref 11), some (.ref 13), some (.ref 18), some (.ref 24), none])), .inl (0, 6), .inr (.inr (3, [some .null, some .null, some .null, some .null, none])), .inr (.inr (6, [none, none, none, none, some (.ref 27), some (.ref 28), some (.ref 29), some (.ref 30)])), .inl (0, 12), .inl (0, 7), .inl (0, 7), .inl (0, 7), .inr (.inr (2, [some .null, some .null, some .null, some .null]))]
def s7_22 : lt_H := [.inr (.inr (7, [some (.ref 11), some (.ref 13), some (.ref 18), some (.ref 23), some .null, some .null, some .null, some .null])), .inr (.inr (5, [some (.ref 12), none])), .inl (1, 200), .inr (.inr (6, [none, none, none, none, some (.ref 14), some (.ref 15), some (.ref 16), some (.ref 17)])), .inl (0, 12), .inl (0, 7), .inl (0, 7), .inl (0, 7), .inr (.inr (2, [some (.ref 19), some (.ref 20), some (.ref 21), some (.ref 22)])), .inl (0, 7), .inl (0, 7), .inl (0, 7), .inl (0, 7), .inr (.inr (3, [some (.ref 11), some (.ref 13), some (.ref 18), some (.ref 24), none])), .inl (0, 6), .inr (.inr (3, [some .null, some .null, some .null, some .null, none])), .inr (.inr (6, [none, none, none, none, some (.ref 27), some (.ref 28), some (.ref 29), some (.ref 30)])), .inl (0, 12), .inl (0, 7), .inl (0, 7), .inl (0, 7)]
def s7_23 : lt_H := [.inr (.inr (7, [some (.ref 11), some (.ref 13), some (.ref 18), some (.ref 23), some .null, some .null, some .null, some .null])), .inr (.inr (5, [some (.ref 12), none])), .inl (1, 200), .inr (.inr (6, [none, none, none, none, some (.ref 14), some (.ref 15), some (.ref 16), some (.ref 17)])), .inl (0, 12), .inl (0, 7), .inl (0, 7), .inl (0, 7), .inr (.inr (2, [some (.ref 19), some (.ref 20), some (.ref 21), some (.ref 22)])), .inl (0, 7), .inl (0, 7), .inl (0, 7), .inl (0, 7), .inr (.inr (3, [some (.ref 11), some (.ref 13), some (.ref 18), some (.ref 24), none])), .inl (0, 6), .inr (.inr (3, [some .null, some .null, some .null, some .null, none])), .inr (.inr (6, [none, none, none, none, some (.ref 27), some (.ref 28), some (.ref 29), some (.ref 30)])), .inl (0, 12), .inl (0, 7), .inl (0, 7), .inl (0, 7), .inr (.inr (2, [some (.ref 32), some (.ref 33), some (.ref 34), some (.ref 35)])), .inl (0, 7), .inl (0, 7), .inl (0, 7), .inl (0, 7)]
def s7_24 : lt_H := [.inr (.inr (7, [some (.ref 11), some (.ref 13), some (.ref 18), some (.ref 23), some .null, some .null, some .null, some .null])), .inr (.inr (5, [some (.ref 12), none])), .inl (1, 200), .inr (.inr (6, [none, none, none, none, some (.ref 14), some (.ref 15), some (.ref 16), some (.ref 17)])), .inl (0, 12), .inl (0, 7), .inl (0, 7), .inl (0, 7), .inr (.inr (2, [some (.ref 19), some (.ref 20), some (.ref 21), some (.ref 22)])), .inl (0, 7), .inl (0, 7), .inl (0, 7), .inl (0, 7), .inr (.inr (3, [some (.ref 11), some (.ref 13), some (.ref 18), some (.ref 24), none])), .inl (0, 6)]
def s7_25 : lt_H := [.inr (.inr (7, [some (.ref 11), some (.ref 13), some (.ref 18), some (.ref 23), some .null, some .null, some .null, some .null])), .inr (.inr (5, [some (.ref 12), none])), .inl (1, 200), .inr (.inr (6, [none, none, none, none, some (.ref 14), some (.ref 15), some (.ref 16), some (.ref 17)])), .inl (0, 12), .inl (0, 7), .inl (0, 7), .inl (0, 7), .inr (.inr (2, [some (.ref 19), some (.ref 20), some (.ref 21), some (.ref 22)])), .inl (0, 7), .inl (0, 7), .inl (0, 7), .inl (0, 7), .inr (.inr (3, [some (.ref 11), some (.ref 13), some (.ref 18), some (.ref 24), none])), .inl (0, 6), .inr (.inr (3, [some (.ref 11), some (.ref 26), some (.ref 31), some (.ref 36), none])), .inr (.inr (6, [none, none, none, none, some (.ref 27), some (.ref 28), some (.ref 29), some (.ref 30)])), .inl (0, 12), .inl (0, 7), .inl (0, 7), .inl (0, 7), .inr (.inr (2, [some (.ref 32), some (.ref 33), some (.ref 34), some (.ref 35)])), .inl (0, 7), .inl (0, 7), .inl (0, 7), .inl (0, 7), .inl (0, 6)]
def s7_26 : lt_H := [.inr (.inr (7, [some (.ref 11), some (.ref 13), some (.ref 18), some (.ref 23), some (.ref 25), some .null, some .null, some .null])), .inr (.inr (5, [some (.ref 12), none])), .inl (1, 200), .inr (.inr (6, [none, none, none, none, some (.ref 14), some (.ref 15), some (.ref 16), some (.ref 17)])), .inl (0, 12), .inl (0, 7), .inl (0, 7), .inl (0, 7), .inr (.inr (2, [some (.ref 19), some (.ref 20), some (.ref 21), some (.ref 22)])), .inl (0, 7), .inl (0, 7), .inl (0, 7), .inl (0, 7), .inr (.inr (3, [some (.ref 11), some (.ref 13), some (.ref 18), some (.ref 24), none])), .inl (0, 6), .inr (.inr (3, [some (.ref 11), some (.ref 26), some (.ref 31), some (.ref 36), none])), .inr (.inr (6, [none, none, none, none, some (.ref 27), some (.ref 28), some (.ref 29), some (.ref 30)])), .inl (0, 12), .inl (0, 7), .inl (0, 7), .inl (0, 7), .inr (.inr (2, [some (.ref 32), some (.ref 33), some (.ref 34), some (.ref 35)])), .inl (0, 7), .inl (0, 7), .inl (0, 7), .inl (0, 7), .inl (0, 6)]
def s7_27 : lt_H := [.inr (.inr (7, [some (.ref 11), some (.ref 13), some (.ref 18), some (.ref 23), some (.ref 25), some .null, some .null, some .null])), .inr (.inr (5, [some (.ref 12), none])), .inl (1, 200), .inr (.inr (6, [none, none, none, none, some (.ref 14), some (.ref 15), some (.ref 16), some (.ref 17)])), .inl (0, 12), .inl (0, 7), .inl (0, 7), .inl (0, 7), .inr (.inr (2, [some (.ref 19), some (.ref 20), some (.ref 21), some (.ref 22)])), .inl (0, 7), .inl (0, 7), .inl (0, 7), .inl (0, 7), .inr (.inr (3, [some (.ref 11), some (.ref 13), some (.ref 18), some (.ref 24), none])), .inl (0, 6), .inr (.inr (3, [some (.ref 11), some (.ref 26), some (.ref 31), some (.ref 36), none])), .inr (.inr (6, [none, none, none, none, some (.ref 27), some (.ref 28), some (.ref 29), some (.ref 30)])), .inl (0, 12), .inl (0, 7), .inl (0, 7), .inl (0, 7), .inr (.inr (2, [some (.ref 32), some (.ref 33), some (.ref 34), some (.ref 35)])), .inl (0, 7), .inl (0, 7), .inl (0, 7), .inl (0, 7), .inl (0, 6), .inr (.inr (0, [some .null, some .null, some .null]))]
def s7_28 : lt_H := [.inr (.inr (7, [some (.ref 11), some (.ref 13), some (.ref 18), some (.ref 23), some (.ref 25), some .null, some .null, some .null])), .inr (.inr (5, [some (.ref 12), none])), .inl (1, 200), .inr (.inr (6, [none, none, none, none, some (.ref 14), some (.ref 15), some (.ref 16), some (.ref 17)])), .inl (0, 12), .inl (0, 7), .inl (0, 7), .inl (0, 7), .inr (.inr (2, [some (.ref 19), some (.ref 20), some (.ref 21), some (.ref 22)])), .inl (0, 7), .inl (0, 7), .inl (0, 7), .inl (0, 7), .inr (.inr (3, [some (.ref 11), some (.ref 13), some (.ref 18), some (.ref 24), none])), .inl (0, 6), .inr (.inr (3, [some (.ref 11), some (.ref 26), some (.ref 31), some (.ref 36), none])), .inr (.inr (6, [none, none, none, none, some (.ref 27), some (.ref 28), some (.ref 29), some (.ref 30)])), .inl (0, 12), .inl (0, 7), .inl (0, 7), .inl (0, 7), .inr (.inr (2, [some (.ref 32), some (.ref 33), some (.ref 34), some (.ref 35)])), .inl (0, 7), .inl (0, 7), .inl (0, 7), .inl (0, 7), .inl (0, 6)]
def s7_29 : lt_H := [.inr (.inr (7, [some (.ref 11), some (.ref 13), some (.ref 18), some (.ref 23), some (.ref 25), some .null, some .null, some .null])), .inr (.inr (5, [some (.ref 12), none])), .inl (1, 200), .inr (.inr (6, [none, none, none, none, some (.ref 14), some (.ref 15), some (.ref 16), some (.ref 17)])), .inl (0, 12), .inl (0, 7), .inl (0, 7), .inl (0, 7), .inr (.inr (2, [some (.ref 19), some (.ref 20), some (.ref 21), some (.ref 22)])), .inl (0, 7), .inl (0, 7), .inl (0, 7), .inl (0, 7), .inr (.inr (3, [some (.ref 11), some (.ref 13), some (.ref 18), some (.ref 24), none])), .inl (0, 6), .inr (.inr (3, [some (.ref 11), some (.ref 26), some (.ref 31), some (.ref 36), none])), .inr (.inr (6, [none, none, none, none, some (.ref 27), some (.ref 28), some (.ref 29), some (.ref 30)])), .inl (0, 12), .inl (0, 7), .inl (0, 7), .inl (0, 7), .inr (.inr (2, [some (.ref 32), some (.ref 33), some (.ref 34), some (.ref 35)])), .inl (0, 7), .inl (0, 7), .inl (0, 7), .inl (0, 7), .inl (0, 6), .inr (.inr (0, [some (.ref 13), some (.ref 18), some (.ref 38)])), .inl (0, 28)]
def s7_30 : lt_H := [.inr (.inr (7, [some (.ref 11), some (.ref 13), some (.ref 18), some (.ref 23), some (.ref 25), some (.ref 37), some .null, some .null])), .inr (.inr (5, [some (.ref 12), none])), .inl (1, 200), .inr (.inr (6, [none, none, none, none, some (.ref 14), some (.ref 15), some (.ref 16), some (.ref 17)])), .inl (0, 12), .inl (0, 7), .inl (0, 7), .inl (0, 7), .inr (.inr (2, [some (.ref 19), some (.ref 20), some (.ref 21), some (.ref 22)])), .inl (0, 7), .inl (0, 7), .inl (0, 7), .inl (0, 7), .inr (.inr (3, [some (.ref 11), some (.ref 13), some (.ref 18), some (.ref 24), none])), .inl (0, 6), .inr (.inr (3, [some (.ref 11), some (.ref 26), some (.ref 31), some (.ref 36), none])), .inr (.inr (6, [none, none, none, none, some (.ref 27), some (.ref 28), some (.ref 29), some (.ref 30)])), .inl (0, 12), .inl (0, 7), .inl (0, 7), .inl (0, 7), .inr (.inr (2, [some (.ref 32), some (.ref 33), some (.ref 34), some (.ref 35)])), .inl (0, 7), .inl (0, 7), .inl (0, 7), .inl (0, 7), .inl (0, 6), .inr (.inr (0, [some (.ref 13), some (.ref 18), some (.ref 38)])), .inl (0, 28)]
def s7_31 : lt_H := [.inr (.inr (7, [some (.ref 11), some (.ref 13), some (.ref 18), some (.ref 23), some (.ref 25), some (.ref 37), some .null, some .null])), .inr (.inr (5, [some (.ref 12), none])), .inl (1, 200), .inr (.inr (6, [none, none, none, none, some (.ref 14), some (.ref 15), some (.ref 16), some (.ref 17)])), .inl (0, 12), .inl (0, 7), .inl (0, 7), .inl (0, 7), .inr (.inr (2, [some (.ref 19), some (.ref 20), some (.ref 21), some (.ref 22)])), .inl (0, 7), .inl (0, 7), .inl (0, 7), .inl (0, 7), .inr (.inr (3, [some (.ref 11), some (.ref 13), some (.ref 18), some (.ref 24), none])), .inl (0, 6), .inr (.inr (3, [some (.ref 11), some (.ref 26), some (.ref 31), some (.ref 36), none])), .inr (.inr (6, [none, none, none, none, some (.ref 27), some (.ref 28), some (.ref 29), some (.ref 30)])), .inl (0, 12), .inl (0, 7), .inl (0, 7), .inl (0, 7), .inr (.inr (2, [some (.ref 32), some (.ref 33), some (.ref 34), some (.ref 35)])), .inl (0, 7), .inl (0, 7), .inl (0, 7), .inl (0, 7), .inl (0, 6), .inr (.inr (0, [some (.ref 13), some (.ref 18), some (.ref 38)])), .inl (0, 28), .inr (.inr (4, [some .null, some .null, some .null, some .null, some .null, some .null, some .null, none]))]
def s7_32 : lt_H := [.inr (.inr (7, [some (.ref 11), some (.ref 13), some (.ref 18), some (.ref 23), some (.ref 25), some (.ref 37), some .null, some .null])), .inr (.inr (5, [some (.ref 12), none])), .inl (1, 200), .inr (.inr (6, [none, none, none, none, some (.ref 14), some (.ref 15), some (.ref 16), some (.ref 17)])), .inl (0, 12), .inl (0, 7), .inl (0, 7), .inl (0, 7), .inr (.inr (2, [some (.ref 19), some (.ref 20), some (.ref 21), some (.ref 22)])), .inl (0, 7), .inl (0, 7), .inl (0, 7), .inl (0, 7), .inr (.inr (3, [some (.ref 11), some (.ref 13), some (.ref 18), some (.ref 24), none])), .inl (0, 6), .inr (.inr (3, [some (.ref 11), some (.ref 26), some (.ref 31), some (.ref 36), none])), .inr (.inr (6, [none, none, none, none, some (.ref 27), some (.ref 28), some (.ref 29), some (.ref 30)])), .inl (0, 12), .inl (0, 7), .inl (0, 7), .inl (0, 7), .inr (.inr (2, [some (.ref 32), some (.ref 33), some (.ref 34), some (.ref 35)])), .inl (0, 7), .inl (0, 7), .inl (0, 7), .inl (0, 7), .inl (0, 6), .inr (.inr (0, [some (.ref 13), some (.ref 18), some (.ref 38)])), .inl (0, 28)]
def s7_33 : lt_H := [.inr (.inr (7, [some (.ref 11), some (.ref 13), some (.ref 18), some (.ref 23), some (.ref 25), some (.ref 37), some .null, some .null])), .inr (.inr (5, [some (.ref 12), none])), .inl (1, 200), .inr (.inr (6, [none, none, none, none, some (.ref 14), some (.ref 15), some (.ref 16), some (.ref 17)])), .inl (0, 12), .inl (0, 7), .inl (0, 7), .inl (0, 7), .inr (.inr (2, [some (.ref 19), some (.ref 20), some (.ref 21), some (.ref 22)])), .inl (0, 7), .inl (0, 7), .inl (0, 7), .inl (0, 7), .inr (.inr (3, [some (.ref 11), some (.ref 13), some (.ref 18), some (.ref 24), none])), .inl (0, 6), .inr (.inr (3, [some (.ref 11), some (.ref 26), some (.ref 31), some (.ref 36), none])), .inr (.inr (6, [none, none, none, none, some (.ref 27), some (.ref 28), some (.ref 29), some (.ref 30)])), .inl (0, 12), .inl (0, 7), .inl (0, 7), .inl (0, 7), .inr (.inr (2, [some (.ref 32), some (.ref 33), some (.ref 34), some (.ref 35)])), .inl (0, 7), .inl (0, 7), .inl (0, 7), .inl (0, 7), .inl (0, 6), .inr (.inr (0, [some (.ref 13), some (.ref 18), some (.ref 38)])), .inl (0, 28), .inr (.inr (4, [some (.ref 13), some (.ref 18), some (.ref 37), some (.ref 40), some (.ref 41), some (.ref 42), some (.ref 43), none])), .inl (0, 35), .inl (0, 8), .inl (0, 7), .inl (0, 7)]
def s7_34 : lt_H := [.inr (.inr (7, [some (.ref 11), some (.ref 13), some (.ref 18), some (.ref 23), some (.ref 25), some (.ref 37), some (.ref 39), some .null])), .inr (.inr (5, [some (.ref 12), none])), .inl (1, 200), .inr (.inr (6, [none, none, none, none, some (.ref 14), some (.ref 15), some (.ref 16), some (.ref 17)])), .inl (0, 12), .inl (0, 7), .inl (0, 7), .inl (0, 7), .inr (.inr (2, [some (.ref 19), some (.ref 20), some (.ref 21), some (.ref 22)])), .inl (0, 7), .inl (0, 7), .inl (0, 7), .inl (0, 7), .inr (.inr (3, [some (.ref 11), some (.ref 13), some (.ref 18), some (.ref 24), none])), .inl (0, 6), .inr (.inr (3, [some (.ref 11), some (.ref 26), some (.ref 31), some (.ref 36), none])), .inr (.inr (6, [none, none, none, none, some (.ref 27), some (.ref 28), some (.ref 29), some (.ref 30)])), .inl (0, 12), .inl (0, 7), .inl (0, 7), .inl (0, 7), .inr (.inr (2, [some (.ref 32), some (.ref 33), some (.ref 34), some (.ref 35)])), .inl (0, 7), .inl (0, 7), .inl (0, 7), .inl (0, 7), .inl (0, 6), .inr (.inr (0, [some (.ref 13), some (.ref 18), some (.ref 38)])), .inl (0, 28), .inr (.inr (4, [some (.ref 13), some (.ref 18), some (.ref 37), some (.ref 40), some (.ref 41), some (.ref 42), some (.ref 43), none])), .inl (0, 35), .inl (0, 8), .inl (0, 7), .inl (0, 7)]
def s7_35 : lt_H := [.inr (.inr (7, [some (.ref 11), some (.ref 13), some (.ref 18), some (.ref 23), some (.ref 25), some (.ref 37), some (.ref 39), some .null])), .inr (.inr (5, [some (.ref 12), none])), .inl (1, 200), .inr (.inr (6, [none, none, none, none, some (.ref 14), some (.ref 15), some (.ref 16), some (.ref 17)])), .inl (0, 12), .inl (0, 7), .inl (0, 7), .inl (0, 7), .inr (.inr (2, [some (.ref 19), some (.ref 20), some (.ref 21), some (.ref 22)])), .inl (0, 7), .inl (0, 7), .inl (0, 7), .inl (0, 7), .inr (.inr (3, [some (.ref 11), some (.ref 13), some (.ref 18), some (.ref 24), none])), .inl (0, 6), .inr (.inr (3, [some (.ref 11), some (.ref 26), some (.ref 31), some (.ref 36), none])), .inr (.inr (6, [none, none, none, none, some (.ref 27), some (.ref 28), some (.ref 29), some (.ref 30)])), .inl (0, 12), .inl (0, 7), .inl (0, 7), .inl (0, 7), .inr (.inr (2, [some (.ref 32), some (.ref 33), some (.ref 34), some (.ref 35)])), .inl (0, 7), .inl (0, 7), .inl (0, 7), .inl (0, 7), .inl (0, 6), .inr (.inr (0, [some (.ref 13), some (.ref 18), some (.ref 38)])), .inl (0, 28), .inr (.inr (4, [some (.ref 13), some (.ref 18), some (.ref 37), some (.ref 40), some (.ref 41), some (.ref 42), some (.ref 43), none])), .inl (0, 35), .inl (0, 8), .inl (0, 7), .inl (0, 7), .inr (.inr (1, [some .null, none, none]))]
def s7_36 : lt_H := [.inr (.inr (7, [some (.ref 11), some (.ref 13), some (.ref 18), some (.ref 23), some (.ref 25), some (.ref 37), some (.ref 39), some .null])), .inr (.inr (5, [some (.ref 12), none])), .inl (1, 200), .inr (.inr (6, [none, none, none, none, some (.ref 14), some (.ref 15), some (.ref 16), some (.ref 17)])), .inl (0, 12), .inl (0, 7), .inl (0, 7), .inl (0, 7), .inr (.inr (2, [some (.ref 19), some (.ref 20), some (.ref 21), some (.ref 22)])), .inl (0, 7), .inl (0, 7), .inl (0, 7), .inl (0, 7), .inr (.inr (3, [some (.ref 11), some (.ref 13), some (.ref 18), some (.ref 24), none])), .inl (0, 6), .inr (.inr (3, [some (.ref 11), some (.ref 26), some (.ref 31), some (.ref 36), none])), .inr (.inr (6, [none, none, none, none, some (.ref 27), some (.ref 28), some (.ref 29), some (.ref 30)])), .inl (0, 12), .inl (0, 7), .inl (0, 7), .inl (0, 7), .inr (.inr (2, [some (.ref 32), some (.ref 33), some (.ref 34), some (.ref 35)])), .inl (0, 7), .inl (0, 7), .inl (0, 7), .inl (0, 7), .inl (0, 6), .inr (.inr (0, [some (.ref 13), some (.ref 18), some (.ref 38)])), .inl (0, 28), .inr (.inr (4, [some (.ref 13), some (.ref 18), some (.ref 37), some (.ref 40), some (.ref 41), some (.ref 42), some (.ref 43), none])), .inl (0, 35), .inl (0, 8), .inl (0, 7), .inl (0, 7)]
def s7_37 : lt_H := [.inr (.inr (7, [some (.ref 11), some (.ref 13), some (.ref 18), some (.ref 23), some (.ref 25), some (.ref 37), some (.ref 39), some .null])), .inr (.inr (5, [some (.ref 12), none])), .inl (1, 200), .inr (.inr (6, [none, none, none, none, some (.ref 14), some (.ref 15), some (.ref 16), some (.ref 17)])), .inl (0, 12), .inl (0, 7), .inl (0, 7), .inl (0, 7), .inr (.inr (2, [some (.ref 19), some (.ref 20), some (.ref 21), some (.ref 22)])), .inl (0, 7), .inl (0, 7), .inl (0, 7), .inl (0, 7), .inr (.inr (3, [some (.ref 11), some (.ref 13), some (.ref 18), some (.ref 24), none])), .inl (0, 6), .inr (.inr (3, [some (.ref 11), some (.ref 26), some (.ref 31), some (.ref 36), none])), .inr (.inr (6, [none, none, none, none, some (.ref 27), some (.ref 28), some (.ref 29), some (.ref 30)])), .inl (0, 12), .inl (0, 7), .inl (0, 7), .inl (0, 7), .inr (.inr (2, [some (.ref 32), some (.ref 33), some (.ref 34), some (.ref 35)])), .inl (0, 7), .inl (0, 7), .inl (0, 7), .inl (0, 7), .inl (0, 6), .inr (.inr (0, [some (.ref 13), some (.ref 18), some (.ref 38)])), .inl (0, 28), .inr (.inr (4, [some (.ref 13), some (.ref 18), some (.ref 37), some (.ref 40), some (.ref 41), some (.ref 42), some (.ref 43), none])), .inl (0, 35), .inl (0, 8), .inl (0, 7), .inl (0, 7), .inr (.inr (1, [some (.ref 45), none, none])), .inr (.inl [some 46, some 51, some 56, some 61, some 66, some 71]), .inr (.inr (2, [some (.ref 47), some (.ref 48), some (.ref 49), some (.ref 50)])), .inl (0, 7), .inl (0, 7), .inl (0, 7), .inl (0, 7), .inr (.inr (2, [some (.ref 52), some (.ref 53), some (.ref 54), some (.ref 55)])), .inl (0, 7), .inl (0, 7), .inl (0, 7), .inl (0, 7), .inr (.inr (2, [some (.ref 57), some (.ref 58), some (.ref 59), some (.ref 60)])), .inl (0, 7), .inl (0, 7), .inl (0, 7), .inl (0, 7), .inr (.inr (2, [some (.ref 62), some (.ref 63), some (.ref 64), some (.ref 65)])), .inl (0, 7), .inl (0, 7), .inl (0, 7), .inl (0, 7), .inr (.inr (2, [some (.ref 67), some (.ref 68), some (.ref 69), some (.ref 70)])), .inl (0, 7), .inl (0, 7), .inl (0, 7), .inl (0, 7), .inr (.inr (2, [some (.ref 72), some (.ref 73), some (.ref 74), some (.ref 75)])), .inl (0, 7), .inl (0, 7), .inl (0, 7), .inl (0, 7)]
theorem at_first : layOk (parseM (chN 0) 158 r00) = true := by decide +kernel
theorem write_ok : ∀ x ∈ byt.getD 0 [], inB (nI x) (nI 32) (nI 126) = true := by decide +kernel
def Q7 : lt_Q := fun r sh' σ' => r = none ∧ sh' = lt_SC ++ [] ∧ ∃ ln T N, CC σ' (parseM (chN 0) 158 r00).2 ln T N ∧ KP σ' 0 0 ∧ σ' 11 1 = nI 0
theorem R_i_c7 (l : lt_L) (d : Nat) (σ : lt_S) (f : σ 11 1 = nI 0) (h44 : σ 44 1 = nI 0) : lt_G l (d + 8) 65 667 mX7_init 65 667 (lt_SC ++ []) σ 142 [some (.ref 10), none] [] Q7 := by
  have key : ∀ k, k ≤ 158 → ∀ σ1 : lt_S, σ1 44 1 = nI 0 → σ1 11 1 = nI k → (∀ j, j < k → σ1 12 j = nI (chN 0 j)) → lt_G l (d + 8) 65 667 mX7_init 65 667 (lt_SC ++ []) σ1 144 [some (.ref 10), some (.int (nI k))] [] Q7 := by
    refine lt_dn 158 ?_ ?_
    · intro σ1 h1 h2 h3
      have hT : TC σ1 158 (chN 0) := ⟨h2, by decide, fun j hj => ⟨h3 j hj, (chN_0 j hj).2.1⟩⟩
      refine g_il1 (pc2 := 145) dX7_init_144 rfl ?_
      refine g_ldcS0 (pc2 := 147) rfl dX7_init_145 rfl ?_
      refine g_cXi (i := 0) (pc2 := 150) (by decide) (R_j_length l (d + 5) _ σ1) meJ0_length_8abf5 mlX7_69 rfl rfl rfl (by simp) ⟨Nat.le_refl _, Nat.le_refl _⟩ dX7_init_147 rfl ?_
      refine g_icmpN_ge 170 153 dX7_init_150 rfl rfl (by decide) (by decide) (fun _ => ?_) (fun h => absurd (Nat.le_refl _) h)
      refine g_al0 (pc2 := 171) dX7_init_170 rfl ?_
      refine g_callV (pc2 := 174) (R_c_lay l d [] σ1 hT r00_beg) meX7_lay mlX7_83 (by rfl) ⟨_, rfl, rfl⟩ rfl rfl (by simp) ⟨Nat.le_refl _, Nat.le_refl _⟩ dX7_init_171 rfl ?_
      rw [at_first]
      rintro r sh2 σ2 ⟨rfl, rfl, ln, T, N, σa, w1, w2, w3, rfl⟩
      have eN : tN ((parseM (chN 0) 158 r00).2 2) = N := w1.tr.2.1
      unfold CR23 at w3
      rw [eN] at w3
      have hcc := CC.work w1 w3.1 w3.2
      refine g_pop (pc2 := 175) dX7_init_174 rfl ?_
      refine g_al0 (pc2 := 176) dX7_init_175 rfl ?_
      refine g_cVi (pc2 := 179) (R_c_wipe l (d + 6) [] _) meX7_wipe mlX7_86 (by rfl) ⟨_, rfl, rfl⟩ rfl rfl (by simp) ⟨Nat.le_refl _, Nat.le_refl _⟩ dX7_init_176 rfl ?_
      refine g_pop (pc2 := 180) dX7_init_179 rfl ?_
      refine g_ret dX7_init_180 rfl (Nat.le_refl _) (Nat.le_refl _) ⟨rfl, rfl, ln, T, N, ?_, ⟨?_, by decide, ?_, by decide⟩, ?_⟩
      · exact hcc.cells (fun a ha => by rw [lt_up_nr _ _ _ (by omega), lt_up_nr _ _ _ (by omega)])
      · rw [lt_up_nr _ _ _ (by decide), lt_up_ne _ _ _ (by decide), S_work_ne _ _ _ _ (by decide), w2 44 (by decide)]
        exact h1
      · rw [lt_up_nr _ _ _ (by decide), lt_up_at]
      · rw [lt_up_at]
    · intro k hk ih σ1 h1 h2 h3
      have hch := chN_0 k hk
      have hin : inB (nI (chN 0 k)) (nI 32) (nI 126) = true := write_ok _ (getD_m (byt.getD 0 []) (j := k) hk).2
      have wr := R_c_write l (d + 5) [] σ1 h2 (by omega) (nI (chN 0 k))
      rw [hin, decide_eq_true (show k < 200 by omega), Bool.and_self, if_pos rfl, if_pos rfl] at wr
      refine g_il1 (pc2 := 145) dX7_init_144 rfl ?_
      refine g_ldcS0 (pc2 := 147) rfl dX7_init_145 rfl ?_
      refine g_cXi (i := 0) (pc2 := 150) (by decide) (R_j_length l (d + 5) _ σ1) meJ0_length_8abf5 mlX7_69 rfl rfl rfl (by simp) ⟨Nat.le_refl _, Nat.le_refl _⟩ dX7_init_147 rfl ?_
      refine g_icmpN_ge 170 153 dX7_init_150 rfl rfl (by omega) (by decide) (fun h => absurd hk (by omega)) (fun _ => ?_)
      refine g_al0 (pc2 := 154) dX7_init_153 rfl ?_
      refine g_ldcS0 (pc2 := 156) rfl dX7_init_154 rfl ?_
      refine g_il1 (pc2 := 157) dX7_init_156 rfl ?_
      refine g_cXi (i := 0) (pc2 := 160) (by decide) (R_j_charAt l (d + 3) _ σ1 (i := 0) (by decide) hk) meJ0_charAt_5068e mlX7_75 rfl rfl rfl (by simp) ⟨Nat.le_refl _, Nat.le_refl _⟩ dX7_init_157 rfl ?_
      refine g_cVi (pc2 := 163) wr meX7_write mlX7_79 (by rfl) ⟨_, rfl, rfl⟩ rfl rfl (by simp) ⟨Nat.le_refl _, Nat.le_refl _⟩ dX7_init_160 rfl ?_
      refine g_pop (pc2 := 164) dX7_init_163 rfl ?_
      refine g_in1 (pc2 := 167) dX7_init_164 (nI_inc _) (by decide) rfl ?_
      refine g_goto 144 dX7_init_167 rfl ?_
      refine ih _ ?_ ?_ (fun j hj => ?_)
      · rw [lt_up_nr _ _ _ (by decide), lt_up_nr _ _ _ (by decide)]; exact h1
      · rw [lt_up_at]
      · rw [lt_up_nr _ _ _ (by decide)]
        by_cases e : j = k
        · subst e; rw [lt_up_at]
        · rw [lt_up_ne _ _ _ e]; exact h3 j (by omega)
  refine g_iconst (pc2 := 143) dX7_init_142 k_iconst_0 rfl ?_
  refine g_is1 (pc2 := 144) dX7_init_143 (by decide) rfl ?_
  exact key 0 (Nat.zero_le _) σ h44 f (fun j hj => by omega)
theorem R_i_class (l : lt_L) (d : Nat) (σ0 : lt_S) : lt_R l (d + 8) 65 667 mX7_init s7_0 σ0 [.ref 10] Q7 := by
  refine lt_R.of [some (.ref 10), none] rfl rfl (Nat.le_of_ble_eq_true rfl) ?_
  refine g_al0 (pc2 := 1) dX7_init_0 rfl ?_
  refine g_objInit (pc2 := 4) mlX7_1 oi_1 oi_2 (by simp) (by omega) dX7_init_1 rfl ?_
  refine g_al0 (pc2 := 5) dX7_init_4 rfl ?_
  refine g_new (ci := 5) (fs := [some .null, none]) (pc2 := 8) rfl coX5 clX7_7 inX5 izX5 nf5 nn5 ⟨Nat.le_of_ble_eq_true rfl, Nat.le_of_ble_eq_true rfl⟩ dX7_init_5 rfl ?_
  show lt_G l (d + 8) 65 667 mX7_init 1 2 s7_1 (lt_ur σ0 11 (fun _ => 0)) 8 _ [.ref 11, .ref 10] _
  generalize lt_ur σ0 11 (fun _ => 0) = σ1
  refine g_dup (pc2 := 9) dX7_init_8 rfl ?_
  refine g_callIN (pc2 := 12) (R_i_text l (d + 6) s7_2 [] σ1 (a := 11) (b := 12) rfl rfl) rfl meX5_init (fun U h => h.1) rfl rfl (by simp) ⟨Nat.le_of_ble_eq_true rfl, Nat.le_of_ble_eq_true rfl⟩ dX7_init_9 rfl ?_
  rintro r_1 sh_1 σ2 ⟨rfl, rfl, hf1, hx⟩
  have f2 := hx
  show lt_G l (d + 8) 65 667 mX7_init 2 202 s7_3 σ2 12 _ [.ref 11, .ref 10] _
  refine g_putr (pc2 := 15) s7_4 (by rfl) (Nat.le_of_ble_eq_true rfl) flX7_10 fpX7_0 (fun _ => rfl) (fun _ => rfl) rfl rfl rfl dX7_init_12 rfl ?_
  refine g_al0 (pc2 := 16) dX7_init_15 rfl ?_
  refine g_new (ci := 6) (fs := [none, none, none, none, some .null, some .null, some .null, some .null]) (pc2 := 19) rfl coX6 clX7_16 inX6 izX6 nf6 nn6 ⟨Nat.le_of_ble_eq_true rfl, Nat.le_of_ble_eq_true rfl⟩ dX7_init_16 rfl ?_
  show lt_G l (d + 8) 65 667 mX7_init 3 210 s7_5 (lt_ur σ2 13 (fun _ => 0)) 19 _ [.ref 13, .ref 10] _
  have f3 : lt_ur σ2 13 (fun _ => 0) 11 1 = nI 0 := by rw [lt_ur_ne _ _ (by decide)]; exact f2
  generalize lt_ur σ2 13 (fun _ => 0) = σ3 at f3 ⊢
  refine g_dup (pc2 := 20) dX7_init_19 rfl ?_
  refine g_callIN (pc2 := 23) (R_i_yard l (d + 6) s7_6 [] σ3 (a := 13) (b := 14) rfl rfl) rfl meX6_init (fun U h => h.2.1) rfl rfl (by simp) ⟨Nat.le_of_ble_eq_true rfl, Nat.le_of_ble_eq_true rfl⟩ dX7_init_20 rfl ?_
  rintro r_3 sh_3 σ4 ⟨rfl, rfl, hf3⟩
  have f4 : σ4 11 1 = nI 0 := by rw [hf3 11 (by decide) (by decide)]; exact f3
  show lt_G l (d + 8) 65 667 mX7_init 7 243 s7_7 σ4 23 _ [.ref 13, .ref 10] _
  refine g_putr (pc2 := 26) s7_8 (by rfl) (Nat.le_of_ble_eq_true rfl) flX7_19 fpX7_1 (fun _ => rfl) (fun _ => rfl) rfl rfl rfl dX7_init_23 rfl ?_
  refine g_al0 (pc2 := 27) dX7_init_26 rfl ?_
  refine g_new (ci := 2) (fs := [some .null, some .null, some .null, some .null]) (pc2 := 30) rfl coX2 clX7_23 inX2 izX2 nf2 nn2 ⟨Nat.le_of_ble_eq_true rfl, Nat.le_of_ble_eq_true rfl⟩ dX7_init_27 rfl ?_
  show lt_G l (d + 8) 65 667 mX7_init 8 247 s7_9 (lt_ur σ4 18 (fun _ => 0)) 30 _ [.ref 18, .ref 10] _
  have f5 : lt_ur σ4 18 (fun _ => 0) 11 1 = nI 0 := by rw [lt_ur_ne _ _ (by decide)]; exact f4
  generalize lt_ur σ4 18 (fun _ => 0) = σ5 at f5 ⊢
  refine g_dup (pc2 := 31) dX7_init_30 rfl ?_
  refine g_callIN (pc2 := 34) (R_i_plan l (d + 6) s7_10 [] σ5 (a := 18) (b := 19) rfl rfl) rfl meX2_init (fun U h => h.2.2.1) rfl rfl (by simp) ⟨Nat.le_of_ble_eq_true rfl, Nat.le_of_ble_eq_true rfl⟩ dX7_init_31 rfl ?_
  rintro r_5 sh_5 σ6 ⟨rfl, rfl, hf5⟩
  have f6 : σ6 11 1 = nI 0 := by rw [hf5 11 (by decide) (by decide)]; exact f5
  show lt_G l (d + 8) 65 667 mX7_init 12 275 s7_11 σ6 34 _ [.ref 18, .ref 10] _
  refine g_putr (pc2 := 37) s7_12 (by rfl) (Nat.le_of_ble_eq_true rfl) flX7_26 fpX7_2 (fun _ => rfl) (fun _ => rfl) rfl rfl rfl dX7_init_34 rfl ?_
  refine g_al0 (pc2 := 38) dX7_init_37 rfl ?_
  refine g_new (ci := 3) (fs := [some .null, some .null, some .null, some .null, none]) (pc2 := 41) rfl coX3 clX7_30 inX3 izX3 nf3 nn3 ⟨Nat.le_of_ble_eq_true rfl, Nat.le_of_ble_eq_true rfl⟩ dX7_init_38 rfl ?_
  show lt_G l (d + 8) 65 667 mX7_init 13 280 s7_13 (lt_ur σ6 23 (fun _ => 0)) 41 _ [.ref 23, .ref 10] _
  have f7 : lt_ur σ6 23 (fun _ => 0) 11 1 = nI 0 := by rw [lt_ur_ne _ _ (by decide)]; exact f6
  generalize lt_ur σ6 23 (fun _ => 0) = σ7 at f7 ⊢
  refine g_dup (pc2 := 42) dX7_init_41 rfl ?_
  refine g_al0 (pc2 := 43) dX7_init_42 rfl ?_
  refine g_getr (pc2 := 46) (by rfl) (by rfl) flX7_10 dX7_init_43 rfl ?_
  refine g_al0 (pc2 := 47) dX7_init_46 rfl ?_
  refine g_getr (pc2 := 50) (by rfl) (by rfl) flX7_19 dX7_init_47 rfl ?_
  refine g_al0 (pc2 := 51) dX7_init_50 rfl ?_
  refine g_getr (pc2 := 54) (by rfl) (by rfl) flX7_26 dX7_init_51 rfl ?_
  refine g_callI (pc2 := 57) (R_i_reader l (d + 6) s7_14 [] σ7 (a := 23) (b := 24) (p1 := 11) (p2 := 13) (p3 := 18) rfl rfl) rfl meX3_init mlX7_32 rfl rfl (by simp) ⟨Nat.le_of_ble_eq_true rfl, Nat.le_of_ble_eq_true rfl⟩ dX7_init_54 rfl ?_
  rintro r_7 sh_7 σ8 ⟨rfl, rfl, hf7⟩
  have f8 : σ8 11 1 = nI 0 := by rw [hf7 11 (by decide) (by decide)]; exact f7
  show lt_G l (d + 8) 65 667 mX7_init 14 286 s7_15 σ8 57 _ [.ref 23, .ref 10] _
  refine g_putr (pc2 := 60) s7_16 (by rfl) (Nat.le_of_ble_eq_true rfl) flX7_35 fpX7_3 (fun _ => rfl) (fun _ => rfl) rfl rfl rfl dX7_init_57 rfl ?_
  refine g_al0 (pc2 := 61) dX7_init_60 rfl ?_
  refine g_new (ci := 3) (fs := [some .null, some .null, some .null, some .null, none]) (pc2 := 64) rfl coX3 clX7_30 inX3 izX3 nf3 nn3 ⟨Nat.le_of_ble_eq_true rfl, Nat.le_of_ble_eq_true rfl⟩ dX7_init_61 rfl ?_
  show lt_G l (d + 8) 65 667 mX7_init 15 291 s7_17 (lt_ur σ8 25 (fun _ => 0)) 64 _ [.ref 25, .ref 10] _
  have f9 : lt_ur σ8 25 (fun _ => 0) 11 1 = nI 0 := by rw [lt_ur_ne _ _ (by decide)]; exact f8
  generalize lt_ur σ8 25 (fun _ => 0) = σ9 at f9 ⊢
  refine g_dup (pc2 := 65) dX7_init_64 rfl ?_
  refine g_al0 (pc2 := 66) dX7_init_65 rfl ?_
  refine g_getr (pc2 := 69) (by rfl) (by rfl) flX7_10 dX7_init_66 rfl ?_
  refine g_new (ci := 6) (fs := [none, none, none, none, some .null, some .null, some .null, some .null]) (pc2 := 72) rfl coX6 clX7_16 inX6 izX6 nf6 nn6 ⟨Nat.le_of_ble_eq_true rfl, Nat.le_of_ble_eq_true rfl⟩ dX7_init_69 rfl ?_
  show lt_G l (d + 8) 65 667 mX7_init 16 299 s7_18 (lt_ur σ9 26 (fun _ => 0)) 72 _ [.ref 26, .ref 11, .ref 25, .ref 25, .ref 10] _
  have f10 : lt_ur σ9 26 (fun _ => 0) 11 1 = nI 0 := by rw [lt_ur_ne _ _ (by decide)]; exact f9
  generalize lt_ur σ9 26 (fun _ => 0) = σ10 at f10 ⊢
  refine g_dup (pc2 := 73) dX7_init_72 rfl ?_
  refine g_callIN (pc2 := 76) (R_i_yard l (d + 6) s7_19 [] σ10 (a := 26) (b := 27) rfl rfl) rfl meX6_init (fun U h => h.2.1) rfl rfl (by simp) ⟨Nat.le_of_ble_eq_true rfl, Nat.le_of_ble_eq_true rfl⟩ dX7_init_73 rfl ?_
  rintro r_10 sh_10 σ11 ⟨rfl, rfl, hf10⟩
  have f11 : σ11 11 1 = nI 0 := by rw [hf10 11 (by decide) (by decide)]; exact f10
  show lt_G l (d + 8) 65 667 mX7_init 20 332 s7_20 σ11 76 _ [.ref 26, .ref 11, .ref 25, .ref 25, .ref 10] _
  refine g_new (ci := 2) (fs := [some .null, some .null, some .null, some .null]) (pc2 := 79) rfl coX2 clX7_23 inX2 izX2 nf2 nn2 ⟨Nat.le_of_ble_eq_true rfl, Nat.le_of_ble_eq_true rfl⟩ dX7_init_76 rfl ?_
  show lt_G l (d + 8) 65 667 mX7_init 21 336 s7_21 (lt_ur σ11 31 (fun _ => 0)) 79 _ [.ref 31, .ref 26, .ref 11, .ref 25, .ref 25, .ref 10] _
  have f12 : lt_ur σ11 31 (fun _ => 0) 11 1 = nI 0 := by rw [lt_ur_ne _ _ (by decide)]; exact f11
  generalize lt_ur σ11 31 (fun _ => 0) = σ12 at f12 ⊢
  refine g_dup (pc2 := 80) dX7_init_79 rfl ?_
  refine g_callIN (pc2 := 83) (R_i_plan l (d + 6) s7_22 [] σ12 (a := 31) (b := 32) rfl rfl) rfl meX2_init (fun U h => h.2.2.1) rfl rfl (by simp) ⟨Nat.le_of_ble_eq_true rfl, Nat.le_of_ble_eq_true rfl⟩ dX7_init_80 rfl ?_
  rintro r_12 sh_12 σ13 ⟨rfl, rfl, hf12⟩
  have f13 : σ13 11 1 = nI 0 := by rw [hf12 11 (by decide) (by decide)]; exact f12
  show lt_G l (d + 8) 65 667 mX7_init 25 364 s7_23 σ13 83 _ [.ref 31, .ref 26, .ref 11, .ref 25, .ref 25, .ref 10] _
  refine g_callI (pc2 := 86) (R_i_reader l (d + 6) s7_24 [.inr (.inr (6, [none, none, none, none, some (.ref 27), some (.ref 28), some (.ref 29), some (.ref 30)])), .inl (0, 12), .inl (0, 7), .inl (0, 7), .inl (0, 7), .inr (.inr (2, [some (.ref 32), some (.ref 33), some (.ref 34), some (.ref 35)])), .inl (0, 7), .inl (0, 7), .inl (0, 7), .inl (0, 7)] σ13 (a := 25) (b := 36) (p1 := 11) (p2 := 26) (p3 := 31) rfl rfl) rfl meX3_init mlX7_32 rfl rfl (by simp) ⟨Nat.le_of_ble_eq_true rfl, Nat.le_of_ble_eq_true rfl⟩ dX7_init_83 rfl ?_
  rintro r_13 sh_13 σ14 ⟨rfl, rfl, hf13⟩
  have f14 : σ14 11 1 = nI 0 := by rw [hf13 11 (by decide) (by decide)]; exact f13
  show lt_G l (d + 8) 65 667 mX7_init 26 370 s7_25 σ14 86 _ [.ref 25, .ref 10] _
  refine g_putr (pc2 := 89) s7_26 (by rfl) (Nat.le_of_ble_eq_true rfl) flX7_39 fpX7_4 (fun _ => rfl) (fun _ => rfl) rfl rfl rfl dX7_init_86 rfl ?_
  refine g_al0 (pc2 := 90) dX7_init_89 rfl ?_
  refine g_new (ci := 0) (fs := [some .null, some .null, some .null]) (pc2 := 93) rfl coX0 clX7_42 inX0 izX0 nf0 nn0 ⟨Nat.le_of_ble_eq_true rfl, Nat.le_of_ble_eq_true rfl⟩ dX7_init_90 rfl ?_
  show lt_G l (d + 8) 65 667 mX7_init 27 373 s7_27 (lt_ur σ14 37 (fun _ => 0)) 93 _ [.ref 37, .ref 10] _
  have f15 : lt_ur σ14 37 (fun _ => 0) 11 1 = nI 0 := by rw [lt_ur_ne _ _ (by decide)]; exact f14
  generalize lt_ur σ14 37 (fun _ => 0) = σ15 at f15 ⊢
  refine g_dup (pc2 := 94) dX7_init_93 rfl ?_
  refine g_al0 (pc2 := 95) dX7_init_94 rfl ?_
  refine g_getr (pc2 := 98) (by rfl) (by rfl) flX7_19 dX7_init_95 rfl ?_
  refine g_al0 (pc2 := 99) dX7_init_98 rfl ?_
  refine g_getr (pc2 := 102) (by rfl) (by rfl) flX7_26 dX7_init_99 rfl ?_
  refine g_callI (pc2 := 105) (R_i_clashes l (d + 6) s7_28 [] σ15 (a := 37) (b := 38) (p1 := 13) (p2 := 18) rfl rfl) rfl meX0_init mlX7_44 rfl rfl (by simp) ⟨Nat.le_of_ble_eq_true rfl, Nat.le_of_ble_eq_true rfl⟩ dX7_init_102 rfl ?_
  rintro r_15 sh_15 σ16 ⟨rfl, rfl, hf15⟩
  have f16 : σ16 11 1 = nI 0 := by rw [hf15 11 (by decide) (by decide)]; exact f15
  show lt_G l (d + 8) 65 667 mX7_init 28 401 s7_29 σ16 105 _ [.ref 37, .ref 10] _
  refine g_putr (pc2 := 108) s7_30 (by rfl) (Nat.le_of_ble_eq_true rfl) flX7_47 fpX7_5 (fun _ => rfl) (fun _ => rfl) rfl rfl rfl dX7_init_105 rfl ?_
  refine g_al0 (pc2 := 109) dX7_init_108 rfl ?_
  refine g_new (ci := 4) (fs := [some .null, some .null, some .null, some .null, some .null, some .null, some .null, none]) (pc2 := 112) rfl coX4 clX7_51 inX4 izX4 nf4 nn4 ⟨Nat.le_of_ble_eq_true rfl, Nat.le_of_ble_eq_true rfl⟩ dX7_init_109 rfl ?_
  show lt_G l (d + 8) 65 667 mX7_init 29 409 s7_31 (lt_ur σ16 39 (fun _ => 0)) 112 _ [.ref 39, .ref 10] _
  have f17 : lt_ur σ16 39 (fun _ => 0) 11 1 = nI 0 := by rw [lt_ur_ne _ _ (by decide)]; exact f16
  generalize lt_ur σ16 39 (fun _ => 0) = σ17 at f17 ⊢
  refine g_dup (pc2 := 113) dX7_init_112 rfl ?_
  refine g_al0 (pc2 := 114) dX7_init_113 rfl ?_
  refine g_getr (pc2 := 117) (by rfl) (by rfl) flX7_19 dX7_init_114 rfl ?_
  refine g_al0 (pc2 := 118) dX7_init_117 rfl ?_
  refine g_getr (pc2 := 121) (by rfl) (by rfl) flX7_26 dX7_init_118 rfl ?_
  refine g_al0 (pc2 := 122) dX7_init_121 rfl ?_
  refine g_getr (pc2 := 125) (by rfl) (by rfl) flX7_47 dX7_init_122 rfl ?_
  refine g_callI (pc2 := 128) (R_i_search l (d + 6) s7_32 [] σ17 (a := 39) (b := 40) (p1 := 13) (p2 := 18) (p3 := 37) rfl rfl) rfl meX4_init mlX7_53 rfl rfl (by simp) ⟨Nat.le_of_ble_eq_true rfl, Nat.le_of_ble_eq_true rfl⟩ dX7_init_125 rfl ?_
  rintro r_17 sh_17 σ18 ⟨rfl, rfl, hf17⟩
  have f18 : σ18 11 1 = nI 0 := by rw [hf17 11 (by decide) (by decide)]; exact f17
  show lt_G l (d + 8) 65 667 mX7_init 33 466 s7_33 σ18 128 _ [.ref 39, .ref 10] _
  refine g_putr (pc2 := 131) s7_34 (by rfl) (Nat.le_of_ble_eq_true rfl) flX7_56 fpX7_6 (fun _ => rfl) (fun _ => rfl) rfl rfl rfl dX7_init_128 rfl ?_
  refine g_al0 (pc2 := 132) dX7_init_131 rfl ?_
  refine g_new (ci := 1) (fs := [some .null, none, none]) (pc2 := 135) rfl coX1 clX7_60 inX1 izX1 nf1 nn1 ⟨Nat.le_of_ble_eq_true rfl, Nat.le_of_ble_eq_true rfl⟩ dX7_init_132 rfl ?_
  show lt_G l (d + 8) 65 667 mX7_init 34 469 s7_35 (lt_ur σ18 44 (fun _ => 0)) 135 _ [.ref 44, .ref 10] _
  have f19 : lt_ur σ18 44 (fun _ => 0) 11 1 = nI 0 := by rw [lt_ur_ne _ _ (by decide)]; exact f18
  generalize lt_ur σ18 44 (fun _ => 0) = σ19 at f19 ⊢
  refine g_dup (pc2 := 136) dX7_init_135 rfl ?_
  refine g_callI (pc2 := 139) (R_i_past l (d + 5) s7_36 σ19 (a := 44) (b := 45) rfl rfl) rfl meX1_init mlX7_62 rfl rfl (by simp) ⟨Nat.le_of_ble_eq_true rfl, Nat.le_of_ble_eq_true rfl⟩ dX7_init_136 rfl ?_
  rintro r_19 sh_19 σ20 ⟨rfl, rfl, hf19, hx⟩
  have f20 : σ20 11 1 = nI 0 := by rw [hf19 11 (by decide) (by decide)]; exact f19
  show lt_G l (d + 8) 65 667 mX7_init 65 667 s7_37 σ20 139 _ [.ref 44, .ref 10] _
  refine g_putr (pc2 := 142) (lt_SC ++ []) (by rfl) (Nat.le_of_ble_eq_true rfl) flX7_63 fpX7_7 (fun _ => rfl) (fun _ => rfl) rfl rfl rfl dX7_init_139 rfl ?_
  exact R_i_c7 l d σ20 f20 hx
