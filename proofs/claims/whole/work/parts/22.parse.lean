/-! the text, as a pure function -/
def digB (tx : Nat → Nat) (n q : Nat) : Bool := decide (q < n) && (decide (48 ≤ tx q) && decide (tx q ≤ 57))
def numAt (tx : Nat → Nat) (n p : Nat) : Option (Nat × Nat) := if digB tx n p then (if digB tx n (p + 1) then some (10 * (tx p - 48) + (tx (p + 1) - 48), p + 2) else some (tx p - 48, p + 1)) else none
def chB (tx : Nat → Nat) (n q c : Nat) : Bool := decide (q < n) && decide (tx q = c)
def numsAt (tx : Nat → Nat) (n : Nat) : Nat → Nat → Option (List Nat × Nat)
  | 0, _ => none
  | k + 1, p => match numAt tx n p with
    | none => none
    | some q => if chB tx n q.2 44 then (match numsAt tx n k (q.2 + 1) with
        | none => none
        | some r => some (q.1 :: r.1, r.2)) else if chB tx n q.2 59 then some ([q.1], q.2 + 1) else none
theorem numAt_le {tx : Nat → Nat} {n p : Nat} {q : Nat × Nat} (h : numAt tx n p = some q) : q.1 ≤ 99 ∧ p < q.2 ∧ q.2 ≤ p + 2 ∧ q.2 ≤ n := by
  unfold numAt at h
  split at h
  · next h1 =>
    simp only [digB, Bool.and_eq_true, decide_eq_true_eq] at h1
    split at h
    · next h2 =>
      simp only [digB, Bool.and_eq_true, decide_eq_true_eq] at h2
      cases h
      exact ⟨by omega, by omega, by omega, by omega⟩
    · cases h
      exact ⟨by omega, by omega, by omega, by omega⟩
  · cases h
theorem numsAt_le {tx : Nat → Nat} {n : Nat} : ∀ {k p : Nat} {r : List Nat × Nat}, numsAt tx n k p = some r → (∀ v ∈ r.1, v ≤ 99) ∧ 1 ≤ r.1.length ∧ r.1.length ≤ k ∧ p < r.2 ∧ r.2 ≤ n
  | 0, p, r, h => by cases h
  | k + 1, p, r, h => by
    simp only [numsAt] at h
    cases h1 : numAt tx n p with
    | none => rw [h1] at h; cases h
    | some q =>
      have hq := numAt_le h1
      rw [h1] at h
      simp only at h
      split at h
      · cases h2 : numsAt tx n k (q.2 + 1) with
        | none => rw [h2] at h; cases h
        | some r2 =>
          rw [h2] at h
          cases h
          have h3 := numsAt_le h2
          refine ⟨fun v hv => ?_, by simp, by simp; omega, by show p < r2.2; omega, h3.2.2.2.2⟩
          rcases List.mem_cons.mp hv with e | e
          · rw [e]; exact hq.1
          · exact h3.1 v e
      · split at h
        · next h5 =>
          cases h
          simp only [chB, Bool.and_eq_true, decide_eq_true_eq] at h5
          refine ⟨fun v hv => ?_, by simp, by simp, by show p < q.2 + 1; omega, by show q.2 + 1 ≤ n; omega⟩
          rcases List.mem_cons.mp hv with e | e
          · rw [e]; exact hq.1
          · cases e
        · cases h
/-- fewer numbers than may be read -/
theorem numsAt_few {tx : Nat → Nat} {n : Nat} : ∀ {k j p : Nat}, numsAt tx n k p = (match numsAt tx n (k + j) p with
    | none => none
    | some r => if r.1.length ≤ k then some r else none)
  | 0, j, p => by
    cases h : numsAt tx n (0 + j) p with
    | none => rfl
    | some r =>
      have := (numsAt_le h).2.1
      simp only [numsAt]
      rw [if_neg (by omega)]
  | k + 1, j, p => by
    have ih := fun q => numsAt_few (tx := tx) (n := n) (k := k) (j := j) (p := q)
    rw [show k + 1 + j = k + j + 1 by omega]
    simp only [numsAt]
    cases h1 : numAt tx n p with
    | none => rfl
    | some q =>
      simp only
      split
      · rw [ih]
        cases h2 : numsAt tx n (k + j) (q.2 + 1) with
        | none => rfl
        | some r =>
          simp only
          by_cases h3 : r.1.length ≤ k
          · rw [if_pos h3, if_pos (by simp; omega)]
          · rw [if_neg h3, if_neg (by simp; omega)]
      · split
        · simp
        · rfl
def wordB (tx : Nat → Nat) (n p a b c d : Nat) : Bool := decide (p + 4 < n) && (decide (tx p = a) && (decide (tx (p + 1) = b) && (decide (tx (p + 2) = c) && (decide (tx (p + 3) = d) && decide (tx (p + 4) = 32)))))
/-- what a text's item does to a row -/
def pathBits (ns : List Nat) : Int32 := orF (fun k => nI 1 <<< (nI (ns.getD (k + 2) 0) &&& 31)) (ns.length - 2)
def okYard (r : Nat → Int32) (ns : List Nat) : Bool := decide (r 0 = nI 0) && (decide (ns.length = 2) && (decide (1 ≤ ns.getD 0 0) && (decide (ns.getD 0 0 ≤ 3) && (decide (1 ≤ ns.getD 1 0) && decide (ns.getD 1 0 ≤ 4)))))
def rowYard (r : Nat → Int32) (ns : List Nat) : Nat → Int32 := upd (upd r 0 (nI (ns.getD 0 0))) 1 (nI (ns.getD 1 0))
def okPath (r : Nat → Int32) (ns : List Nat) : Bool := decide (2 ≤ ns.length) && (decide (ns.getD 0 0 < tN (r 0)) && (decide (ns.getD 1 0 < tN (r 1)) && (decide (r (4 + 4 * ns.getD 0 0 + ns.getD 1 0) = -4) && allB (fun k => decide (ns.getD (k + 2) 0 < 12)) (ns.length - 2))))
def rowPath (r : Nat → Int32) (ns : List Nat) : Nat → Int32 := upd r (4 + 4 * ns.getD 0 0 + ns.getD 1 0) (pathBits ns)
def okCome (r : Nat → Int32) (ns : List Nat) : Bool := decide (ns.length = 5) && (decide (tN (r 2) < 7) && (decide (ns.getD 0 0 < tN (r 0)) && (decide (ns.getD 1 0 < tN (r 0)) && (decide (1 ≤ ns.getD 2 0) && (decide (ns.getD 2 0 ≤ ns.getD 3 0) && (decide (ns.getD 3 0 ≤ 98) && (decide (ns.getD 4 0 < tN (r 1)) || decide (ns.getD 4 0 = 9))))))))
def comeRow (r : Nat → Int32) (a b p q x : Int32) : Nat → Int32 := upd (upd (upd (upd (upd (upd (upd (upd r (16 + 7 * tN (r 2) + 0) a) (16 + 7 * tN (r 2) + 1) b) (16 + 7 * tN (r 2) + 2) p) (16 + 7 * tN (r 2) + 3) q) (16 + 7 * tN (r 2) + 4) x) (16 + 7 * tN (r 2) + 5) (-4)) (16 + 7 * tN (r 2) + 6) (-4)) 2 (nI (tN (r 2) + 1))
def rowCome (r : Nat → Int32) (ns : List Nat) : Nat → Int32 := comeRow r (nI (ns.getD 0 0)) (nI (ns.getD 1 0)) (nI (ns.getD 2 0)) (nI (ns.getD 3 0)) (if ns.getD 4 0 = 9 then -4 else nI (ns.getD 4 0))
def okPair (r : Nat → Int32) (ns : List Nat) : Bool := decide (ns.length = 2) && (!decide (ns.getD 0 0 = ns.getD 1 0) && (decide (ns.getD 0 0 < tN (r 2)) && (decide (ns.getD 1 0 < tN (r 2)) && (decide (r (16 + 7 * ns.getD 0 0 + 5) = -4) && decide (r (16 + 7 * ns.getD 1 0 + 5) = -4)))))
def rowPair (r : Nat → Int32) (ns : List Nat) : Nat → Int32 := upd (upd r (16 + 7 * ns.getD 0 0 + 5) (nI (ns.getD 1 0))) (16 + 7 * ns.getD 1 0 + 5) (nI (ns.getD 0 0))
def okGap (ns : List Nat) : Bool := decide (ns.length = 1) && decide (ns.getD 0 0 < 10)
def rowGap (r : Nat → Int32) (ns : List Nat) : Nat → Int32 := upd r 3 (nI (ns.getD 0 0))
/-- the row of an item with numbers, if it is well: k 0 yard, 1 path, 2 come, 3 pair, 4 span -/
def itemR (r : Nat → Int32) (k : Nat) (ns : List Nat) : Option (Nat → Int32) :=
  if k = 0 then (if okYard r ns then some (rowYard r ns) else none) else if r 0 = nI 0 then none else
  if k = 1 then (if okPath r ns then some (rowPath r ns) else none) else
  if k = 2 then (if okCome r ns then some (rowCome r ns) else none) else
  if k = 3 then (if okPair r ns then some (rowPair r ns) else none) else
  (if okGap ns then some (rowGap r ns) else none)
def kindAt (tx : Nat → Nat) (n p : Nat) : Option Nat := if wordB tx n p 121 97 114 100 then some 0 else if wordB tx n p 112 97 116 104 then some 1 else if wordB tx n p 99 111 109 101 then some 2 else if wordB tx n p 112 97 105 114 then some 3 else if wordB tx n p 115 112 97 110 then some 4 else none
def itemAt (tx : Nat → Nat) (n : Nat) (r : Nat → Int32) (p : Nat) : Option ((Nat → Int32) × Nat) := match kindAt tx n p with
  | none => none
  | some k => match numsAt tx n 6 (p + 5) with
    | none => none
    | some q => match itemR r k q.1 with
      | none => none
      | some r' => some (r', q.2)
/-- the fault's place, and the row ahead of it -/
def parseL (tx : Nat → Nat) (n : Nat) : Nat → (Nat → Int32) → Nat → Option Nat × (Nat → Int32)
  | 0, r, p => (some p, r)
  | f + 1, r, p => if p < n then (match itemAt tx n r p with
      | none => (some p, r)
      | some q => parseL tx n f q.1 q.2) else (none, r)
/-- a row as reading begins -/
def Beg (r : Nat → Int32) : Prop := r 0 = nI 0 ∧ r 1 = nI 0 ∧ r 2 = nI 0 ∧ r 3 = nI 1 ∧ ∀ j, 4 ≤ j → j < 16 → r j = -4
/-- what holds of a row while a text is read -/
def Wp (r : Nat → Int32) (ln T N : Nat) : Prop := (r 0 = nI ln ∧ ln ≤ 3) ∧ (r 1 = nI T ∧ T ≤ 4) ∧ (r 2 = nI N ∧ N ≤ 7) ∧ (∃ g, r 3 = nI g ∧ g ≤ 9) ∧ (ln = 0 ∨ (1 ≤ ln ∧ 1 ≤ T)) ∧ (∀ i, i < N → Wt r ln T N i ∧ r (16 + 7 * i + 6) = -4)
