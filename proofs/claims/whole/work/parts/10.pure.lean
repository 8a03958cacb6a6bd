/-! pure words: numbers, counts, sets, the rows of the reference -/
def inB (v a b : Int32) : Bool := !decide (v < a) && !decide (b < v)
/-- a place below n -/
def hasB (x n : Int32) : Bool := !decide (x < 0) && !decide (n ≤ x)
theorem hasB_nI {j n : Nat} (hj : j < 2 ^ 31) (hn : n < 2 ^ 31) : hasB (nI j) (nI n) = decide (j < n) := by
  unfold hasB
  rw [decide_eq_false (nI_pos hj)]
  by_cases h : j < n
  · rw [decide_eq_false (fun e => absurd ((nI_leI hn hj).mp e) (by omega)), decide_eq_true h]; rfl
  · rw [decide_eq_true ((nI_leI hn hj).mpr (by omega)), decide_eq_false h]; rfl
theorem hasB_ix {x : Int32} {n : Nat} (hn : n < 2 ^ 31) (h : hasB x (nI n) = true) : ∃ j, j < n ∧ x = nI j := by
  unfold hasB at h
  rcases pk_ix x hn with h1 | h1 | h1
  · simp [h1] at h
  · simp [h1] at h
  · exact h1
theorem inB_has {x : Int32} {n : Nat} (hn : n < 2 ^ 30) : inB x (nI 0) (nI n - nI 1) = hasB x (nI n) := by
  have h0 : nI 0 = 0 := nI_0
  unfold inB hasB
  rw [h0]
  rcases Nat.eq_zero_or_pos n with e | e
  · subst e
    by_cases hx : x < 0
    · simp [hx]
    · have h1 : (nI 0 - nI 1) < x := by
        have : nI 0 - nI 1 < 0 := by decide
        exact Int32.lt_of_lt_of_le this (Int32.not_lt.mp hx)
      have h2 : nI 0 ≤ x := by rw [h0]; exact Int32.not_lt.mp hx
      simp [hx, h1, h2]
  · rw [pk_sub e]
    by_cases hx : x < 0
    · simp [hx]
    · obtain ⟨j, hj, rfl⟩ := nI_of hx
      by_cases h : j < n
      · have h1 : ¬ nI (n - 1) < nI j := fun q => absurd ((nI_ltI (by omega) hj).mp q) (by omega)
        have h2 : ¬ nI n ≤ nI j := fun q => absurd ((nI_leI (by omega) hj).mp q) (by omega)
        simp [h1, h2]
      · have h1 : nI (n - 1) < nI j := (nI_ltI (by omega) hj).mpr (by omega)
        have h2 : nI n ≤ nI j := (nI_leI (by omega) hj).mpr (by omega)
        simp [h1, h2]
def sumF (p : Nat → Bool) : Nat → Nat
  | 0 => 0
  | n + 1 => sumF p n + (if p n then 1 else 0)
theorem sumF_le (p : Nat → Bool) : ∀ n, sumF p n ≤ n
  | 0 => Nat.le_refl _
  | n + 1 => by
    have := sumF_le p n
    simp only [sumF]
    split <;> omega
theorem sumF_congr {p q : Nat → Bool} : ∀ {n : Nat}, (∀ i, i < n → p i = q i) → sumF p n = sumF q n
  | 0, _ => rfl
  | n + 1, h => by simp only [sumF]; rw [sumF_congr (fun i hi => h i (by omega)), h n (by omega)]
def orF (f : Nat → Int32) : Nat → Int32
  | 0 => nI 0
  | n + 1 => orF f n ||| f n
theorem orF_congr {f g : Nat → Int32} : ∀ {n : Nat}, (∀ i, i < n → f i = g i) → orF f n = orF g n
  | 0, _ => rfl
  | n + 1, h => by simp only [orF]; rw [orF_congr (fun i hi => h i (by omega)), h n (by omega)]
theorem or_0 (x : Int32) : x ||| nI 0 = x := by rw [nI_0]; exact Int32.or_zero
/-- the first place below n -/
def fstF (p : Nat → Bool) : Nat → Option Nat
  | 0 => none
  | n + 1 => match fstF p n with
    | some j => some j
    | none => if p n then some n else none
def oI (o : Option Nat) : Int32 := match o with
  | some j => nI j
  | none => -4
theorem fstF_at {p : Nat → Bool} {k : Nat} (h0 : fstF p k = none) (hp : p k = true) : ∀ n, k < n → fstF p n = some k
  | 0, h => by omega
  | n + 1, h => by
    by_cases e : k = n
    · subst e
      simp only [fstF, h0, hp, if_true]
    · simp only [fstF, fstF_at h0 hp n (by omega)]
theorem fstF_congr {p q : Nat → Bool} : ∀ {n : Nat}, (∀ i, i < n → p i = q i) → fstF p n = fstF q n
  | 0, _ => rfl
  | n + 1, h => by simp only [fstF]; rw [fstF_congr (fun i hi => h i (by omega)), h n (by omega)]
theorem fstF_lt {p : Nat → Bool} : ∀ {n j : Nat}, fstF p n = some j → j < n ∧ p j = true
  | 0, j, h => by cases h
  | n + 1, j, h => by
    simp only [fstF] at h
    cases e : fstF p n with
    | some i =>
      rw [e] at h
      cases h
      have := fstF_lt e
      exact ⟨by omega, this.2⟩
    | none =>
      rw [e] at h
      simp only at h
      split at h
      · cases h; exact ⟨by omega, by assumption⟩
      · cases h
theorem m4_ne {n : Nat} (h : n < 2 ^ 31) : ¬ nI n = -4 := fun e => absurd (show (-4 : Int32) < 0 by decide) (by rw [← e]; exact nI_pos h)
theorem m4_ne' {n : Nat} (h : n < 2 ^ 31) : ¬ (-4 : Int32) = nI n := fun e => m4_ne h e.symm
theorem oI_none {o : Option Nat} (h : ∀ j, o = some j → j < 2 ^ 31) : oI o = -4 ↔ o = none := by
  cases o with
  | none => exact ⟨fun _ => rfl, fun _ => rfl⟩
  | some j => exact ⟨fun e => absurd e (m4_ne (h j rfl)), fun e => by cases e⟩
/-! a row w: 0 lines, 1 tracks, 2 trains, 3 gap, 4 to 15 routes, 16 + 7 i + k the trains -/
def pf_in (w : Nat → Int32) (i t : Nat) : Int32 := w (4 + 4 * tN (w (16 + 7 * i + 0)) + t)
def pf_out (w : Nat → Int32) (i t : Nat) : Int32 := w (4 + 4 * tN (w (16 + 7 * i + 1)) + t)
def pf_fit (w : Nat → Int32) (i t : Nat) : Bool := !decide (pf_in w i t = -4) && !decide (pf_out w i t = -4)
def pf_gap (w : Nat → Int32) : Int32 := if nI 1 ≤ w 3 then w 3 else nI 1
def pf_apart (w : Nat → Int32) (i j : Nat) : Bool := decide (w (16 + 7 * i + 3) + pf_gap w ≤ w (16 + 7 * j + 2)) || decide (w (16 + 7 * j + 3) + pf_gap w ≤ w (16 + 7 * i + 2))
def pf_meet (a b : Int32) : Bool := !decide (nI 2 ≤ a - b) && !decide (nI 2 ≤ b - a)
def pf_sw (w : Nat → Int32) (i t j o : Nat) : Bool :=
  (((pf_meet (w (16 + 7 * i + 2) - nI 1) (w (16 + 7 * j + 2) - nI 1) && !decide (pf_in w i t &&& pf_in w j o = 0)) ||
    (pf_meet (w (16 + 7 * i + 2) - nI 1) (w (16 + 7 * j + 3)) && !decide (pf_in w i t &&& pf_out w j o = 0))) ||
    (pf_meet (w (16 + 7 * i + 3)) (w (16 + 7 * j + 2) - nI 1) && !decide (pf_out w i t &&& pf_in w j o = 0))) ||
    (pf_meet (w (16 + 7 * i + 3)) (w (16 + 7 * j + 3)) && !decide (pf_out w i t &&& pf_out w j o = 0))
def pf_mates (w : Nat → Int32) (i j : Nat) : Bool := decide (w (16 + 7 * i + 5) = nI j)
def pf_kind (w : Nat → Int32) (i t j o : Nat) : Nat := if t = o ∧ pf_mates w i j = true then 0 else (if t = o ∧ pf_apart w i j = false then 1 else 0) + (if pf_sw w i t j o = true then 2 else 0)
def pf_against (w : Nat → Int32) (i t j : Nat) : Bool := !decide (j = i) && (!decide (w (16 + 7 * j + 6) = -4) && decide (0 < pf_kind w i t j (tN (w (16 + 7 * j + 6)))))
def pf_clashing (w : Nat → Int32) (i t : Nat) : Option Nat := fstF (pf_against w i t) (tN (w 2))
def pf_why (w : Nat → Int32) (i t : Nat) : Nat := if pf_in w i t = -4 then 1 else if pf_out w i t = -4 then 2 else match pf_clashing w i t with
  | none => 0
  | some j => 3 + j
def pf_fits (w : Nat → Int32) (i : Nat) : Int32 := orF (fun t => if pf_fit w i t then nI 1 <<< (nI t &&& 31) else nI 0) (tN (w 1))
def pf_hard (w : Nat → Int32) (i : Nat) : Nat := sumF (fun t => decide (pf_why w i t = 0)) (tN (w 1))
def pf_placed (w : Nat → Int32) : Nat := sumF (fun i => !decide (w (16 + 7 * i + 6) = -4)) (tN (w 2))
def pf_wished (w : Nat → Int32) : Nat := sumF (fun i => !decide (w (16 + 7 * i + 6) = -4) && decide (w (16 + 7 * i + 6) = w (16 + 7 * i + 4))) (tN (w 2))
def pf_on (w : Nat → Int32) (t m : Int32) : Int32 := orF (fun i => if decide (w (16 + 7 * i + 6) = t) && inB m (w (16 + 7 * i + 2)) (w (16 + 7 * i + 3)) then nI 1 <<< (nI i &&& 31) else nI 0) (tN (w 2))
def pf_takenI (w : Nat → Int32) (m : Int32) (i : Nat) : Int32 := if w (16 + 7 * i + 6) = -4 then nI 0 else
  (if inB m (w (16 + 7 * i + 2) - nI 1) (w (16 + 7 * i + 2)) then pf_in w i (tN (w (16 + 7 * i + 6))) else nI 0) ||| (if inB m (w (16 + 7 * i + 3)) (w (16 + 7 * i + 3) + nI 1) then pf_out w i (tN (w (16 + 7 * i + 6))) else nI 0)
def pf_taken (w : Nat → Int32) (m : Int32) : Int32 := orF (pf_takenI w m) (tN (w 2))
def pf_useB (w : Nat → Int32) (what k : Int32) (m : Nat) : Bool := if what = 0 then !decide (pf_on w k (nI m) = 0) else decide ((pf_taken w (nI m) >>> (k &&& 31)) &&& nI 1 = nI 1)
def pf_use (w : Nat → Int32) (what k : Int32) : Nat := sumF (pf_useB w what k) 100
/-- what holds of a row -/
def Wt (w : Nat → Int32) (ln T N i : Nat) : Prop := (∃ a, a < ln ∧ w (16 + 7 * i + 0) = nI a) ∧ (∃ b, b < ln ∧ w (16 + 7 * i + 1) = nI b) ∧ (∃ p q, 1 ≤ p ∧ p ≤ q ∧ q ≤ 98 ∧ w (16 + 7 * i + 2) = nI p ∧ w (16 + 7 * i + 3) = nI q) ∧
  (w (16 + 7 * i + 4) = -4 ∨ ∃ t, t < T ∧ w (16 + 7 * i + 4) = nI t) ∧ (w (16 + 7 * i + 5) = -4 ∨ ∃ j, j < N ∧ w (16 + 7 * i + 5) = nI j) ∧ (w (16 + 7 * i + 6) = -4 ∨ ∃ t, t < T ∧ w (16 + 7 * i + 6) = nI t ∧ pf_fit w i t = true)
def Wf (w : Nat → Int32) (ln T N : Nat) : Prop := (w 0 = nI ln ∧ 1 ≤ ln ∧ ln ≤ 3) ∧ (w 1 = nI T ∧ 1 ≤ T ∧ T ≤ 4) ∧ (w 2 = nI N ∧ N ≤ 7) ∧ (∃ g, w 3 = nI g ∧ g ≤ 9) ∧ ∀ i, i < N → Wt w ln T N i
