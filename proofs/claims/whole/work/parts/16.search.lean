/-! the search, as a pure function: all legal ways in order, the first of the least cost -/
def upN (f : Nat → Nat) (m o : Nat) : Nat → Nat := fun j => if j = m then o else f j
abbrev sBest : Type := Option (Nat × (Nat → Nat))
def sLess (c : Nat) (b : sBest) : Bool := match b with
  | none => true
  | some q => decide (c < q.1)
def exO (rec : (Nat → Nat) → sBest → sBest) (lg : (Nat → Nat) → Nat → Nat → Bool) (m : Nat) (f : Nat → Nat) : Nat → sBest → sBest
  | 0, b => b
  | j + 1, b => exO rec lg m f j (if lg f m (4 - j) then rec (upN f m (4 - j)) b else b)
def exN (lg : (Nat → Nat) → Nat → Nat → Bool) (cs : (Nat → Nat) → Nat) : Nat → Nat → (Nat → Nat) → sBest → sBest
  | 0, _, f, b => if sLess (cs f) b then some (cs f, f) else b
  | n + 1, m, f, b => exO (fun f' b' => exN lg cs n (m + 1) f' b') lg m f 5 b
theorem upN_lt {f : Nat → Nat} {m o j : Nat} (h : j < m) : upN f m o j = f j := if_neg (by omega)
theorem upN_eq {f : Nat → Nat} {m o : Nat} : upN f m o m = o := if_pos rfl
/-- nothing better below: nothing changes -/
theorem exN_prune {lg : (Nat → Nat) → Nat → Nat → Bool} {cs : (Nat → Nat) → Nat} (hlg : ∀ f g m o, (∀ j, j < m → f j = g j) → lg f m o = lg g m o) : ∀ (n m : Nat) (f : Nat → Nat) (b : sBest), (∀ g, (∀ j, j < m → g j = f j) → (∀ i, m ≤ i → i < m + n → lg g i (g i) = true) → sLess (cs g) b = false) → exN lg cs n m f b = b
  | 0, m, f, b, h => by
    simp only [exN]
    rw [h f (fun _ _ => rfl) (fun i h1 h2 => by omega)]
    rfl
  | n + 1, m, f, b, h => by
    simp only [exN]
    have key : ∀ k, exO (fun f' b' => exN lg cs n (m + 1) f' b') lg m f k b = b := by
      intro k
      induction k with
      | zero => rfl
      | succ k ih =>
        simp only [exO]
        by_cases hl : lg f m (4 - k) = true
        · rw [if_pos hl, exN_prune hlg n (m + 1) (upN f m (4 - k)) b (fun g hg hgl => h g (fun j hj => by rw [hg j (by omega), upN_lt hj]) (fun i h1 h2 => ?_))]
          · exact ih
          · by_cases hi : i = m
            · subst hi
              rw [hg i (by omega), upN_eq, hlg g f i _ (fun j hj => by rw [hg j (by omega), upN_lt hj])]
              exact hl
            · exact hgl i (by omega) (by omega)
        · rw [if_neg hl]
          exact ih
    exact key 5
/-- the search only sees the prefix -/
theorem exN_congr {lg : (Nat → Nat) → Nat → Nat → Bool} {cs : (Nat → Nat) → Nat} : True := trivial
/-! the trains' options: 0 to 3 a track, 4 none -/
def asT (o : Nat) : Int32 := if o = 4 then -4 else nI o
def canB (w : Nat → Int32) (nt : Int32) (T i t : Nat) : Bool := decide (t < T) && (pf_fit w i t && (decide (pf_in w i t &&& nt = 0) && decide (pf_out w i t &&& nt = 0)))
def clB (w : Nat → Int32) (nt : Int32) (T i t j o : Nat) : Bool := canB w nt T i t && (canB w nt T j o && decide (0 < pf_kind w i t j o))
def allB (p : Nat → Bool) : Nat → Bool
  | 0 => true
  | n + 1 => allB p n && p n
theorem allB_iff {p : Nat → Bool} : ∀ {n : Nat}, allB p n = true ↔ ∀ j, j < n → p j = true
  | 0 => ⟨fun _ j h => by omega, fun _ => rfl⟩
  | n + 1 => by
    simp only [allB, Bool.and_eq_true]
    rw [allB_iff]
    constructor
    · intro h j hj
      by_cases e : j = n
      · subst e; exact h.2
      · exact h.1 j (by omega)
    · intro h
      exact ⟨fun j hj => h j (by omega), h n (by omega)⟩
def lgB (w : Nat → Int32) (nt : Int32) (T : Nat) (f : Nat → Nat) (m o : Nat) : Bool := decide (o = 4) || (canB w nt T m o && allB (fun j => decide (f j = 4) || !clB w nt T m o j (f j)) m)
theorem allB_congr {p q : Nat → Bool} : ∀ {n : Nat}, (∀ j, j < n → p j = q j) → allB p n = allB q n
  | 0, _ => rfl
  | n + 1, h => by simp only [allB]; rw [allB_congr (fun j hj => h j (by omega)), h n (by omega)]
theorem lgB_congr (w : Nat → Int32) (nt : Int32) (T : Nat) : ∀ f g m o, (∀ j, j < m → f j = g j) → lgB w nt T f m o = lgB w nt T g m o := by
  intro f g m o h
  unfold lgB
  rw [allB_congr (fun j hj => by rw [h j hj])]
def likeB (w : Nat → Int32) (law : Int32) (i o : Nat) : Bool := if law = 0 then !decide (asT o = -4) && decide (asT o = w (16 + 7 * i + 4)) else decide (asT o = w (16 + 7 * i + 6))
def noneN (f : Nat → Nat) (m : Nat) : Nat := sumF (fun i => decide (f i = 4)) m
def likeN (w : Nat → Int32) (law : Int32) (f : Nat → Nat) (m : Nat) : Nat := sumF (fun i => likeB w law i (f i)) m
def costN (w : Nat → Int32) (law : Int32) (N : Nat) (f : Nat → Nat) : Nat := 8 * noneN f N + (N - likeN w law f N)
theorem sumF_mono (p : Nat → Bool) : ∀ {m n : Nat}, m ≤ n → sumF p m ≤ sumF p n ∧ sumF p n ≤ sumF p m + (n - m)
  | m, 0, h => by
    have : m = 0 := by omega
    subst this
    simp
  | m, n + 1, h => by
    by_cases e : m = n + 1
    · subst e; simp
    · have := sumF_mono p (m := m) (n := n) (by omega)
      simp only [sumF]
      split <;> omega
/-- the way that is found -/
def wayF (w : Nat → Int32) (law nt : Int32) (T N : Nat) : sBest := exN (lgB w nt T) (costN w law N) N 0 (fun _ => 0) none
