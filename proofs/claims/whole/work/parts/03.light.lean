/-! THE LIGHT MACHINE: a judgement over a store of numbers (cell, place) and a shape of cells, that hides the machine; one row an instruction. -/
abbrev lt_S : Type := Nat → Nat → Int32
abbrev lt_C : Type := (Nat × Nat) ⊕ (List (Option Nat) ⊕ (Nat × List (Option Value)))
abbrev lt_H : Type := List lt_C
abbrev lt_M : Type := MethodName × ByteArray × Nat × Option FieldType
abbrev lt_Q : Type := Option Int32 → lt_H → lt_S → Prop
def lt_tr (ad : Nat → Nat) (v : Value) : Value := match v with
  | .ref a => .ref (ad a)
  | v => v
def lt_sv (N : Nat) (v : Value) : Prop := match v with
  | .int _ => True
  | .null => True
  | .ref a => a < N
  | _ => False
theorem lt_sv.mono {N N' : Nat} {v : Value} (h : lt_sv N v) (hN : N ≤ N') : lt_sv N' v := by
  cases v <;> first | exact h | exact Nat.lt_of_lt_of_le h hN
theorem lt_sv.cat {N : Nat} {v : Value} (h : lt_sv N v) (ad : Nat → Nat) : (lt_tr ad v).category = 1 := by
  cases v <;> first | rfl | exact h.elim
theorem lt_sv.same {N : Nat} {v : Value} {ad ad' : Nat → Nat} (h : lt_sv N v) (he : ∀ a, a < N → ad' a = ad a) : lt_tr ad' v = lt_tr ad v := by
  cases v <;> first | rfl | exact congrArg Value.ref (he _ h)
def lt_sok (N : Nat) : List Value → Prop
  | [] => True
  | v :: r => lt_sv N v ∧ lt_sok N r
theorem lt_sok.mono {N N' : Nat} (hN : N ≤ N') : ∀ {st : List Value}, lt_sok N st → lt_sok N' st
  | [], _ => trivial
  | _ :: _, h => ⟨h.1.mono hN, h.2.mono hN⟩
theorem lt_sok.same {N : Nat} {ad ad' : Nat → Nat} (he : ∀ a, a < N → ad' a = ad a) : ∀ {st : List Value}, lt_sok N st → st.map (lt_tr ad') = st.map (lt_tr ad)
  | [], _ => rfl
  | _ :: _, h => by rw [List.map_cons, List.map_cons, h.1.same he, h.2.same he]
theorem lt_sok.cat {N : Nat} (ad : Nat → Nat) : ∀ {st : List Value}, lt_sok N st → ((st.map (lt_tr ad)).map fun v => v.category).sum = st.length
  | [], _ => rfl
  | _ :: _, h => by
    rw [List.map_cons, List.map_cons, List.sum_cons, h.1.cat ad, h.2.cat ad, List.length_cons]
    omega
theorem lt_sok.app {N : Nat} : ∀ {a b : List Value}, lt_sok N (a ++ b) ↔ lt_sok N a ∧ lt_sok N b
  | [], b => ⟨fun h => ⟨trivial, h⟩, fun h => h.2⟩
  | v :: a, b => ⟨fun h => ⟨⟨h.1, (lt_sok.app.mp h.2).1⟩, (lt_sok.app.mp h.2).2⟩, fun h => ⟨h.1.1, lt_sok.app.mpr ⟨h.1.2, h.2⟩⟩⟩
theorem lt_sok.rev {N : Nat} : ∀ {a : List Value}, lt_sok N a.reverse → lt_sok N a
  | [], _ => trivial
  | v :: a, h => by
    rw [List.reverse_cons] at h
    have h2 := lt_sok.app.mp h
    exact ⟨h2.2.1, lt_sok.rev h2.1⟩
/-- an object's fields: constants of the shape, numbers of the store -/
def lt_fs (ad : Nat → Nat) (f : Nat → Int32) : Nat → List (Option Value) → List Value
  | _, [] => []
  | k, some v :: r => lt_tr ad v :: lt_fs ad f (k + 1) r
  | k, none :: r => .int (f k) :: lt_fs ad f (k + 1) r
theorem lt_fs_get (ad : Nat → Nat) (f : Nat → Int32) : ∀ (fs : List (Option Value)) (k j : Nat), (lt_fs ad f k fs)[j]? = (fs[j]?).map (fun o => match o with | some v => lt_tr ad v | none => .int (f (k + j)))
  | [], k, j => by simp [lt_fs]
  | some v :: r, k, 0 => by simp [lt_fs]
  | none :: r, k, 0 => by simp [lt_fs]
  | some v :: r, k, j + 1 => by
    simp only [lt_fs, List.getElem?_cons_succ]
    rw [lt_fs_get ad f r (k + 1) j]
    congr 1; funext o; cases o <;> simp [Nat.add_assoc, Nat.add_comm 1 j]
  | none :: r, k, j + 1 => by
    simp only [lt_fs, List.getElem?_cons_succ]
    rw [lt_fs_get ad f r (k + 1) j]
    congr 1; funext o; cases o <;> simp [Nat.add_assoc, Nat.add_comm 1 j]
theorem lt_fs_len (ad : Nat → Nat) (f : Nat → Int32) : ∀ (fs : List (Option Value)) (k : Nat), (lt_fs ad f k fs).length = fs.length
  | [], k => rfl
  | some v :: r, k => by simp [lt_fs, lt_fs_len ad f r]
  | none :: r, k => by simp [lt_fs, lt_fs_len ad f r]
theorem lt_fs_out (ad : Nat → Nat) (f : Nat → Int32) (x : Int32) : ∀ (fs : List (Option Value)) (k i : Nat), i < k → lt_fs ad (upd f i x) k fs = lt_fs ad f k fs
  | [], k, i, _ => rfl
  | some v :: r, k, i, h => by simp only [lt_fs]; rw [lt_fs_out ad f x r (k + 1) i (by omega)]
  | none :: r, k, i, h => by
    simp only [lt_fs]
    rw [lt_fs_out ad f x r (k + 1) i (by omega), show upd f i x k = f k from if_neg (by omega)]
theorem lt_fs_set (ad : Nat → Nat) (f : Nat → Int32) (x : Int32) : ∀ (fs : List (Option Value)) (k j : Nat), fs[j]? = some none → (lt_fs ad f k fs).set j (.int x) = lt_fs ad (upd f (k + j) x) k fs
  | [], k, j, h => by simp at h
  | some v :: r, k, 0, h => by simp at h
  | none :: r, k, 0, h => by
    simp only [lt_fs, List.set_cons_zero, Nat.add_zero]
    rw [lt_fs_out ad f x r (k + 1) k (by omega), show upd f k x k = x from if_pos rfl]
  | some v :: r, k, j + 1, h => by
    simp only [lt_fs, List.set_cons_succ]
    rw [lt_fs_set ad f x r (k + 1) j (by simpa using h), show k + 1 + j = k + (j + 1) by omega]
  | none :: r, k, j + 1, h => by
    simp only [lt_fs, List.set_cons_succ]
    rw [lt_fs_set ad f x r (k + 1) j (by simpa using h), show k + 1 + j = k + (j + 1) by omega, show upd f (k + (j + 1)) x k = f k from if_neg (by omega)]
theorem lt_fs_setr (ad : Nat → Nat) (f : Nat → Int32) (v : Value) : ∀ (fs : List (Option Value)) (k j : Nat), (lt_fs ad f k fs).set j (lt_tr ad v) = lt_fs ad f k (fs.set j (some v))
  | [], k, j => by simp [lt_fs]
  | some w :: r, k, 0 => by simp [lt_fs]
  | none :: r, k, 0 => by simp [lt_fs]
  | some w :: r, k, j + 1 => by simp only [lt_fs, List.set_cons_succ]; rw [lt_fs_setr ad f v r (k + 1) j]
  | none :: r, k, j + 1 => by simp only [lt_fs, List.set_cons_succ]; rw [lt_fs_setr ad f v r (k + 1) j]
def lt_fok (N : Nat) (fs : List (Option Value)) : Prop := ∀ (k : Nat) (v : Value), fs[k]? = some (some v) → lt_sv N v
theorem lt_fs_same {N : Nat} {ad ad' : Nat → Nat} (he : ∀ a, a < N → ad' a = ad a) (f : Nat → Int32) : ∀ (fs : List (Option Value)) (k : Nat), lt_fok N fs → lt_fs ad' f k fs = lt_fs ad f k fs
  | [], k, _ => rfl
  | some v :: r, k, h => by
    simp only [lt_fs]
    rw [(h 0 v rfl).same he, lt_fs_same he f r (k + 1) (fun j w hj => h (j + 1) w (by simpa using hj))]
  | none :: r, k, h => by
    simp only [lt_fs]
    rw [lt_fs_same he f r (k + 1) (fun j w hj => h (j + 1) w (by simpa using hj))]
/-- a cell out of its shape and the store's row -/
def lt_cell (dA : Nat → ClassId) (ad : Nat → Nat) (c : lt_C) (f : Nat → Int32) : va_E := match c with
  | .inl q => .inl (dA q.1, q.2, .inl f)
  | .inr (.inl rs) => .inl (dA 3, rs.length, .inr (.inr (.inr (.inr (fun k => (rs.getD k none).map ad)))))
  | .inr (.inr q) => .inr (q.1, lt_fs ad f 0 q.2)
def lt_cok (N : Nat) (c : lt_C) : Prop := match c with
  | .inl _ => True
  | .inr (.inl rs) => ∀ (k a : Nat), rs.getD k none = some a → a < N
  | .inr (.inr q) => lt_fok N q.2
def lt_hok (N : Nat) (sh : lt_H) : Prop := ∀ (k : Nat) (c : lt_C), sh[k]? = some c → lt_cok N c
theorem lt_cok.mono {N N' : Nat} {c : lt_C} (hN : N ≤ N') (h : lt_cok N c) : lt_cok N' c := by
  rcases c with q | rs | q
  · exact trivial
  · exact fun k a e => Nat.lt_of_lt_of_le (h k a e) hN
  · exact fun k v e => (h k v e).mono hN
theorem lt_cell_same {N : Nat} {ad ad' : Nat → Nat} (he : ∀ a, a < N → ad' a = ad a) (dA : Nat → ClassId) (c : lt_C) (f : Nat → Int32) (h : lt_cok N c) : lt_cell dA ad' c f = lt_cell dA ad c f := by
  rcases c with q | rs | q
  · rfl
  · show Sum.inl (dA 3, rs.length, Sum.inr (Sum.inr (Sum.inr (Sum.inr _)))) = Sum.inl (dA 3, rs.length, Sum.inr (Sum.inr (Sum.inr (Sum.inr _))))
    congr 7
    funext k
    cases e : rs.getD k none with
    | none => rfl
    | some a => exact congrArg some (he a (h k a e))
  · show Sum.inr (q.1, lt_fs ad' f 0 q.2) = Sum.inr (q.1, lt_fs ad f 0 q.2)
    rw [lt_fs_same he f q.2 0 h]
def lt_w (dA : Nat → ClassId) (ad : Nat → Nat) (σ : lt_S) : Nat → lt_H → va_W
  | _, [] => []
  | k, c :: r => (ad k, lt_cell dA ad c (σ k)) :: lt_w dA ad σ (k + 1) r
theorem lt_w_get (dA : Nat → ClassId) (ad : Nat → Nat) (σ : lt_S) : ∀ (sh : lt_H) (k i : Nat), (lt_w dA ad σ k sh)[i]? = (sh[i]?).map (fun c => (ad (k + i), lt_cell dA ad c (σ (k + i))))
  | [], k, i => by simp [lt_w]
  | c :: r, k, 0 => by simp [lt_w]
  | c :: r, k, i + 1 => by
    simp only [lt_w, List.getElem?_cons_succ]
    rw [lt_w_get dA ad σ r (k + 1) i, show k + 1 + i = k + (i + 1) by omega]
theorem lt_w_len (dA : Nat → ClassId) (ad : Nat → Nat) (σ : lt_S) : ∀ (sh : lt_H) (k : Nat), (lt_w dA ad σ k sh).length = sh.length
  | [], k => rfl
  | c :: r, k => by simp [lt_w, lt_w_len dA ad σ r]
theorem lt_w_ext {dA : Nat → ClassId} {ad : Nat → Nat} {σ σ' : lt_S} : ∀ (sh : lt_H) (k : Nat), (∀ b, k ≤ b → b < k + sh.length → σ b = σ' b) → lt_w dA ad σ k sh = lt_w dA ad σ' k sh
  | [], k, _ => rfl
  | c :: r, k, h => by
    simp only [lt_w]
    rw [h k (Nat.le_refl _) (by simp), lt_w_ext r (k + 1) (fun b h1 h2 => h b (by omega) (by simp; omega))]
theorem lt_w_set {dA : Nat → ClassId} {ad : Nat → Nat} {σ : lt_S} (c' : lt_C) (f : Nat → Int32) : ∀ (sh : lt_H) (k i : Nat), (lt_w dA ad σ k sh).set i (ad (k + i), lt_cell dA ad c' f) = lt_w dA ad (fun b => if b = k + i then f else σ b) k (sh.set i c')
  | [], k, i => by simp [lt_w]
  | c :: r, k, 0 => by
    simp only [lt_w, List.set_cons_zero, Nat.add_zero, if_pos]
    congr 1
    exact lt_w_ext r (k + 1) (fun b h1 h2 => (if_neg (by omega)).symm)
  | c :: r, k, i + 1 => by
    simp only [lt_w, List.set_cons_succ]
    rw [show k + (i + 1) = k + 1 + i by omega, lt_w_set c' f r (k + 1) i, if_neg (by omega)]
theorem lt_w_push {dA : Nat → ClassId} {ad : Nat → Nat} {σ : lt_S} (c : lt_C) : ∀ (sh : lt_H) (k : Nat), lt_w dA ad σ k (sh ++ [c]) = lt_w dA ad σ k sh ++ [(ad (k + sh.length), lt_cell dA ad c (σ (k + sh.length)))]
  | [], k => by simp [lt_w]
  | a :: r, k => by
    simp only [List.cons_append, lt_w]
    rw [lt_w_push c r (k + 1), List.length_cons, show k + 1 + r.length = k + (r.length + 1) by omega]
theorem lt_w_same {N : Nat} {ad ad' : Nat → Nat} (he : ∀ a, a < N → ad' a = ad a) {dA : Nat → ClassId} {σ : lt_S} : ∀ (sh : lt_H) (k : Nat), k + sh.length ≤ N → lt_hok N sh → lt_w dA ad' σ k sh = lt_w dA ad σ k sh
  | [], k, _, _ => rfl
  | c :: r, k, hk, h => by
    simp only [lt_w]
    simp only [List.length_cons] at hk
    rw [he k (by omega), lt_cell_same he dA c (σ k) (h 0 c rfl), lt_w_same he r (k + 1) (by omega) (fun j x hj => h (j + 1) x (by simpa using hj))]
/-- the store with one number changed -/
def lt_up (σ : lt_S) (a k : Nat) (x : Int32) : lt_S := fun b => if b = a then upd (σ a) k x else σ b
/-- the store with one row changed -/
def lt_ur (σ : lt_S) (a : Nat) (f : Nat → Int32) : lt_S := fun b => if b = a then f else σ b
def lt_tys (dA : Nat → ClassId) : List (ClassId × FieldType) := [(dA 0, .int), (dA 1, .char), (dA 2, .boolean), (dA 3, .object RX2)]
def lt_A (ad : Nat → Nat) (n sz : Nat) : Nat → Prop := fun q => (∃ a, a < n ∧ ad (10 + a) = q) ∨ sz ≤ q
