/-! the judgement: what the machine's context is, and what it means that the machine goes on from a place -/
def lt_t0 : String := "yard 2,3;path 0,0,1;path 0,1,1,2;path 0,2,1,2,3;path 1,0,4,5;path 1,1,4;path 1,2,3;come 0,1,10,20,1;come 1,0,12,18,9;come 0,0,15,25,1;come 1,1,22,30,0;span 1;"
def lt_t1 : String := "yard path come pair span "
def lt_byt : List (List Int32) := [lt_t0.toList.map (fun c => Int32.ofNat c.toNat), lt_t1.toList.map (fun c => Int32.ofNat c.toNat)]
def lt_len : List Nat := [158, 25]
def lt_tb : List Cond := lw_tbl.filter goodWord
/-- words that are carried by hand: the nest mates' constructors, the class of rows of Plan -/
def lt_N (U : State) : Prop := va_Nw (.methodLinkNest RX7 9 yX5_init RX7) U ∧ va_Nw (.methodLinkNest RX7 18 yX6_init RX7) U ∧ va_Nw (.methodLinkNest RX7 25 yX2_init RX7) U ∧ va_Nw (.methodLinkNest RX1 24 yX2_init RX7) U ∧ va_AO RX2 U
/-- what lies outside the world: 0 the script, 1 and 2 the texts, 3 and 4 their bytes, 5 a formatter of the JDK's (or null) -/
def lt_X (ad : Nat → Nat) (xl : Nat) (xs : Nat → Int32) (A : Nat → Prop) (U : State) (H : Heap) : Prop :=
  va_X (ad 0) xl xs U H ∧ ad 0 < H.size ∧ ¬ A (ad 0) ∧ vk_S 2 lt_len lt_byt (fun i => ad (1 + i)) (fun i => ad (3 + i)) A U H ∧ vk_R RX7 67 lt_t0 (ad 1) U ∧ vk_R RX3 55 lt_t1 (ad 2) U ∧ va_Z RJ0 "COMPACT_STRINGS" "Z" (.int 1) A U H ∧
  (va_Z RJ3 "SIOOBE_FORMATTER" "Ljava/util/function/BiFunction;" .null A U H ∨ va_Z RJ3 "SIOOBE_FORMATTER" "Ljava/util/function/BiFunction;" (.ref (ad 5)) A U H) ∧ lt_N U
def lt_Cx (M : lt_M) (d mc ms : Nat) (R : Room) (p : Program) (s : State) (m : MethodId) (args : Array Value) (meth : Method) (c : Code) (D : va_G) (dA : Nat → ClassId) (A : Nat → Prop) (ad0 : Nat → Nat) (xl : Nat) (xs : Nat → Int32) : Prop :=
  CallFix p m c M.2.1 M.2.2.1 s args lt_tb M.1.cls ∧ meth.sig.returnType = M.2.2.2 ∧ meth.locks = false ∧ (M.1.name = "<init>" → meth.name = "<init>") ∧ va_K D vwCl (lt_tys dA) s ∧ (∀ q, s.heap.size ≤ q → A q) ∧ (d ≤ R.frames ∧ 40 * d ≤ R.locals ∧ mc ≤ R.cells ∧ ms ≤ R.slots) ∧ lt_X ad0 xl xs A s s.heap
def lt_Wd (D : va_G) (dA : Nat → ClassId) (ad0 ad : Nat → Nat) (A : Nat → Prop) (N0 : Nat) (sh : lt_H) (σ : lt_S) (s : State) (H : Heap) (locs : List Loc) : Prop :=
  (∀ a, a < 10 + N0 → ad a = ad0 a) ∧ N0 ≤ sh.length ∧ lt_hok (10 + sh.length) sh ∧ va_P D vwCl (lt_w dA ad σ 10 sh) H ∧ va_D A (lt_w dA ad σ 10 sh) ∧ va_S A s.heap H locs
def lt_lv (ad : Nat → Nat) (ls : Array Slot) (nL N : Nat) (L : List (Option Value)) : Prop :=
  (∃ lv, lv_has ls nL lv ∧ ∀ (i : Nat) (v : Value), L[i]? = some (some v) → (i, lt_tr ad v) ∈ lv) ∧ (∀ (i : Nat) (v : Value), L[i]? = some (some v) → lt_sv N v)
abbrev lt_L : Type := Launch × Nat × (Nat → Int32)
def lt_ret (l : lt_L) (mc ms : Nat) (M : lt_M) (Q : lt_Q) (p : Program) (e : Env) (R : Room) (s : State) (m : MethodId) (args : Array Value) (below : List Frame) (meth : Method) (c : Code) (Z : State → Prop) (D : va_G) (dA : Nat → ClassId) (ad0 : Nat → Nat) (A : Nat → Prop) (N0 : Nat) : Prop :=
  ∀ (r : Option Int32) (sh' : lt_H) (σ' : lt_S) (ad' : Nat → Nat) (H' : Heap) (locs' : List Loc) (pc' : Nat) (ls' : Array Slot), Q r sh' σ' → lt_Wd D dA ad0 ad' A N0 sh' σ' s H' locs' →
    (match r with
      | none => M.2.2.2 = none ∧ decode M.2.1 pc' = .ok (.return_, 1)
      | some x => ∃ ty, M.2.2.2 = some ty ∧ narrow ty (.int x) = .int x ∧ decode M.2.1 pc' = .ok (.ireturn, 1)) →
    W p l.1 e R s m args below meth c H' locs' mc ms Z (F0 m pc' ls' (r.toList.map Value.int))
def lt_G (l : lt_L) (d mc ms : Nat) (M : lt_M) (ck cn : Nat) (sh : lt_H) (σ : lt_S) (pc : Nat) (L : List (Option Value)) (st : List Value) (Q : lt_Q) : Prop :=
  ∀ (p : Program) (e : Env) (R : Room) (s : State) (m : MethodId) (args : Array Value) (below : List Frame) (meth : Method) (c : Code) (H : Heap) (locs : List Loc) (Z : State → Prop) (D : va_G) (dA : Nat → ClassId) (ad0 ad : Nat → Nat) (A : Nat → Prop) (N0 : Nat) (ls : Array Slot),
    lt_Cx M d mc ms R p s m args meth c D dA A ad0 l.2.1 l.2.2 → lt_Wd D dA ad0 ad A N0 sh σ s H locs → lt_lv ad ls M.2.2.1 (10 + sh.length) L → lt_sok (10 + sh.length) st → lt_ret l mc ms M Q p e R s m args below meth c Z D dA ad0 A N0 →
    W p l.1 e R s m args below meth c H locs ck cn Z (F0 m pc ls (st.map (lt_tr ad)))
/-! a method's contract in these words -/
def lt_ws (M : lt_M) : List Cond := Cond.code M.1 M.2.1 M.2.2.1 M.2.2.2 :: lt_tb
def lt_rm (d mc ms : Nat) : Jvm.Room := { frames := d, cells := mc, slots := ms, locals := 40 * d }
def lt_pre (D : va_G) (dA : Nat → ClassId) (ad : Nat → Nat) (xl : Nat) (xs : Nat → Int32) (sz : Nat) (sh : lt_H) (σ : lt_S) (U : State) : Prop :=
  U.heap.size = sz ∧ va_P D vwCl (lt_w dA ad σ 10 sh) U.heap ∧ va_K D vwCl (lt_tys dA) U ∧ va_D (fun _ => True) (lt_w dA ad σ 10 sh) ∧ lt_hok (10 + sh.length) sh ∧ lt_X ad xl xs (lt_A ad sh.length sz) U U.heap
def lt_post (Q : lt_Q) (D : va_G) (dA : Nat → ClassId) (ad : Nat → Nat) (n : Nat) (A : Nat → Prop) : Array Value → State → Outcome → State → Prop := fun _ st o t =>
  (∃ (r : Option Int32) (sh' : lt_H) (σ' : lt_S) (ad' : Nat → Nat), Q r sh' σ' ∧ o = .returned (r.map Value.int) ∧ (∀ a, a < 10 + n → ad' a = ad a) ∧ n ≤ sh'.length ∧ lt_hok (10 + sh'.length) sh' ∧ va_P D vwCl (lt_w dA ad' σ' 10 sh') t.heap ∧ va_D A (lt_w dA ad' σ' 10 sh')) ∧ va_F A st t
def lt_R (l : lt_L) (d mc ms : Nat) (M : lt_M) (sh : lt_H) (σ : lt_S) (as : List Value) (Q : lt_Q) : Prop :=
  ∀ (D : va_G) (dA : Nat → ClassId) (ad : Nat → Nat) (sz : Nat), lt_sok (10 + sh.length) as →
    Met l.1 M.1 (lt_ws M) (lt_rm d mc ms) (va_Pc (as.map (lt_tr ad)) (lt_pre D dA ad l.2.1 l.2.2 sz sh σ)) (lt_post Q D dA ad sh.length (lt_A ad sh.length sz)) mc ms (lt_A ad sh.length sz)
theorem lt_entry (ad : Nat → Nat) {N : Nat} : ∀ (as : List Value) (i j : Nat) (v : Value), lt_sok N as → as[j]? = some v → (i + j, lt_tr ad v) ∈ lv_args i (as.map (lt_tr ad))
  | [], i, j, v, _, h => by simp at h
  | a :: r, i, 0, v, hs, h => by
    simp only [List.getElem?_cons_zero, Option.some.injEq] at h
    subst h
    simp [lv_args]
  | a :: r, i, j + 1, v, hs, h => by
    simp only [List.getElem?_cons_succ] at h
    have := lt_entry ad r (i + 1) j v hs.2 h
    simp only [List.map_cons, lv_args, List.mem_cons]
    right
    rw [if_neg (by rw [hs.1.cat ad]; decide), show i + (j + 1) = i + 1 + j by omega]
    exact this
theorem lt_sl {N : Nat} (ad : Nat → Nat) : ∀ (as : List Value), lt_sok N as → (lg_sl (as.map (lt_tr ad))).length = as.length
  | [], _ => rfl
  | a :: r, h => by
    have := lt_sl ad r h.2
    unfold lg_sl at this ⊢
    rw [List.map_cons, List.flatMap_cons, if_neg (by rw [h.1.cat ad]; decide), List.length_append, this]
    simp
    omega
theorem lt_D_self {ad : Nat → Nat} {A : Nat → Prop} {dA : Nat → ClassId} {σ : lt_S} {sh : lt_H} {sz : Nat} (h : va_D A (lt_w dA ad σ 10 sh)) : va_D (lt_A ad sh.length sz) (lt_w dA ad σ 10 sh) := by
  refine ⟨h.1, fun k q hk => Or.inl ?_⟩
  rw [lt_w_get] at hk
  cases e : sh[k]? with
  | none => rw [e] at hk; cases hk
  | some c =>
    rw [e] at hk
    cases hk
    exact ⟨k, (List.getElem?_eq_some_iff.mp e).1, rfl⟩
theorem lt_R.of {l : lt_L} {d mc ms : Nat} {M : lt_M} {sh : lt_H} {σ : lt_S} {as : List Value} {Q : lt_Q} (L : List (Option Value)) (hy : plainName M.1.cls = true) (hL : as.map some ++ List.replicate (M.2.2.1 - as.length) none = L) (hlen : as.length ≤ M.2.2.1) (g : lt_G l d mc ms M 0 0 sh σ 0 L [] Q) : lt_R l d mc ms M sh σ as Q := by
  intro D dA ad sz hsok
  refine Met.ofW (cc := M.2.1) (maxL := M.2.2.1) (ret := M.2.2.2) hy rfl ?_
  intro p e s m args below meth c s₁ B hml hv
  obtain ⟨rfl, hsz, hP, hK, hD0, hok, hX⟩ := hv
  have hts0 := atoms_spec (ws := lt_ws M) B.pre
  have hts : ∀ w ∈ lt_tb, w.before (as.map (lt_tr ad)).toArray s = true := fun w hw => hts0 w (List.mem_cons_of_mem _ hw)
  have hown : s.vm.findClass M.1.cls = some m.cls := findClass_of_methodNamed B.named
  subst hsz
  have hD := lt_D_self (sz := s.heap.size) hD0
  have hS : va_S (lt_A ad sh.length s.heap.size) s.heap s.heap [] := va_S.rf
  have hl := lv_entry (as.map (lt_tr ad)) (n := M.2.2.1) (by rw [lt_sl ad as hsok]; exact hlen)
  rw [lg_entry_eq]
  generalize (lg_sl (as.map (lt_tr ad)) ++ List.replicate (M.2.2.1 - (lg_sl (as.map (lt_tr ad))).length) Slot.unset).toArray = ls at hl ⊢
  have hLv : ∀ (i : Nat) (v : Value), L[i]? = some (some v) → as[i]? = some v := by
    intro i v h
    rw [← hL] at h
    by_cases hi : i < as.length
    · rw [List.getElem?_append_left (by simpa using hi), List.getElem?_map] at h
      cases e : as[i]? with
      | none => rw [e] at h; cases h
      | some w => rw [e] at h; cases h; rfl
    · rw [List.getElem?_append_right (by simpa using hi)] at h
      have := List.mem_of_getElem? h
      simp at this
  have hsv : ∀ (as : List Value), lt_sok (10 + sh.length) as → ∀ (i : Nat) (v : Value), as[i]? = some v → lt_sv (10 + sh.length) v := by
    intro as
    induction as with
    | nil => intro _ i v h; simp at h
    | cons a r ih =>
      intro hs i v h
      cases i with
      | zero => simp only [List.getElem?_cons_zero, Option.some.injEq] at h; subst h; exact hs.1
      | succ i => exact ih hs.2 i v (by simpa using h)
  refine g p e _ s m _ below meth c s.heap [] _ D dA ad ad (lt_A ad sh.length s.heap.size) sh.length ls ⟨⟨B.exec, B.bytes, hml, hown, hts⟩, B.returns, B.notSynchronized, ?_, hK, fun q h => Or.inr h, ⟨Nat.le_refl _, Nat.le_refl _, Nat.le_refl _, Nat.le_refl _⟩, hX⟩ ⟨fun _ _ => rfl, Nat.le_refl _, hok, hP, hD, hS⟩ ⟨⟨_, hl, fun i v h => ?_⟩, fun i v h => hsv as hsok i v (hLv i v h)⟩ trivial ?_
  · intro hn
    rw [(name_of_methodNamed B.named B.method).1]
    exact hn
  · have := lt_entry ad as 0 i v hsok (hLv i v h)
    rwa [Nat.zero_add] at this
  · intro r sh' σ' ad' H' locs' pc' ls' hQ hWd hr
    obtain ⟨h1, h2, h3, h4, h5, h6⟩ := hWd
    cases r with
    | none =>
      obtain ⟨hn, hdg⟩ := hr
      exact W.vret B.exec B.bytes (B.returns.trans hn) (fun t ht _ => ⟨⟨none, sh', σ', ad', hQ, rfl, h1, h2, h3, by rw [ht]; exact h4, h5⟩, h6.F ht⟩) h6.2.2 hdg B.notSynchronized
    | some x =>
      obtain ⟨ty, hn, hnar, hdg⟩ := hr
      exact W.zret B.exec B.bytes (B.returns.trans hn) hnar (fun t ht _ => ⟨⟨some x, sh', σ', ad', hQ, rfl, h1, h2, h3, by rw [ht]; exact h4, h5⟩, h6.F ht⟩) h6.2.2 hdg B.notSynchronized
