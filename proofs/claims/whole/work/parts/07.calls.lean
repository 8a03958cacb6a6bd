/-! calls by contract, and new cells -/
/-- what the tables say of a method that is called: n parameters -/
def lt_me (M : lt_M) (n : Nat) : Prop := Cond.code M.1 M.2.1 M.2.2.1 M.2.2.2 ∈ lt_tb ∧ Cond.initialized M.1.cls ∈ lt_tb ∧ (M.1.cls ≠ "java/lang/invoke/MethodHandle" ∧ M.1.cls ≠ "java/lang/invoke/VarHandle") ∧ (parseMethodDescriptor M.1.desc).map (fun d => d.parameters.length) = some n ∧ M.2.2.1 ≤ 21
def lt_meV (M : lt_M) (n : Nat) : Prop := lt_me M n ∧ Cond.instanceMethod M.1 ∈ lt_tb ∧ Cond.selects M.1.cls M.1 M.1 ∈ lt_tb
def lt_meS (M : lt_M) (n : Nat) : Prop := lt_me M n ∧ Cond.static M.1 ∈ lt_tb
def lt_meI (M : lt_M) (n : Nat) : Prop := lt_me M n ∧ Cond.instanceMethod M.1 ∈ lt_tb ∧ M.1.name = "<init>"
theorem lt_goodIn {M M' : lt_M} {n : Nat} (h : lt_me M' n) : GoodIn lt_tb (lt_ws M') := by
  intro w hw
  have hm : w ∈ lt_tb := by
    rcases List.mem_cons.mp hw with e | e
    · rw [e]; exact h.1
    · exact e
  exact ⟨hm, good_of_word (List.mem_filter.mp hm).2⟩
section LT3
variable {l : lt_L} {d mc ms : Nat} {M : lt_M} {ck cn : Nat} {sh : lt_H} {σ : lt_S} {pc : Nat} {L : List (Option Value)} {st : List Value} {Q : lt_Q}
variable {p : Program} {e : Env} {R : Room} {s : State} {m : MethodId} {args : Array Value} {below : List Frame} {meth : Method} {c : Code} {H : Heap} {locs : List Loc} {Z : State → Prop} {D : va_G} {dA : Nat → ClassId} {ad0 ad : Nat → Nat} {A : Nat → Prop} {N0 : Nat} {ls : Array Slot}
theorem lt_inA (hA : ∀ q, s.heap.size ≤ q → A q) (Wd : lt_Wd D dA ad0 ad A N0 sh σ s H locs) : ∀ q, lt_A ad sh.length H.size q → A q := by
  intro q h
  rcases h with ⟨a, ha, rfl⟩ | h
  · have hc : sh[a]? = some sh[a] := List.getElem?_eq_getElem ha
    have := Wd.2.2.2.2.1.2 a (ad (10 + a), lt_cell dA ad sh[a] (σ (10 + a))) (by rw [lt_w_get, hc]; rfl)
    exact this
  · exact hA q (Nat.le_trans Wd.2.2.2.2.2.1 h)
theorem lt_X.move {ad1 : Nat → Nat} {xl : Nat} {xs : Nat → Int32} {A B : Nat → Prop} {s U : State} {H : Heap} (hX : lt_X ad0 xl xs A s s.heap) (had : ∀ a, a < 10 → ad1 a = ad0 a) (hW : s.WarmedH U.vm) (hU : U.heap = H) (hz : s.heap.size ≤ H.size) (hk : ∀ q : Nat, q < s.heap.size → ¬ A q → H[q]? = s.heap[q]?) (hB : ∀ q, B q → A q) : lt_X ad1 xl xs B U U.heap := by
  obtain ⟨h1, h2, h3, h4, h5, h6, h7, h8, h9⟩ := hX
  have e0 := had 0 (by omega)
  have e1 := had 1 (by omega)
  have e2 := had 2 (by omega)
  have e5 := had 5 (by omega)
  have eK : ∀ i, i < 2 → ad1 (1 + i) = ad0 (1 + i) := fun i hi => had _ (by omega)
  have eV : ∀ i, i < 2 → ad1 (3 + i) = ad0 (3 + i) := fun i hi => had _ (by omega)
  subst hU
  refine ⟨?_, ?_, ?_, ?_, ?_, ?_, ?_, ?_, ?_⟩
  · rw [e0]; exact (h1.moved hW.alike).kept (hk _ h2 h3)
  · rw [e0]; exact Nat.lt_of_lt_of_le h2 hz
  · rw [e0]; exact fun z => h3 (hB _ z)
  · have h := ((h4.moved hW.alike).kept hk).narrow hB
    refine ⟨fun i hi => ?_, fun i j hi hj z => ?_⟩
    · show va_O "java/lang/String" (ad1 (1 + i)) B U U.heap ∧ va_OF "java/lang/String" "coder" "B" (.int 0) (ad1 (1 + i)) B U U.heap ∧ va_OF "java/lang/String" "value" "[B" (.ref (ad1 (3 + i))) (ad1 (1 + i)) B U U.heap ∧ va_T .byte (ad1 (3 + i)) (lt_len.getD i 0) (fun j => .int ((lt_byt.getD i []).getD j 0)) B U U.heap
      rw [eK i hi, eV i hi]
      exact h.1 i hi
    · exact h.2 i j hi hj (by show ad0 (1 + i) = ad0 (1 + j); rw [← eK i hi, ← eK j hj]; exact z)
  · rw [e1]; exact h5.warm hW
  · rw [e2]; exact h6.warm hW
  · exact ((h7.moved hW.alike).kept hk).narrow hB
  · rw [e5]
    rcases h8 with h | h
    · exact Or.inl (((h.moved hW.alike).kept hk).narrow hB)
    · exact Or.inr (((h.moved hW.alike).kept hk).narrow hB)
  · exact ⟨h9.1.warmM hW, h9.2.1.warmM hW, h9.2.2.1.warmM hW, h9.2.2.2.1.warmM hW, h9.2.2.2.2.moved hW.alike⟩
theorem lt_callpre (C : lt_Cx M d mc ms R p s m args meth c D dA A ad0 l.2.1 l.2.2) (Wd : lt_Wd D dA ad0 ad A N0 sh σ s H locs) {U : State} (hU : U.heap = H) (hW : s.WarmedH U.vm) : lt_pre D dA ad l.2.1 l.2.2 H.size sh σ U := by
  refine ⟨by rw [hU], by rw [hU]; exact Wd.2.2.2.1, va_K.moved hW.alike C.2.2.2.2.1, Wd.2.2.2.2.1.weaken (fun _ _ _ _ => trivial), Wd.2.2.1, ?_⟩
  exact C.2.2.2.2.2.2.2.move (fun a ha => Wd.1 a (by omega)) hW hU Wd.2.2.2.2.2.1 Wd.2.2.2.2.2.2.1 (lt_inA C.2.2.2.2.2.1 Wd)
theorem lt_blind {as : List Value} {sz xl : Nat} {xs : Nat → Int32} : FrameBlind (va_Pc (as.map (lt_tr ad)) (lt_pre D dA ad xl xs sz sh σ)) := by
  intro a U g mk q
  obtain ⟨q0, q1, q2, q3, q4, q5, q6⟩ := q
  obtain ⟨h1, h2, h3, h4, h5, h6, h7, h8, h9⟩ := q6
  have hvm : U.vm.Alike (U.calling g mk a).vm := Vm.Alike.refl U.vm
  refine ⟨q0, q1, q2, va_K.moved (u := U) (U := U.calling g mk a) hvm q3, q4, q5, ?_⟩
  refine ⟨va_X.moved hvm h1, h2, h3, vk_S.moved hvm h4, vk_R.same rfl h5, vk_R.same rfl h6, va_Z.moved hvm h7, ?_, ⟨h9.1.same rfl rfl, h9.2.1.same rfl rfl, h9.2.2.1.same rfl rfl, h9.2.2.2.1.same rfl rfl, h9.2.2.2.2.moved hvm⟩⟩
  rcases h8 with h | h
  · exact Or.inl (va_Z.moved hvm h)
  · exact Or.inr (va_Z.moved hvm h)
/-- behind a call -/
theorem lt_after {st0 rest : List Value} {mc' ms' : Nat} {Q' : lt_Q} {a0 : Array Value} (C : lt_Cx M d mc ms R p s m args meth c D dA A ad0 l.2.1 l.2.2) (Wd : lt_Wd D dA ad0 ad A N0 sh σ s H locs)
    (hr : va_Run p l.1 e R s m args below meth c H locs ck cn mc' ms' (F0 m pc ls st0) rest (lt_post Q' D dA ad sh.length (lt_A ad sh.length H.size) a0) (lt_A ad sh.length H.size))
    (kk : ∀ (r : Option Int32) (sh' : lt_H) (σ' : lt_S) (ad' : Nat → Nat) (H1 : Heap) (locs1 : List Loc), Q' r sh' σ' → sh.length ≤ sh'.length → (∀ a, a < 10 + sh.length → ad' a = ad a) → lt_Wd D dA ad0 ad' A N0 sh' σ' s H1 locs1 → W p l.1 e R s m args below meth c H1 locs1 (ck + mc') (cn + ms') Z (F0 m (pc + 3) ls (r.toList.map Value.int ++ rest))) :
    W p l.1 e R s m args below meth c H locs ck cn Z (F0 m pc ls st0) := by
  intro T hT X
  obtain ⟨v, st₀, t, T', L9, h0, X', hL, e1, e2, ⟨⟨r, sh', σ', ad', hq, hv, had, hn, hok, hP, hD⟩, hz, hk⟩, stp⟩ := hr T hT X
  cases hv
  rw [h0] at hz hk
  have hin := lt_inA C.2.2.2.2.2.1 Wd
  have hS := Wd.2.2.2.2.2
  have key := kk r sh' σ' ad' T'.heap (locs ++ L9) hq hn had ⟨fun a ha => (had a (by have := Wd.2.1; omega)).trans (Wd.1 a ha), Nat.le_trans Wd.2.1 hn, hok, by rw [e1]; exact hP, hD.weaken (fun k q _ h => hin q.1 h),
    ⟨Nat.le_trans hS.1 (by rw [e1]; exact hz), fun q h1 h2 => by rw [e1, hk q (Nat.lt_of_lt_of_le h1 hS.1) (fun z => h2 (hin q z))]; exact hS.2.1 q h1 h2, fun q hq9 => by
      rcases List.mem_append.mp hq9 with h | h
      · exact hS.2.2 q h
      · exact hin _ (hL q h)⟩⟩
  obtain ⟨t2, a1, b1⟩ := key T' rfl X'
  refine ⟨t2, stp t2 ?_, b1⟩
  have : (r.map Value.int).toList ++ rest = r.toList.map Value.int ++ rest := by cases r <;> rfl
  show Steps p.tables e below (T'.setTop (F0 m (pc + 3) ls ((r.map Value.int).toList ++ rest))) t2
  rw [this]
  exact a1
theorem lt_lv.same {nL N : Nat} {ad' : Nat → Nat} {N' : Nat} (h : lt_lv ad ls nL N L) (he : ∀ a, a < N → ad' a = ad a) (hN : N ≤ N') : lt_lv ad' ls nL N' L := by
  obtain ⟨⟨lv, h1, h2⟩, h3⟩ := h
  exact ⟨⟨lv, h1, fun i v hi => by rw [(h3 i v hi).same he]; exact h2 i v hi⟩, fun i v hi => (h3 i v hi).mono hN⟩
theorem lt_ints (r : Option Int32) (ad : Nat → Nat) (st : List Value) : (r.toList.map Value.int ++ st).map (lt_tr ad) = r.toList.map Value.int ++ st.map (lt_tr ad) := by cases r <;> rfl
theorem lt_ints_ok {N : Nat} {r : Option Int32} {st : List Value} (h : lt_sok N st) : lt_sok N (r.toList.map Value.int ++ st) := by
  cases r
  · exact h
  · exact ⟨trivial, h⟩
theorem g_callV {a idx ci n mc' ms' pc2 : Nat} {M' : lt_M} {as stk : List Value} {fs : List (Option Value)} {Q' : lt_Q} (hR : lt_R l d mc' ms' M' sh σ (.ref a :: as) Q') (me : lt_meV M' n) (lk : Cond.methodLink M.1.cls idx M'.1 ∈ lt_tb) (hs : lt_at sh a = some (.inr (.inr (ci, fs)))) (hc : ∃ r, vwCl[ci]? = some r ∧ r.1 = M'.1.cls)
    (hn : as.length = n) (hstk : stk = as.reverse ++ .ref a :: st) (hst : st.length ≤ 8) (hcell : ck + mc' ≤ mc ∧ cn + ms' ≤ ms) (hd : decode M.2.1 pc = .ok (.invokevirtual idx, 3)) (he : pc + 3 = pc2)
    (kk : ∀ (r : Option Int32) (sh' : lt_H) (σ' : lt_S), Q' r sh' σ' → lt_G l (d + 1) mc ms M (ck + mc') (cn + ms') sh' σ' pc2 L (r.toList.map Value.int ++ st) Q) : lt_G l (d + 1) mc ms M ck cn sh σ pc L stk Q := by
  subst he
  subst hstk
  obtain ⟨i, rfl, hi⟩ := lt_at_get hs
  intro p e R s m args below meth c H locs Z D dA ad0 ad A N0 ls C Wd hl ho hr
  obtain ⟨r0, hc1, hc2⟩ := hc
  obtain ⟨me1, me2, me3⟩ := me
  have hts := C.1.2.2.2.2
  have hRm := C.2.2.2.2.2.2.1
  have ho2 := lt_sok.app.mp ho
  obtain ⟨lv, hlv, -⟩ := hl.1
  have hcw : CallW R s args M.1.cls M'.1.cls idx M'.1 M'.2.1 M'.2.2.1 M'.2.2.2 (lt_ws M') (lt_rm d mc' ms') mc' ms' n := by
    refine ⟨callB_of n hts (lt_goodIn (M := M) me1) rfl rfl rfl (hts _ me1.2.1) (hts _ lk) ⟨me1.2.2.1.1, me1.2.2.1.2, me1.2.2.2.1⟩ ⟨?_, ?_⟩, hts _ me2, hts _ me3⟩
    · show d + 1 ≤ R.frames; exact hRm.1
    · show 8 + (M'.2.2.1 + 11) + 40 * d ≤ R.locals
      have := me1.2.2.2.2
      omega
  have hrun := va_runV (b := ad (10 + i)) (As := as.map (lt_tr ad)) (rest := st.map (lt_tr ad)) (H := H) (locs := locs) (cells := ck) (slots := cn) (e := e) (below := below) (meth := meth) (g := F0 m pc ls ((as.reverse ++ .ref (10 + i) :: st).map (lt_tr ad))) C.1 (hR D dA ad H.size ⟨ho2.2.1, lt_sok.rev ho2.1⟩) hcw
    ⟨lt_blind, va_recv C.2.2.2.2.1 Wd.2.2.2.1 hc1 (q0 := i) (fs := lt_fs ad (σ (10 + i)) 0 fs) (by rw [lt_w_get, hi]; rfl) |>.imp (fun _ h => by rw [hc2] at h; exact h), fun U hU hW => ⟨rfl, lt_callpre C Wd hU hW⟩⟩ rfl (by rw [List.length_map]; exact hn) hlv.1 (by show List.map _ _ = _; rw [List.map_append, List.map_reverse]; rfl) (lv_room (by rw [ho2.2.2.cat ad]; exact hst)) hd ⟨by omega, by omega⟩
  refine lt_after C Wd hrun (fun r sh' σ' ad' H1 locs1 hq hn9 had Wd1 => ?_)
  have := kk r sh' σ' hq p e R s m args below meth c H1 locs1 Z D dA ad0 ad' A N0 ls C Wd1 (hl.same had (by omega)) (lt_ints_ok (ho2.2.2.mono (by omega))) hr
  rw [lt_ints, ho2.2.2.same had] at this
  exact this
theorem g_callS {idx n mc' ms' pc2 : Nat} {M' : lt_M} {as stk : List Value} {Q' : lt_Q} (hR : lt_R l d mc' ms' M' sh σ as Q') (me : lt_meS M' n) (lk : Cond.methodLink M.1.cls idx M'.1 ∈ lt_tb)
    (hn : as.length = n) (hstk : stk = as.reverse ++ st) (hst : st.length ≤ 8) (hcell : ck + mc' ≤ mc ∧ cn + ms' ≤ ms) (hd : decode M.2.1 pc = .ok (.invokestatic idx, 3)) (he : pc + 3 = pc2)
    (kk : ∀ (r : Option Int32) (sh' : lt_H) (σ' : lt_S), Q' r sh' σ' → lt_G l (d + 1) mc ms M (ck + mc') (cn + ms') sh' σ' pc2 L (r.toList.map Value.int ++ st) Q) : lt_G l (d + 1) mc ms M ck cn sh σ pc L stk Q := by
  subst he
  subst hstk
  intro p e R s m args below meth c H locs Z D dA ad0 ad A N0 ls C Wd hl ho hr
  obtain ⟨me1, me2⟩ := me
  have hts := C.1.2.2.2.2
  have hRm := C.2.2.2.2.2.2.1
  have ho2 := lt_sok.app.mp ho
  obtain ⟨lv, hlv, -⟩ := hl.1
  have hcw : CallB R s args M.1.cls idx M'.1 M'.2.1 M'.2.2.1 M'.2.2.2 (lt_ws M') (lt_rm d mc' ms') mc' ms' n := by
    refine callB_of n hts (lt_goodIn (M := M) me1) rfl rfl rfl (hts _ me1.2.1) (hts _ lk) ⟨me1.2.2.1.1, me1.2.2.1.2, me1.2.2.2.1⟩ ⟨?_, ?_⟩
    · show d + 1 ≤ R.frames; exact hRm.1
    · show 8 + (M'.2.2.1 + 11) + 40 * d ≤ R.locals
      have := me1.2.2.2.2
      omega
  have hrun := va_runS (As := as.map (lt_tr ad)) (rest := st.map (lt_tr ad)) (H := H) (locs := locs) (cells := ck) (slots := cn) (e := e) (below := below) (meth := meth) (g := F0 m pc ls ((as.reverse ++ st).map (lt_tr ad))) C.1 (hR D dA ad H.size (lt_sok.rev ho2.1)) ⟨hcw, hts _ me2⟩
    ⟨lt_blind, fun U hU hW => ⟨rfl, lt_callpre C Wd hU hW⟩⟩ rfl (by rw [List.length_map]; exact hn) hlv.1 (by show List.map _ _ = _; rw [List.map_append, List.map_reverse]) (lv_room (by rw [ho2.2.cat ad]; exact hst)) hd ⟨by omega, by omega⟩
  refine lt_after C Wd hrun (fun r sh' σ' ad' H1 locs1 hq hn9 had Wd1 => ?_)
  have := kk r sh' σ' hq p e R s m args below meth c H1 locs1 Z D dA ad0 ad' A N0 ls C Wd1 (hl.same had (by omega)) (lt_ints_ok (ho2.2.mono (by omega))) hr
  rw [lt_ints, ho2.2.same had] at this
  exact this
theorem g_callI {a idx n mc' ms' pc2 : Nat} {M' : lt_M} {as stk : List Value} {Q' : lt_Q} (hR : lt_R l d mc' ms' M' sh σ (.ref a :: as) Q') (hret : M'.2.2.2 = none) (me : lt_meI M' n) (lk : Cond.methodLink M.1.cls idx M'.1 ∈ lt_tb)
    (hn : as.length = n) (hstk : stk = as.reverse ++ .ref a :: st) (hst : st.length ≤ 8) (hcell : ck + mc' ≤ mc ∧ cn + ms' ≤ ms) (hd : decode M.2.1 pc = .ok (.invokespecial idx, 3)) (he : pc + 3 = pc2)
    (kk : ∀ (r : Option Int32) (sh' : lt_H) (σ' : lt_S), Q' r sh' σ' → lt_G l (d + 1) mc ms M (ck + mc') (cn + ms') sh' σ' pc2 L (r.toList.map Value.int ++ st) Q) : lt_G l (d + 1) mc ms M ck cn sh σ pc L stk Q := by
  subst he
  subst hstk
  intro p e R s m args below meth c H locs Z D dA ad0 ad A N0 ls C Wd hl ho hr
  obtain ⟨me1, me2, me3⟩ := me
  have hts := C.1.2.2.2.2
  have hRm := C.2.2.2.2.2.2.1
  have ho2 := lt_sok.app.mp ho
  obtain ⟨lv, hlv, -⟩ := hl.1
  obtain ⟨My, Mc, Ml, Mr⟩ := M'
  cases hret
  have hcw : CallB R s args M.1.cls idx My Mc Ml none (lt_ws (My, Mc, Ml, none)) (lt_rm d mc' ms') mc' ms' n := by
    refine callB_of n hts (lt_goodIn (M := M) me1) rfl rfl rfl (hts _ me1.2.1) (hts _ lk) ⟨me1.2.2.1.1, me1.2.2.1.2, me1.2.2.2.1⟩ ⟨?_, ?_⟩
    · show d + 1 ≤ R.frames; exact hRm.1
    · show 8 + (Ml + 11) + 40 * d ≤ R.locals
      have : Ml ≤ 21 := me1.2.2.2.2
      omega
  have hrun := va_runI (b := ad a) (As := as.map (lt_tr ad)) (rest := st.map (lt_tr ad)) (H := H) (locs := locs) (cells := ck) (slots := cn) (e := e) (below := below) (meth := meth) (g := F0 m pc ls ((as.reverse ++ .ref a :: st).map (lt_tr ad))) C.1 (hR D dA ad H.size ⟨ho2.2.1, lt_sok.rev ho2.1⟩) ⟨hcw, me3, hts _ me2⟩
    ⟨lt_blind, fun U hU hW => ⟨rfl, lt_callpre C Wd hU hW⟩⟩ rfl (by rw [List.length_map]; exact hn) hlv.1 (by show List.map _ _ = _; rw [List.map_append, List.map_reverse]; rfl) (lv_room (by rw [ho2.2.2.cat ad]; exact hst)) hd ⟨by omega, by omega⟩
  refine lt_after C Wd hrun (fun r sh' σ' ad' H1 locs1 hq hn9 had Wd1 => ?_)
  have := kk r sh' σ' hq p e R s m args below meth c H1 locs1 Z D dA ad0 ad' A N0 ls C Wd1 (hl.same had (by omega)) (lt_ints_ok (ho2.2.2.mono (by omega))) hr
  rw [lt_ints, ho2.2.2.same had] at this
  exact this
/-- the constructor of a nest mate -/
theorem g_callIN {a idx n mc' ms' pc2 : Nat} {host : String} {M' : lt_M} {as stk : List Value} {Q' : lt_Q} (hR : lt_R l d mc' ms' M' sh σ (.ref a :: as) Q') (hret : M'.2.2.2 = none) (me : lt_meI M' n) (lk : ∀ U, lt_N U → va_Nw (.methodLinkNest M.1.cls idx M'.1 host) U)
    (hn : as.length = n) (hstk : stk = as.reverse ++ .ref a :: st) (hst : st.length ≤ 8) (hcell : ck + mc' ≤ mc ∧ cn + ms' ≤ ms) (hd : decode M.2.1 pc = .ok (.invokespecial idx, 3)) (he : pc + 3 = pc2)
    (kk : ∀ (r : Option Int32) (sh' : lt_H) (σ' : lt_S), Q' r sh' σ' → lt_G l (d + 1) mc ms M (ck + mc') (cn + ms') sh' σ' pc2 L (r.toList.map Value.int ++ st) Q) : lt_G l (d + 1) mc ms M ck cn sh σ pc L stk Q := by
  subst he
  subst hstk
  intro p e R s m args below meth c H locs Z D dA ad0 ad A N0 ls C Wd hl ho hr
  obtain ⟨me1, me2, me3⟩ := me
  have hts := C.1.2.2.2.2
  have hRm := C.2.2.2.2.2.2.1
  have ho2 := lt_sok.app.mp ho
  obtain ⟨lv, hlv, -⟩ := hl.1
  obtain ⟨My, Mc, Ml, Mr⟩ := M'
  cases hret
  have hcw : va_CN R s args M.1.cls idx My host Mc Ml none (lt_ws (My, Mc, Ml, none)) (lt_rm d mc' ms') mc' ms' n := by
    refine va_cnB n hts (lt_goodIn (M := M) me1) rfl rfl rfl (lk s C.2.2.2.2.2.2.2.2.2.2.2.2.2.2.2) (hts _ me1.2.1) ⟨me1.2.2.1.1, me1.2.2.1.2, me1.2.2.2.1⟩ ⟨?_, ?_⟩
    · show d + 1 ≤ R.frames; exact hRm.1
    · show 8 + (Ml + 11) + 40 * d ≤ R.locals
      have : Ml ≤ 21 := me1.2.2.2.2
      omega
  have hrun := va_runIN (b := ad a) (As := as.map (lt_tr ad)) (rest := st.map (lt_tr ad)) (H := H) (locs := locs) (cells := ck) (slots := cn) (e := e) (below := below) (meth := meth) (g := F0 m pc ls ((as.reverse ++ .ref a :: st).map (lt_tr ad))) C.1 (hR D dA ad H.size ⟨ho2.2.1, lt_sok.rev ho2.1⟩) ⟨hcw, me3, hts _ me2⟩
    ⟨lt_blind, fun U hU hW => ⟨rfl, lt_callpre C Wd hU hW⟩⟩ rfl (by rw [List.length_map]; exact hn) hlv.1 (by show List.map _ _ = _; rw [List.map_append, List.map_reverse]; rfl) (lv_room (by rw [ho2.2.2.cat ad]; exact hst)) hd ⟨by omega, by omega⟩
  refine lt_after C Wd hrun (fun r sh' σ' ad' H1 locs1 hq hn9 had Wd1 => ?_)
  have := kk r sh' σ' hq p e R s m args below meth c H1 locs1 Z D dA ad0 ad' A N0 ls C Wd1 (hl.same had (by omega)) (lt_ints_ok (ho2.2.2.mono (by omega))) hr
  rw [lt_ints, ho2.2.2.same had] at this
  exact this
/-- a method of a text's: the receiver lies outside the world -/
theorem g_callX {i idx n mc' ms' pc2 : Nat} {M' : lt_M} {as stk : List Value} {Q' : lt_Q} (hi : i < 2) (hR : lt_R l d mc' ms' M' sh σ (.ref (1 + i) :: as) Q') (me : lt_meV M' n) (lk : Cond.methodLink M.1.cls idx M'.1 ∈ lt_tb) (hcl : M'.1.cls = "java/lang/String")
    (hn : as.length = n) (hstk : stk = as.reverse ++ .ref (1 + i) :: st) (hst : st.length ≤ 8) (hcell : ck + mc' ≤ mc ∧ cn + ms' ≤ ms) (hd : decode M.2.1 pc = .ok (.invokevirtual idx, 3)) (he : pc + 3 = pc2)
    (kk : ∀ (r : Option Int32) (sh' : lt_H) (σ' : lt_S), Q' r sh' σ' → lt_G l (d + 1) mc ms M (ck + mc') (cn + ms') sh' σ' pc2 L (r.toList.map Value.int ++ st) Q) : lt_G l (d + 1) mc ms M ck cn sh σ pc L stk Q := by
  subst he
  subst hstk
  intro p e R s m args below meth c H locs Z D dA ad0 ad A N0 ls C Wd hl ho hr
  obtain ⟨me1, me2, me3⟩ := me
  have hts := C.1.2.2.2.2
  have hRm := C.2.2.2.2.2.2.1
  have ho2 := lt_sok.app.mp ho
  obtain ⟨lv, hlv, -⟩ := hl.1
  have e0 : ad (1 + i) = ad0 (1 + i) := Wd.1 _ (by omega)
  have hS := C.2.2.2.2.2.2.2.2.2.2.1
  have hrc := vk_recv (i := i) hS hi Wd.2.2.2.2.2
  have hcw : CallW R s args M.1.cls M'.1.cls idx M'.1 M'.2.1 M'.2.2.1 M'.2.2.2 (lt_ws M') (lt_rm d mc' ms') mc' ms' n := by
    refine ⟨callB_of n hts (lt_goodIn (M := M) me1) rfl rfl rfl (hts _ me1.2.1) (hts _ lk) ⟨me1.2.2.1.1, me1.2.2.1.2, me1.2.2.2.1⟩ ⟨?_, ?_⟩, hts _ me2, hts _ me3⟩
    · show d + 1 ≤ R.frames; exact hRm.1
    · show 8 + (M'.2.2.1 + 11) + 40 * d ≤ R.locals
      have := me1.2.2.2.2
      omega
  have hrun := va_runV (b := ad (1 + i)) (As := as.map (lt_tr ad)) (rest := st.map (lt_tr ad)) (H := H) (locs := locs) (cells := ck) (slots := cn) (e := e) (below := below) (meth := meth) (g := F0 m pc ls ((as.reverse ++ .ref (1 + i) :: st).map (lt_tr ad))) C.1 (hR D dA ad H.size ⟨ho2.2.1, lt_sok.rev ho2.1⟩) hcw
    ⟨lt_blind, by rw [e0, hcl]; exact hrc, fun U hU hW => ⟨rfl, lt_callpre C Wd hU hW⟩⟩ rfl (by rw [List.length_map]; exact hn) hlv.1 (by show List.map _ _ = _; rw [List.map_append, List.map_reverse]; rfl) (lv_room (by rw [ho2.2.2.cat ad]; exact hst)) hd ⟨by omega, by omega⟩
  refine lt_after C Wd hrun (fun r sh' σ' ad' H1 locs1 hq hn9 had Wd1 => ?_)
  have := kk r sh' σ' hq p e R s m args below meth c H1 locs1 Z D dA ad0 ad' A N0 ls C Wd1 (hl.same had (by omega)) (lt_ints_ok (ho2.2.2.mono (by omega))) hr
  rw [lt_ints, ho2.2.2.same had] at this
  exact this
/-! new cells -/
theorem lt_grow {q : Nat} {c0 : lt_C} (Wd : lt_Wd D dA ad0 ad A N0 sh σ s H locs) (hc0 : lt_cok (10 + sh.length) c0) {H1 : Heap} {f : Nat → Int32}
    (hP : va_P D vwCl (lt_w dA ad σ 10 sh ++ [(q, lt_cell dA ad c0 f)]) H1) (hD : va_D A (lt_w dA ad σ 10 sh ++ [(q, lt_cell dA ad c0 f)])) (hS : va_S A s.heap H1 locs) :
    lt_Wd D dA ad0 (fun a => if a = 10 + sh.length then q else ad a) A N0 (sh ++ [c0]) (lt_ur σ (10 + sh.length) f) s H1 locs ∧ ∀ a, a < 10 + sh.length → (fun a => if a = 10 + sh.length then q else ad a) a = ad a := by
  have he : ∀ a, a < 10 + sh.length → (fun a => if a = 10 + sh.length then q else ad a) a = ad a := fun a ha => if_neg (by omega)
  have hw : lt_w dA (fun a => if a = 10 + sh.length then q else ad a) (lt_ur σ (10 + sh.length) f) 10 (sh ++ [c0]) = lt_w dA ad σ 10 sh ++ [(q, lt_cell dA ad c0 f)] := by
    rw [lt_w_push, lt_w_same he sh 10 (Nat.le_refl _) Wd.2.2.1]
    rw [lt_w_ext (σ := lt_ur σ (10 + sh.length) f) (σ' := σ) sh 10 (fun b _ h2 => if_neg (by omega))]
    rw [lt_cell_same he dA c0 _ hc0]
    simp [lt_ur]
  refine ⟨⟨fun a ha => (he a (by have := Wd.2.1; omega)).trans (Wd.1 a ha), by rw [List.length_append]; have := Wd.2.1; omega, ?_, by rw [hw]; exact hP, by rw [hw]; exact hD, hS⟩, he⟩
  intro k c hk
  rw [List.length_append]
  by_cases hk2 : k < sh.length
  · rw [List.getElem?_append_left hk2] at hk
    exact (Wd.2.2.1 k c hk).mono (by omega)
  · rw [List.getElem?_append_right (by omega)] at hk
    have hz : k - sh.length < 1 := (List.getElem?_eq_some_iff.mp hk).1
    rw [show k - sh.length = 0 by omega] at hk
    cases hk
    exact hc0.mono (by omega)
theorem g_newa {n N t idx pc2 : Nat} {ty : FieldType} {aty : ArrayType} (ht : (lt_tys (fun _ => 0))[t]? = some (0, ty)) (ht3 : t < 3) (hty : newarray.typeOf aty = ty) (hdef : defaultValue ty = .int 0) (lk : Cond.arrayClass ty ∈ lt_tb) (hn : N < 2 ^ 20) (hb : N * componentBytes ty ≤ 536870912) (hcell : ck + 1 ≤ mc ∧ cn + N ≤ ms) (hd : decode M.2.1 pc = .ok (.newarray aty, 2)) (he : pc + 2 = pc2)
    (kk : lt_G l d mc ms M (ck + 1) (cn + N) (sh ++ [.inl (t, N)]) (lt_ur σ (10 + sh.length) (fun _ => 0)) pc2 L (.ref (10 + sh.length) :: st) Q) : lt_G l d mc ms M ck cn sh σ pc L (.int (nI N) :: st) Q := by
  subst he
  intro p e R s m args below meth c H locs Z D dA ad0 ad A N0 ls C Wd hl ho hr
  have hts := C.1.2.2.2.2
  have hRm := C.2.2.2.2.2.2.1
  have e1 : (nI N).toNatClampNeg = N := nI_clamp (by omega)
  refine va_newa (atype := aty) (ty := ty) (a0 := (N, .inl (fun _ => 0))) (N' := N) C.1.1 C.1.2.1 (by rw [hty]; exact hts _ lk) hty C.2.2.2.2.1 Wd.2.2.2.1 Wd.2.2.2.2.1 Wd.2.2.2.2.2 C.2.2.2.2.2.1 (fun cA => by rw [hdef]; rfl) (nI_pos (by omega)) e1 hb (by omega) (by omega) hd (fun q cA H1 hK hP hD hS => ?_)
  have hcA : cA = dA t := by
    have h1 := (hK.2 4 (cA, ty) rfl).2
    have h2 := (C.2.2.2.2.1.2 t (dA t, ty) (by rcases (show t = 0 ∨ t = 1 ∨ t = 2 by omega) with rfl | rfl | rfl <;> cases ht <;> rfl)).2
    rcases (show t = 0 ∨ t = 1 ∨ t = 2 by omega) with rfl | rfl | rfl <;> cases ht <;> exact Option.some.inj (h1.symm.trans h2)
  subst hcA
  obtain ⟨Wd1, had⟩ := lt_grow (c0 := .inl (t, N)) (f := fun _ => 0) Wd trivial hP hD hS
  have := kk p e R s m args below meth c H1 locs Z D dA ad0 _ A N0 ls C Wd1 (hl.same had (by rw [List.length_append]; omega)) ⟨by show 10 + sh.length < _; rw [List.length_append]; simp, ho.2.mono (by rw [List.length_append]; omega)⟩ hr
  rw [List.map_cons, ho.2.same had] at this
  rw [show lt_tr (fun a => if a = 10 + sh.length then q else ad a) (.ref (10 + sh.length)) = .ref q from congrArg Value.ref (if_pos rfl)] at this
  exact this
theorem g_newq {N idx pc2 : Nat} (lk : Cond.classLink M.1.cls idx RX2 ∈ lt_tb) (hn : N < 2 ^ 20) (hcell : ck + 1 ≤ mc ∧ cn + N ≤ ms) (hd : decode M.2.1 pc = .ok (.anewarray idx, 3)) (he : pc + 3 = pc2)
    (kk : lt_G l d mc ms M (ck + 1) (cn + N) (sh ++ [.inr (.inl (List.replicate N none))]) σ pc2 L (.ref (10 + sh.length) :: st) Q) : lt_G l d mc ms M ck cn sh σ pc L (.int (nI N) :: st) Q := by
  subst he
  intro p e R s m args below meth c H locs Z D dA ad0 ad A N0 ls C Wd hl ho hr
  have hts := C.1.2.2.2.2
  have hRm := C.2.2.2.2.2.2.1
  have e1 : (nI N).toNatClampNeg = N := nI_clamp (by omega)
  refine va_newq (C := RX2) (N' := N) C.1.1 C.1.2.1 C.1.2.2.2.1 (hts _ lk) C.2.2.2.2.2.2.2.2.2.2.2.2.2.2.2.2.2.2.2 C.2.2.2.2.1 Wd.2.2.2.1 Wd.2.2.2.2.1 Wd.2.2.2.2.2 C.2.2.2.2.2.1 (nI_pos (by omega)) e1 (by omega) (by omega) (by omega) hd (fun q cA H1 hK hP hD hS => ?_)
  have hcA : cA = dA 3 := by
    obtain ⟨k1, c1, -, -, -, h1⟩ := (hK.2 4 (cA, .object RX2) rfl).2
    obtain ⟨k2, c2, -, -, -, h2⟩ := (C.2.2.2.2.1.2 3 (dA 3, .object RX2) rfl).2
    exact Option.some.inj (h1.symm.trans h2)
  subst hcA
  have hce : lt_cell dA ad (.inr (.inl (List.replicate N none))) (σ (10 + sh.length)) = .inl (dA 3, N, .inr (.inr (.inr (.inr (fun _ => none))))) := by
    show Sum.inl (dA 3, (List.replicate N (none : Option Nat)).length, _) = _
    rw [List.length_replicate]
    congr 7
    funext k
    have : (List.replicate N (none : Option Nat)).getD k none = none := by
      rw [List.getD_eq_getElem?_getD]
      cases e : (List.replicate N (none : Option Nat))[k]? with
      | none => rfl
      | some v =>
        have := List.mem_of_getElem? e
        simp at this
        rw [this.2]; rfl
    rw [this]; rfl
  rw [← hce] at hP hD
  have hc0 : lt_cok (10 + sh.length) (.inr (.inl (List.replicate N none))) := by
    intro k a e
    rw [List.getD_eq_getElem?_getD] at e
    cases e2 : (List.replicate N (none : Option Nat))[k]? with
    | none => rw [e2] at e; cases e
    | some v =>
      have := List.mem_of_getElem? e2
      simp at this
      rw [e2, this.2] at e; cases e
  obtain ⟨Wd1, had⟩ := lt_grow (c0 := .inr (.inl (List.replicate N none))) (f := σ (10 + sh.length)) Wd hc0 hP hD hS
  have hse : lt_ur σ (10 + sh.length) (σ (10 + sh.length)) = σ := by
    funext b
    by_cases hb : b = 10 + sh.length
    · subst hb; exact if_pos rfl
    · exact if_neg hb
  rw [hse] at Wd1
  have := kk p e R s m args below meth c H1 locs Z D dA ad0 _ A N0 ls C Wd1 (hl.same had (by rw [List.length_append]; omega)) ⟨by show 10 + sh.length < _; rw [List.length_append]; simp, ho.2.mono (by rw [List.length_append]; omega)⟩ hr
  rw [List.map_cons, ho.2.same had] at this
  rw [show lt_tr (fun a => if a = 10 + sh.length then q else ad a) (.ref (10 + sh.length)) = .ref q from congrArg Value.ref (if_pos rfl)] at this
  exact this
/-- a new object: fields null (constants of the shape) or 0 -/
theorem g_new {idx ci pc2 : Nat} {C0 : vw_C} {fs : List (Option Value)} (hc : vwCl[ci]? = some C0) (co : lt_co C0) (lk : Cond.classLink M.1.cls idx C0.1 ∈ lt_tb) (w1 : Cond.instantiable C0.1 C0.2.2 ∈ lt_tb) (w2 : Cond.initialized C0.1 ∈ lt_tb) (hfs : ∀ j, j < C0.2.2 → ∀ ty, parseFieldDescriptor (C0.2.1 j).2.2.1 = some ty → defaultValue ty = vp_V (lt_fs (fun a => a) (fun _ => 0) 0 fs) j) (hnull : ∀ (k : Nat) (v : Value), fs[k]? = some (some v) → v = .null) (hcell : ck + 1 ≤ mc ∧ cn + C0.2.2 ≤ ms) (hd : decode M.2.1 pc = .ok (.new idx, 3)) (he : pc + 3 = pc2)
    (kk : lt_G l d mc ms M (ck + 1) (cn + C0.2.2) (sh ++ [.inr (.inr (ci, fs))]) (lt_ur σ (10 + sh.length) (fun _ => 0)) pc2 L (.ref (10 + sh.length) :: st) Q) : lt_G l d mc ms M ck cn sh σ pc L st Q := by
  subst he
  intro p e R s m args below meth c H locs Z D dA ad0 ad A N0 ls C Wd hl ho hr
  have hts := C.1.2.2.2.2
  have hRm := C.2.2.2.2.2.2.1
  obtain ⟨hw, ⟨ty0, hty⟩, hnm⟩ := co
  have hc0 : lt_cok 0 (.inr (.inr (ci, fs))) := by
    intro k v h
    rw [hnull k v h]
    exact trivial
  have hfe : lt_fs (fun a => a) (fun _ => 0) 0 fs = lt_fs ad (fun _ => 0) 0 fs := lt_fs_same (N := 0) (fun a h => by omega) (fun _ => 0) fs 0 hc0
  refine va_new (ci := ci) (fs := lt_fs ad (fun _ => 0) 0 fs) (C := C0.1) (T := C0.2.1) (N := C0.2.2) C.1.1 C.1.2.1 hts hw ty0 hty C.1.2.2.2.1 (hts _ lk) (hts _ w1) (hts _ w2) C.2.2.2.2.1 Wd.2.2.2.1 Wd.2.2.2.2.1 Wd.2.2.2.2.2 C.2.2.2.2.2.1 hc (fun j hj => by rw [← hfe]; exact hfs j hj _ (hty j hj)) (by omega) (by omega) hd (fun q H1 hP hD hS => ?_)
  obtain ⟨Wd1, had⟩ := lt_grow (c0 := .inr (.inr (ci, fs))) (f := fun _ => 0) Wd (hc0.mono (Nat.zero_le _)) hP hD hS
  have := kk p e R s m args below meth c H1 locs Z D dA ad0 _ A N0 ls C Wd1 (hl.same had (by rw [List.length_append]; omega)) ⟨by show 10 + sh.length < _; rw [List.length_append]; simp, ho.mono (by rw [List.length_append]; omega)⟩ hr
  rw [List.map_cons, ho.same had] at this
  rw [show lt_tr (fun a => if a = 10 + sh.length then q else ad a) (.ref (10 + sh.length)) = .ref q from congrArg Value.ref (if_pos rfl)] at this
  exact this
/-- a reference into a row of Plan -/
theorem g_aast {a b j ci pc2 : Nat} {rs : List (Option Nat)} {fs : List (Option Value)} (sh2 : lt_H) (hs : lt_at sh a = some (.inr (.inl rs))) (hj : j < rs.length) (hn : rs.length < 2 ^ 31) (hb : lt_at sh b = some (.inr (.inr (2, fs)))) (h2 : sh.set (a - 10) (.inr (.inl (rs.set j (some b)))) = sh2) (hd : decode M.2.1 pc = .ok (.aastore, 1)) (he : pc + 1 = pc2)
    (kk : lt_G l d mc ms M ck cn sh2 σ pc2 L st Q) : lt_G l d mc ms M ck cn sh σ pc L (.ref b :: .int (nI j) :: .ref a :: st) Q := by
  subst he
  obtain ⟨i, rfl, hi⟩ := lt_at_get hs
  obtain ⟨i2, rfl, hi2⟩ := lt_at_get hb
  rw [show 10 + i - 10 = i by omega] at h2
  intro p e R s m args below meth c H locs Z D dA ad0 ad A N0 ls C Wd hl ho hr
  have e1 : (nI j).toNatClampNeg = j := nI_clamp (by omega)
  have hlen : sh2.length = sh.length := by rw [← h2, List.length_set]
  refine va_astq (r := (RX2, TX2, 4)) (v := ad (10 + i2)) (vs := lt_fs ad (σ (10 + i2)) 0 fs) (f := fun k => (rs.getD k none).map ad) C.1.1 C.1.2.1 C.2.2.2.2.1 Wd.2.2.2.1 Wd.2.2.2.2.1 Wd.2.2.2.2.2 i 3 i2 2 (cA := dA 3) (n := rs.length) (by rw [lt_w_get, hi]; rfl) rfl (by rw [lt_w_get, hi2]; rfl) rfl (vp_in_nI hj hn) hd (fun H1 locs1 hP hD hS => ?_)
  have hset : (lt_w dA ad σ 10 sh).set i (ad (10 + i), .inl (dA 3, rs.length, .inr (.inr (.inr (.inr (va_up (fun k => (rs.getD k none).map ad) (nI j).toNatClampNeg (some (ad (10 + i2))))))))) = lt_w dA ad σ 10 sh2 := by
    have hx := lt_w_set (dA := dA) (ad := ad) (σ := σ) (.inr (.inl (rs.set j (some (10 + i2))))) (σ (10 + i)) sh 10 i
    rw [h2] at hx
    have hce : lt_cell dA ad (.inr (.inl (rs.set j (some (10 + i2))))) (σ (10 + i)) = .inl (dA 3, rs.length, .inr (.inr (.inr (.inr (va_up (fun k => (rs.getD k none).map ad) (nI j).toNatClampNeg (some (ad (10 + i2)))))))) := by
      show Sum.inl (dA 3, (rs.set j (some (10 + i2))).length, _) = _
      rw [List.length_set, e1]
      congr 7
      funext k
      by_cases hk : j = k
      · subst hk
        rw [List.getD_eq_getElem?_getD, List.getElem?_set_self hj]
        simp [va_up]
      · rw [List.getD_eq_getElem?_getD, List.getElem?_set_ne hk]
        simp [va_up, Ne.symm hk, List.getD_eq_getElem?_getD]
    rw [hce] at hx
    refine hx.trans (lt_w_ext sh2 10 (fun b _ _ => ?_))
    by_cases hb : b = 10 + i
    · subst hb; exact if_pos rfl
    · exact if_neg hb
  rw [hset] at hP hD
  have hok : lt_hok (10 + sh2.length) sh2 := by
    intro j2 c0 hj2
    rw [hlen]
    rw [← h2] at hj2
    by_cases e9 : i = j2
    · subst e9
      rw [List.getElem?_set_self (List.getElem?_eq_some_iff.mp hi).1] at hj2
      cases hj2
      intro k2 v hv
      by_cases ek : j = k2
      · subst ek
        rw [List.getD_eq_getElem?_getD, List.getElem?_set_self hj] at hv
        cases hv
        exact ho.1
      · rw [List.getD_eq_getElem?_getD, List.getElem?_set_ne ek] at hv
        exact Wd.2.2.1 i _ hi k2 v (by rw [List.getD_eq_getElem?_getD]; exact hv)
    · rw [List.getElem?_set_ne e9] at hj2
      exact Wd.2.2.1 j2 c0 hj2
  exact kk p e R s m args below meth c H1 locs1 Z D dA ad0 ad A N0 ls C ⟨Wd.1, by rw [hlen]; exact Wd.2.1, hok, hP, hD, hS⟩ (by rw [hlen]; exact hl) (by rw [hlen]; exact ho.2.2.2) hr
/-- Object's own constructor -/
theorem g_objInit {a idx pc2 : Nat} (lk : Cond.methodLink M.1.cls idx objectInit ∈ lt_tb) (w1 : Cond.instanceMethod objectInit ∈ lt_tb) (w2 : Cond.code objectInit ⟨#[0xb1]⟩ 1 none ∈ lt_tb) (hst : st.length ≤ 8) (hdp : 1 ≤ d) (hd : decode M.2.1 pc = .ok (.invokespecial idx, 3)) (he : pc + 3 = pc2) (kk : lt_G l d mc ms M ck cn sh σ pc2 L st Q) : lt_G l d mc ms M ck cn sh σ pc L (.ref a :: st) Q := by
  subst he
  intro p e R s m args below meth c H locs Z D dA ad0 ad A N0 ls C Wd hl ho hr
  have hts := C.1.2.2.2.2
  have hRm := C.2.2.2.2.2.2.1
  obtain ⟨lv, hlv, -⟩ := hl.1
  refine W.objInit (g := F0 m pc ls (.ref (ad a) :: st.map (lt_tr ad))) C.1.1 C.1.2.1 C.1.2.2.2.1 (hts _ lk) (hts _ w1) (hts _ w2) rfl (by rw [C.1.2.2.1]; exact hlv.1) rfl hd (by omega) ?_ ?_
  · have := lv_room (m := m) (pc := pc) (ls := ls) (rest := .ref (ad a) :: st.map (lt_tr ad)) (st := st.map (lt_tr ad)) (by rw [ho.2.cat ad]; exact hst)
    omega
  · exact kk p e R s m args below meth c H locs Z D dA ad0 ad A N0 ls C Wd hl ho.2 hr
end LT3
