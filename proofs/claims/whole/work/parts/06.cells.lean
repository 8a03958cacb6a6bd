/-! rows for fields and arrays -/
def lt_at (sh : lt_H) (a : Nat) : Option lt_C := if a < 10 then none else sh[a - 10]?
theorem lt_at_get {sh : lt_H} {a : Nat} {c : lt_C} (h : lt_at sh a = some c) : ∃ i, a = 10 + i ∧ sh[i]? = some c := by
  unfold lt_at at h
  split at h
  · cases h
  · exact ⟨a - 10, by omega, h⟩
/-- what the tables say of a class -/
def lt_co (r : vw_C) : Prop := (∀ w ∈ u_ws r.1 r.2.1 r.2.2, w ∈ lt_tb) ∧ (∃ ty0 : Nat → FieldType, ∀ k, k < r.2.2 → parseFieldDescriptor (r.2.1 k).2.2.1 = some (ty0 k)) ∧ (∀ a, a < r.2.2 → ∀ b, b < r.2.2 → a ≠ b → (r.2.1 a).2.1 ≠ (r.2.1 b).2.1)
/-- a field's link: class 'own', place idx, the k-th field of class ci -/
def lt_fl (own : String) (idx ci k : Nat) : Prop := ∃ r : vw_C, vwCl[ci]? = some r ∧ lt_co r ∧ k < r.2.2 ∧ Cond.fieldLink own idx (r.2.1 k).1 (r.2.1 k).2.1 (r.2.1 k).2.2.1 ∈ lt_tb
/-- and what a store needs: the type, whether it is final (then in its own class's constructor) -/
def lt_fp (own : String) (ci k : Nat) (fin : Bool) (ty : FieldType) : Prop := ∀ r : vw_C, vwCl[ci]? = some r → parseFieldDescriptor (r.2.1 k).2.2.1 = some ty ∧ (r.2.1 k).2.2.2 = fin ∧ (fin = true → (r.2.1 k).1 = own)
section LT2
variable {l : lt_L} {d mc ms : Nat} {M : lt_M} {ck cn : Nat} {sh : lt_H} {σ : lt_S} {pc : Nat} {L : List (Option Value)} {st : List Value} {Q : lt_Q}
theorem g_geti {a idx ci k pc2 : Nat} {fs : List (Option Value)} (hs : lt_at sh a = some (.inr (.inr (ci, fs)))) (hf : fs[k]? = some none) (fl : lt_fl M.1.cls idx ci k) (hd : decode M.2.1 pc = .ok (.getfield idx, 3)) (he : pc + 3 = pc2) (kk : lt_G l d mc ms M ck cn sh σ pc2 L (.int (σ a k) :: st) Q) : lt_G l d mc ms M ck cn sh σ pc L (.ref a :: st) Q := by
  subst he
  obtain ⟨i, rfl, hi⟩ := lt_at_get hs
  intro p e R s m args below meth c H locs Z D dA ad0 ad A N0 ls C Wd hl ho hr
  obtain ⟨r, hc, ⟨hw, -, -⟩, hk, hlk⟩ := fl
  refine va_get (C := r.1) (T := r.2.1) (N := r.2.2) (ci := ci) (fs := lt_fs ad (σ (10 + i)) 0 fs) (v := .int (σ (10 + i) k)) C.1.1 C.1.2.1 C.1.2.2.2.2 hw C.1.2.2.2.1 C.2.2.2.2.1 Wd.2.2.2.1 i (by rw [lt_w_get, hi]; rfl) hc k hk (C.1.2.2.2.2 _ hlk) (fun _ h => h) (by rw [lt_fs_get, hf]; simp) hd ?_
  exact kk p e R s m args below meth c H locs Z D dA ad0 ad A N0 ls C Wd hl ⟨trivial, ho.2⟩ hr
theorem g_getr {a idx ci k pc2 : Nat} {fs : List (Option Value)} {v : Value} (hs : lt_at sh a = some (.inr (.inr (ci, fs)))) (hf : fs[k]? = some (some v)) (fl : lt_fl M.1.cls idx ci k) (hd : decode M.2.1 pc = .ok (.getfield idx, 3)) (he : pc + 3 = pc2) (kk : lt_G l d mc ms M ck cn sh σ pc2 L (v :: st) Q) : lt_G l d mc ms M ck cn sh σ pc L (.ref a :: st) Q := by
  subst he
  obtain ⟨i, rfl, hi⟩ := lt_at_get hs
  intro p e R s m args below meth c H locs Z D dA ad0 ad A N0 ls C Wd hl ho hr
  obtain ⟨r, hc, ⟨hw, -, -⟩, hk, hlk⟩ := fl
  refine va_get (C := r.1) (T := r.2.1) (N := r.2.2) (ci := ci) (fs := lt_fs ad (σ (10 + i)) 0 fs) (v := lt_tr ad v) C.1.1 C.1.2.1 C.1.2.2.2.2 hw C.1.2.2.2.1 C.2.2.2.2.1 Wd.2.2.2.1 i (by rw [lt_w_get, hi]; rfl) hc k hk (C.1.2.2.2.2 _ hlk) (fun _ h => h) (by rw [lt_fs_get, hf]; rfl) hd ?_
  exact kk p e R s m args below meth c H locs Z D dA ad0 ad A N0 ls C Wd hl ⟨Wd.2.2.1 i _ hi k v hf, ho.2⟩ hr
theorem lt_ur_w {dA : Nat → ClassId} {ad : Nat → Nat} {i : Nat} {c0 : lt_C} (f : Nat → Int32) (hi : sh[i]? = some c0) : (lt_w dA ad σ 10 sh).set i (ad (10 + i), lt_cell dA ad c0 f) = lt_w dA ad (lt_ur σ (10 + i) f) 10 sh := by
  rw [lt_w_set c0 f sh 10 i]
  have e : sh.set i c0 = sh := by
    apply List.ext_getElem?
    intro n
    by_cases hn : i = n
    · subst hn
      rw [List.getElem?_set_self (List.getElem?_eq_some_iff.mp hi).1, hi]
    · rw [List.getElem?_set_ne hn]
  rw [e]
  rfl
theorem lt_up_ur (σ : lt_S) (a k : Nat) (x : Int32) : lt_up σ a k x = lt_ur σ a (upd (σ a) k x) := rfl
theorem g_puti {a idx ci k pc2 : Nat} {fs : List (Option Value)} {x : Int32} {fin : Bool} (hs : lt_at sh a = some (.inr (.inr (ci, fs)))) (hf : fs[k]? = some none) (fl : lt_fl M.1.cls idx ci k) (fp : lt_fp M.1.cls ci k fin .int) (hm : fin = true → M.1.name = "<init>") (hd : decode M.2.1 pc = .ok (.putfield idx, 3)) (he : pc + 3 = pc2) (kk : lt_G l d mc ms M ck cn sh (lt_up σ a k x) pc2 L st Q) : lt_G l d mc ms M ck cn sh σ pc L (.int x :: .ref a :: st) Q := by
  subst he
  obtain ⟨i, rfl, hi⟩ := lt_at_get hs
  intro p e R s m args below meth c H locs Z D dA ad0 ad A N0 ls C Wd hl ho hr
  obtain ⟨r, hc, ⟨hw, ⟨ty0, hty⟩, hnm⟩, hk, hlk⟩ := fl
  obtain ⟨hp1, hp2, hp3⟩ := fp r hc
  have hcell : (lt_w dA ad σ 10 sh)[i]? = some (ad (10 + i), .inr (ci, lt_fs ad (σ (10 + i)) 0 fs)) := by rw [lt_w_get, hi]; rfl
  have hset : (lt_w dA ad σ 10 sh).set i (ad (10 + i), .inr (ci, (lt_fs ad (σ (10 + i)) 0 fs).set k (.int x))) = lt_w dA ad (lt_up σ (10 + i) k x) 10 sh := by
    rw [lt_fs_set ad (σ (10 + i)) x fs 0 k hf, Nat.zero_add]
    exact lt_ur_w (upd (σ (10 + i)) k x) hi
  have hl9 : k < (lt_fs ad (σ (10 + i)) 0 fs).length := by rw [lt_fs_len]; exact (List.getElem?_eq_some_iff.mp hf).1
  cases hfin : fin with
  | true =>
    refine va_putF (D := D) (C := r.1) (T := r.2.1) (N := r.2.2) (ci := ci) (v := .int x) (ty := .int) C.1.1 C.1.2.1 C.1.2.2.2.2 hw ty0 hty hnm C.1.2.2.2.1 C.2.2.2.2.1 Wd.2.2.2.1 Wd.2.2.2.2.1 Wd.2.2.2.2.2 i hcell hc k hk (C.1.2.2.2.2 _ hlk) (fun _ h => h) (hp2.trans hfin) (C.2.2.2.1 (hm hfin)) (hp3 hfin) hp1 rfl rfl hl9 hd (fun H1 locs1 hP hD hS => ?_)
    rw [hset] at hP hD
    exact kk p e R s m args below meth c H1 locs1 Z D dA ad0 ad A N0 ls C ⟨Wd.1, Wd.2.1, Wd.2.2.1, hP, hD, hS⟩ hl ho.2.2 hr
  | false =>
    refine va_put (D := D) (C := r.1) (T := r.2.1) (N := r.2.2) (ci := ci) (v := .int x) (ty := .int) C.1.1 C.1.2.1 C.1.2.2.2.2 hw ty0 hty hnm C.1.2.2.2.1 C.2.2.2.2.1 Wd.2.2.2.1 Wd.2.2.2.2.1 Wd.2.2.2.2.2 i hcell hc k hk (C.1.2.2.2.2 _ hlk) (fun _ h => h) (hp2.trans hfin) hp1 rfl rfl hl9 hd (fun H1 locs1 hP hD hS => ?_)
    rw [hset] at hP hD
    exact kk p e R s m args below meth c H1 locs1 Z D dA ad0 ad A N0 ls C ⟨Wd.1, Wd.2.1, Wd.2.2.1, hP, hD, hS⟩ hl ho.2.2 hr
/-- a reference into a final field, in a constructor: the shape changes -/
theorem g_putr {a b idx ci k pc2 : Nat} {fs : List (Option Value)} {ty : FieldType} {fin : Bool} (sh2 : lt_H) (hs : lt_at sh a = some (.inr (.inr (ci, fs)))) (hf : k < fs.length) (fl : lt_fl M.1.cls idx ci k) (fp : lt_fp M.1.cls ci k fin ty) (hty1 : ∀ q, narrow ty (.ref q) = .ref q) (hty2 : ∀ q, fits ty (.ref q) = true) (hfin : fin = true) (hm : M.1.name = "<init>") (h2 : sh.set (a - 10) (.inr (.inr (ci, fs.set k (some (.ref b))))) = sh2) (hd : decode M.2.1 pc = .ok (.putfield idx, 3)) (he : pc + 3 = pc2) (kk : lt_G l d mc ms M ck cn sh2 σ pc2 L st Q) : lt_G l d mc ms M ck cn sh σ pc L (.ref b :: .ref a :: st) Q := by
  subst he
  obtain ⟨i, rfl, hi⟩ := lt_at_get hs
  rw [show 10 + i - 10 = i by omega] at h2
  intro p e R s m args below meth c H locs Z D dA ad0 ad A N0 ls C Wd hl ho hr
  obtain ⟨r, hc, ⟨hw, ⟨ty0, hty⟩, hnm⟩, hk, hlk⟩ := fl
  obtain ⟨hp1, hp2, hp3⟩ := fp r hc
  have hcell : (lt_w dA ad σ 10 sh)[i]? = some (ad (10 + i), .inr (ci, lt_fs ad (σ (10 + i)) 0 fs)) := by rw [lt_w_get, hi]; rfl
  have hset : (lt_w dA ad σ 10 sh).set i (ad (10 + i), .inr (ci, (lt_fs ad (σ (10 + i)) 0 fs).set k (.ref (ad b)))) = lt_w dA ad σ 10 sh2 := by
    rw [show Value.ref (ad b) = lt_tr ad (.ref b) from rfl, lt_fs_setr ad (σ (10 + i)) (.ref b) fs 0 k]
    have := lt_w_set (dA := dA) (ad := ad) (σ := σ) (.inr (.inr (ci, fs.set k (some (.ref b))))) (σ (10 + i)) sh 10 i
    rw [h2] at this
    refine this.trans (lt_w_ext sh2 10 (fun b _ _ => ?_))
    by_cases hb : b = 10 + i
    · subst hb; exact if_pos rfl
    · exact if_neg hb
  have hl9 : k < (lt_fs ad (σ (10 + i)) 0 fs).length := by rw [lt_fs_len]; exact hf
  have hlen : sh2.length = sh.length := by rw [← h2, List.length_set]
  have hok : lt_hok (10 + sh2.length) sh2 := by
    intro j c0 hj
    rw [hlen]
    rw [← h2] at hj
    by_cases e9 : i = j
    · subst e9
      rw [List.getElem?_set_self (List.getElem?_eq_some_iff.mp hi).1] at hj
      cases hj
      intro k2 v hv
      by_cases ek : k = k2
      · subst ek
        rw [List.getElem?_set_self hf] at hv
        cases hv
        exact ho.1
      · rw [List.getElem?_set_ne ek] at hv
        exact Wd.2.2.1 i _ hi k2 v hv
    · rw [List.getElem?_set_ne e9] at hj
      exact Wd.2.2.1 j c0 hj
  refine va_putF (D := D) (C := r.1) (T := r.2.1) (N := r.2.2) (ci := ci) (v := .ref (ad b)) (ty := ty) C.1.1 C.1.2.1 C.1.2.2.2.2 hw ty0 hty hnm C.1.2.2.2.1 C.2.2.2.2.1 Wd.2.2.2.1 Wd.2.2.2.2.1 Wd.2.2.2.2.2 i hcell hc k hk (C.1.2.2.2.2 _ hlk) (fun _ h => h) (hp2.trans hfin) (C.2.2.2.1 hm) (hp3 hfin) hp1 (hty1 _) (hty2 _) hl9 hd (fun H1 locs1 hP hD hS => ?_)
  rw [hset] at hP hD
  exact kk p e R s m args below meth c H1 locs1 Z D dA ad0 ad A N0 ls C ⟨Wd.1, by rw [hlen]; exact Wd.2.1, hok, hP, hD, hS⟩ (by rw [hlen]; exact hl) (by rw [hlen]; exact ho.2.2) hr
/-! arrays -/
theorem g_iald {a n j pc2 : Nat} (hs : lt_at sh a = some (.inl (0, n))) (hj : j < n) (hn : n < 2 ^ 31) (hd : decode M.2.1 pc = .ok (.iaload, 1)) (he : pc + 1 = pc2) (kk : lt_G l d mc ms M ck cn sh σ pc2 L (.int (σ a j) :: st) Q) : lt_G l d mc ms M ck cn sh σ pc L (.int (nI j) :: .ref a :: st) Q := by
  subst he
  obtain ⟨i, rfl, hi⟩ := lt_at_get hs
  intro p e R s m args below meth c H locs Z D dA ad0 ad A N0 ls C Wd hl ho hr
  have hj9 : (nI j).toNatClampNeg = j := nI_clamp (by omega)
  refine va_iald C.1.1 C.1.2.1 C.2.2.2.2.1 Wd.2.2.2.1 i 0 (cA := dA 0) (n := n) (f := σ (10 + i)) (by rw [lt_w_get, hi]; rfl) rfl (vp_in_nI hj hn) hd ?_
  rw [hj9]
  exact kk p e R s m args below meth c H locs Z D dA ad0 ad A N0 ls C Wd hl ⟨trivial, ho.2.2⟩ hr
theorem g_cald {a n j pc2 : Nat} (hs : lt_at sh a = some (.inl (1, n))) (hj : j < n) (hn : n < 2 ^ 31) (hd : decode M.2.1 pc = .ok (.caload, 1)) (he : pc + 1 = pc2) (kk : lt_G l d mc ms M ck cn sh σ pc2 L (.int (σ a j) :: st) Q) : lt_G l d mc ms M ck cn sh σ pc L (.int (nI j) :: .ref a :: st) Q := by
  subst he
  obtain ⟨i, rfl, hi⟩ := lt_at_get hs
  intro p e R s m args below meth c H locs Z D dA ad0 ad A N0 ls C Wd hl ho hr
  have hj9 : (nI j).toNatClampNeg = j := nI_clamp (by omega)
  refine va_cald C.1.1 C.1.2.1 C.2.2.2.2.1 Wd.2.2.2.1 i 1 (cA := dA 1) (n := n) (f := σ (10 + i)) (by rw [lt_w_get, hi]; rfl) rfl (vp_in_nI hj hn) hd ?_
  rw [hj9]
  exact kk p e R s m args below meth c H locs Z D dA ad0 ad A N0 ls C Wd hl ⟨trivial, ho.2.2⟩ hr
theorem g_zald {a n j pc2 : Nat} (hs : lt_at sh a = some (.inl (2, n))) (hj : j < n) (hn : n < 2 ^ 31) (hd : decode M.2.1 pc = .ok (.baload, 1)) (he : pc + 1 = pc2) (kk : lt_G l d mc ms M ck cn sh σ pc2 L (.int (σ a j) :: st) Q) : lt_G l d mc ms M ck cn sh σ pc L (.int (nI j) :: .ref a :: st) Q := by
  subst he
  obtain ⟨i, rfl, hi⟩ := lt_at_get hs
  intro p e R s m args below meth c H locs Z D dA ad0 ad A N0 ls C Wd hl ho hr
  have hj9 : (nI j).toNatClampNeg = j := nI_clamp (by omega)
  refine va_zald C.1.1 C.1.2.1 C.2.2.2.2.1 Wd.2.2.2.1 i 2 (cA := dA 2) (n := n) (f := σ (10 + i)) (by rw [lt_w_get, hi]; rfl) rfl (vp_in_nI hj hn) hd ?_
  rw [hj9]
  exact kk p e R s m args below meth c H locs Z D dA ad0 ad A N0 ls C Wd hl ⟨trivial, ho.2.2⟩ hr
theorem g_aald {a j b pc2 : Nat} {rs : List (Option Nat)} (hs : lt_at sh a = some (.inr (.inl rs))) (hj : rs[j]? = some (some b)) (hn : rs.length < 2 ^ 31) (hd : decode M.2.1 pc = .ok (.aaload, 1)) (he : pc + 1 = pc2) (kk : lt_G l d mc ms M ck cn sh σ pc2 L (.ref b :: st) Q) : lt_G l d mc ms M ck cn sh σ pc L (.int (nI j) :: .ref a :: st) Q := by
  subst he
  obtain ⟨i, rfl, hi⟩ := lt_at_get hs
  intro p e R s m args below meth c H locs Z D dA ad0 ad A N0 ls C Wd hl ho hr
  have hjl : j < rs.length := (List.getElem?_eq_some_iff.mp hj).1
  have hj9 : (nI j).toNatClampNeg = j := nI_clamp (by omega)
  have hjd : rs.getD j none = some b := by rw [List.getD_eq_getElem?_getD, hj]; rfl
  refine va_aldq C.1.1 C.1.2.1 C.2.2.2.2.1 Wd.2.2.2.1 i 3 (cA := dA 3) (C := RX2) (n := rs.length) (f := fun k => (rs.getD k none).map ad) (by rw [lt_w_get, hi]; rfl) rfl (vp_in_nI hjl hn) hd ?_
  rw [hj9, hjd]
  exact kk p e R s m args below meth c H locs Z D dA ad0 ad A N0 ls C Wd hl ⟨Wd.2.2.1 i _ hi j b hjd, ho.2.2⟩ hr
theorem g_alen {a n t pc2 : Nat} {v : Int32} (hs : lt_at sh a = some (.inl (t, n))) (ht : t < 3) (hv : Int32.ofNat n = v) (hd : decode M.2.1 pc = .ok (.arraylength, 1)) (he : pc + 1 = pc2) (kk : lt_G l d mc ms M ck cn sh σ pc2 L (.int v :: st) Q) : lt_G l d mc ms M ck cn sh σ pc L (.ref a :: st) Q := by
  subst he
  obtain ⟨i, rfl, hi⟩ := lt_at_get hs
  intro p e R s m args below meth c H locs Z D dA ad0 ad A N0 ls C Wd hl ho hr
  obtain ⟨ty, hty⟩ : ∃ ty, (lt_tys dA)[t]? = some (dA t, ty) := by
    rcases (show t = 0 ∨ t = 1 ∨ t = 2 by omega) with rfl | rfl | rfl <;> exact ⟨_, rfl⟩
  refine va_alen C.1.1 C.1.2.1 C.2.2.2.2.1 Wd.2.2.2.1 i t (cA := dA t) (x := (n, .inl (σ (10 + i)))) (by rw [lt_w_get, hi]; rfl) hty hv hd ?_
  exact kk p e R s m args below meth c H locs Z D dA ad0 ad A N0 ls C Wd hl ⟨trivial, ho.2⟩ hr
theorem g_iast {a n j pc2 : Nat} {x : Int32} (hs : lt_at sh a = some (.inl (0, n))) (hj : j < n) (hn : n < 2 ^ 31) (hd : decode M.2.1 pc = .ok (.iastore, 1)) (he : pc + 1 = pc2) (kk : lt_G l d mc ms M ck cn sh (lt_up σ a j x) pc2 L st Q) : lt_G l d mc ms M ck cn sh σ pc L (.int x :: .int (nI j) :: .ref a :: st) Q := by
  subst he
  obtain ⟨i, rfl, hi⟩ := lt_at_get hs
  intro p e R s m args below meth c H locs Z D dA ad0 ad A N0 ls C Wd hl ho hr
  have hj9 : (nI j).toNatClampNeg = j := nI_clamp (by omega)
  refine va_iast C.1.1 C.1.2.1 C.2.2.2.2.1 Wd.2.2.2.1 Wd.2.2.2.2.1 Wd.2.2.2.2.2 i 0 (cA := dA 0) (n := n) (f := σ (10 + i)) (by rw [lt_w_get, hi]; rfl) rfl (vp_in_nI hj hn) hd (fun H1 locs1 hP hD hS => ?_)
  have hset : (lt_w dA ad σ 10 sh).set i (ad (10 + i), .inl (dA 0, n, .inl (upd (σ (10 + i)) (nI j).toNatClampNeg x))) = lt_w dA ad (lt_up σ (10 + i) j x) 10 sh := by
    rw [hj9]
    exact lt_ur_w (upd (σ (10 + i)) j x) hi
  rw [hset] at hP hD
  exact kk p e R s m args below meth c H1 locs1 Z D dA ad0 ad A N0 ls C ⟨Wd.1, Wd.2.1, Wd.2.2.1, hP, hD, hS⟩ hl ho.2.2.2 hr
theorem g_cast {a n j pc2 : Nat} {x y : Int32} (hs : lt_at sh a = some (.inl (1, n))) (hj : j < n) (hn : n < 2 ^ 31) (hy : vp_nar .char x = y) (hd : decode M.2.1 pc = .ok (.castore, 1)) (he : pc + 1 = pc2) (kk : lt_G l d mc ms M ck cn sh (lt_up σ a j y) pc2 L st Q) : lt_G l d mc ms M ck cn sh σ pc L (.int x :: .int (nI j) :: .ref a :: st) Q := by
  subst he
  obtain ⟨i, rfl, hi⟩ := lt_at_get hs
  intro p e R s m args below meth c H locs Z D dA ad0 ad A N0 ls C Wd hl ho hr
  have hj9 : (nI j).toNatClampNeg = j := nI_clamp (by omega)
  refine va_cast C.1.1 C.1.2.1 C.2.2.2.2.1 Wd.2.2.2.1 Wd.2.2.2.2.1 Wd.2.2.2.2.2 i 1 (cA := dA 1) (n := n) (f := σ (10 + i)) (by rw [lt_w_get, hi]; rfl) rfl (vp_in_nI hj hn) hd (fun H1 locs1 hP hD hS => ?_)
  have hset : (lt_w dA ad σ 10 sh).set i (ad (10 + i), .inl (dA 1, n, .inl (upd (σ (10 + i)) (nI j).toNatClampNeg (vp_nar .char x)))) = lt_w dA ad (lt_up σ (10 + i) j y) 10 sh := by
    rw [hj9, hy]
    exact lt_ur_w (upd (σ (10 + i)) j y) hi
  rw [hset] at hP hD
  exact kk p e R s m args below meth c H1 locs1 Z D dA ad0 ad A N0 ls C ⟨Wd.1, Wd.2.1, Wd.2.2.1, hP, hD, hS⟩ hl ho.2.2.2 hr
theorem g_zast {a n j pc2 : Nat} {x y : Int32} (hs : lt_at sh a = some (.inl (2, n))) (hj : j < n) (hn : n < 2 ^ 31) (hy : vp_nar .boolean x = y) (hd : decode M.2.1 pc = .ok (.bastore, 1)) (he : pc + 1 = pc2) (kk : lt_G l d mc ms M ck cn sh (lt_up σ a j y) pc2 L st Q) : lt_G l d mc ms M ck cn sh σ pc L (.int x :: .int (nI j) :: .ref a :: st) Q := by
  subst he
  obtain ⟨i, rfl, hi⟩ := lt_at_get hs
  intro p e R s m args below meth c H locs Z D dA ad0 ad A N0 ls C Wd hl ho hr
  have hj9 : (nI j).toNatClampNeg = j := nI_clamp (by omega)
  refine va_zast C.1.1 C.1.2.1 C.2.2.2.2.1 Wd.2.2.2.1 Wd.2.2.2.2.1 Wd.2.2.2.2.2 i 2 (cA := dA 2) (n := n) (f := σ (10 + i)) (by rw [lt_w_get, hi]; rfl) rfl (vp_in_nI hj hn) hd (fun H1 locs1 hP hD hS => ?_)
  have hset : (lt_w dA ad σ 10 sh).set i (ad (10 + i), .inl (dA 2, n, .inl (upd (σ (10 + i)) (nI j).toNatClampNeg (vp_nar .boolean x)))) = lt_w dA ad (lt_up σ (10 + i) j y) 10 sh := by
    rw [hj9, hy]
    exact lt_ur_w (upd (σ (10 + i)) j y) hi
  rw [hset] at hP hD
  exact kk p e R s m args below meth c H1 locs1 Z D dA ad0 ad A N0 ls C ⟨Wd.1, Wd.2.1, Wd.2.2.1, hP, hD, hS⟩ hl ho.2.2.2 hr
/-- System.arraycopy of numbers -/
theorem g_copy {a0 a1 n0 n1 sp dp n idx pc2 : Nat} (h0 : lt_at sh a0 = some (.inl (0, n0))) (h1 : lt_at sh a1 = some (.inl (0, n1))) (hs : sp + n ≤ n0) (ht : dp + n ≤ n1) (hn0 : n0 < 2 ^ 31) (hn1 : n1 < 2 ^ 31) (lk : Cond.methodLink M.1.cls idx arraycopyName ∈ lt_tb) (w1 : Cond.native arraycopyName ∈ lt_tb) (w2 : Cond.static arraycopyName ∈ lt_tb) (w3 : Cond.initialized "java/lang/System" ∈ lt_tb) (hst : st.length ≤ 8) (hdp : 1 ≤ d)
    (hd : decode M.2.1 pc = .ok (.invokestatic idx, 3)) (he : pc + 3 = pc2) (kk : lt_G l d mc ms M ck cn sh (lt_ur σ a1 (va_cpy (σ a0) (σ a1) sp dp n)) pc2 L st Q) : lt_G l d mc ms M ck cn sh σ pc L (.int (nI n) :: .int (nI dp) :: .ref a1 :: .int (nI sp) :: .ref a0 :: st) Q := by
  subst he
  obtain ⟨i0, rfl, hi0⟩ := lt_at_get h0
  obtain ⟨i1, rfl, hi1⟩ := lt_at_get h1
  intro p e R s m args below meth c H locs Z D dA ad0 ad A N0 ls C Wd hl ho hr
  have e1 : (nI sp).toNatClampNeg = sp := nI_clamp (by omega)
  have e2 : (nI dp).toNatClampNeg = dp := nI_clamp (by omega)
  have e3 : (nI n).toNatClampNeg = n := nI_clamp (by omega)
  obtain ⟨lv, hlv, -⟩ := hl.1
  have hts := C.1.2.2.2.2
  have hR := C.2.2.2.2.2.2.1
  refine va_copyi C.1.1 C.1.2.1 (C.1.2.2.1.trans hlv.1.symm) C.1.2.2.2.1 (hts _ lk) (hts _ w1) (hts _ w2) (hts _ w3) C.2.2.2.2.1 Wd.2.2.2.1 Wd.2.2.2.2.1 Wd.2.2.2.2.2 i0 i1 0 0 (c0 := dA 0) (c1 := dA 0) (n0 := n0) (n1 := n1) (f := σ (10 + i0)) (g := σ (10 + i1)) (ty := .int) (by rw [lt_w_get, hi0]; rfl) (by rw [lt_w_get, hi1]; rfl) rfl rfl rfl (nI_pos (by omega)) (nI_pos (by omega)) (nI_pos (by omega)) (by rw [e1, e3]; exact hs) (by rw [e2, e3]; exact ht) (fun _ _ => rfl) (by omega) ?_ hd (fun H1 locs1 hP hD hS => ?_)
  · rw [ho.2.2.2.2.2.cat ad]
    have : nativeFrameWords "java/lang/System" "arraycopy" 5 = 7 := by decide +kernel
    rw [this]
    omega
  · have hset : (lt_w dA ad σ 10 sh).set i1 (ad (10 + i1), .inl (dA 0, n1, .inl (va_cpy (σ (10 + i0)) (σ (10 + i1)) (nI sp).toNatClampNeg (nI dp).toNatClampNeg (nI n).toNatClampNeg))) = lt_w dA ad (lt_ur σ (10 + i1) (va_cpy (σ (10 + i0)) (σ (10 + i1)) sp dp n)) 10 sh := by
      rw [e1, e2, e3]
      exact lt_ur_w (va_cpy (σ (10 + i0)) (σ (10 + i1)) sp dp n) hi1
    rw [hset] at hP hD
    exact kk p e R s m args below meth c H1 locs1 Z D dA ad0 ad A N0 ls C ⟨Wd.1, Wd.2.1, Wd.2.2.1, hP, hD, hS⟩ hl ho.2.2.2.2.2 hr
theorem g_max {x y : Int32} {idx pc2 : Nat} (lk : Cond.methodLink M.1.cls idx Lib.Math.max.name ∈ lt_tb) (w1 : Cond.static Lib.Math.max.name ∈ lt_tb) (w2 : Cond.initialized "java/lang/Math" ∈ lt_tb) (w3 : Cond.code Lib.Math.max.name Lib.Math.max.code 2 (some .int) ∈ lt_tb) (hst : st.length ≤ 8) (hdp : 1 ≤ d) (hc : ck ≤ mc) (hs : cn ≤ ms) (hd : decode M.2.1 pc = .ok (.invokestatic idx, 3)) (he : pc + 3 = pc2)
    (kk : lt_G l d mc ms M ck cn sh σ pc2 L (.int (if x < y then y else x) :: st) Q) : lt_G l d mc ms M ck cn sh σ pc L (.int y :: .int x :: st) Q := by
  subst he
  intro p e R s m args below meth c H locs Z D dA ad0 ad A N0 ls C Wd hl ho hr
  obtain ⟨lv, hlv, -⟩ := hl.1
  have hts := C.1.2.2.2.2
  have hR := C.2.2.2.2.2.2.1
  refine va_mmax C.1.1 C.1.2.1 (C.1.2.2.1.trans hlv.1.symm) C.1.2.2.2.1 (hts _ lk) (hts _ w1) (hts _ w2) (hts _ w3) (by omega) (by rw [ho.2.2.cat ad]; omega) (by omega) (by omega) hd ?_
  exact kk p e R s m args below meth c H locs Z D dA ad0 ad A N0 ls C Wd hl ⟨trivial, ho.2.2⟩ hr
theorem g_min {x y : Int32} {idx pc2 : Nat} (lk : Cond.methodLink M.1.cls idx Lib.Math.min.name ∈ lt_tb) (w1 : Cond.static Lib.Math.min.name ∈ lt_tb) (w2 : Cond.initialized "java/lang/Math" ∈ lt_tb) (w3 : Cond.code Lib.Math.min.name Lib.Math.min.code 2 (some .int) ∈ lt_tb) (hst : st.length ≤ 8) (hdp : 1 ≤ d) (hc : ck ≤ mc) (hs : cn ≤ ms) (hd : decode M.2.1 pc = .ok (.invokestatic idx, 3)) (he : pc + 3 = pc2)
    (kk : lt_G l d mc ms M ck cn sh σ pc2 L (.int (if y < x then y else x) :: st) Q) : lt_G l d mc ms M ck cn sh σ pc L (.int y :: .int x :: st) Q := by
  subst he
  intro p e R s m args below meth c H locs Z D dA ad0 ad A N0 ls C Wd hl ho hr
  obtain ⟨lv, hlv, -⟩ := hl.1
  have hts := C.1.2.2.2.2
  have hR := C.2.2.2.2.2.2.1
  refine va_mmin C.1.1 C.1.2.1 (C.1.2.2.1.trans hlv.1.symm) C.1.2.2.2.1 (hts _ lk) (hts _ w1) (hts _ w2) (hts _ w3) (by omega) (by rw [ho.2.2.cat ad]; omega) (by omega) (by omega) hd ?_
  exact kk p e R s m args below meth c H locs Z D dA ad0 ad A N0 ls C Wd hl ⟨trivial, ho.2.2⟩ hr
/-! what lies outside -/
theorem lt_X.sc {ad : Nat → Nat} {xl : Nat} {xs : Nat → Int32} {A : Nat → Prop} {U : State} {H : Heap} (h : lt_X ad xl xs A U H) : va_X (ad 0) xl xs U H ∧ ad 0 < H.size ∧ ¬ A (ad 0) := ⟨h.1, h.2.1, h.2.2.1⟩
theorem g_xald {j pc2 : Nat} (hj : j < l.2.1) (hn : l.2.1 < 2 ^ 31) (hd : decode M.2.1 pc = .ok (.iaload, 1)) (he : pc + 1 = pc2) (kk : lt_G l d mc ms M ck cn sh σ pc2 L (.int (l.2.2 j) :: st) Q) : lt_G l d mc ms M ck cn sh σ pc L (.int (nI j) :: .ref 0 :: st) Q := by
  subst he
  intro p e R s m args below meth c H locs Z D dA ad0 ad A N0 ls C Wd hl ho hr
  obtain ⟨h1, h2, h3⟩ := C.2.2.2.2.2.2.2.sc
  have hj9 : (nI j).toNatClampNeg = j := nI_clamp (by omega)
  have e0 : ad 0 = ad0 0 := Wd.1 0 (by omega)
  show W p l.1 e R s m args below meth c H locs ck cn Z (F0 m pc ls (.int (nI j) :: .ref (ad 0) :: st.map (lt_tr ad)))
  rw [e0]
  refine va_sld C.1.1 C.1.2.1 h1 h2 h3 Wd.2.2.2.2.2 (vp_in_nI hj hn) hd ?_
  rw [hj9]
  exact kk p e R s m args below meth c H locs Z D dA ad0 ad A N0 ls C Wd hl ⟨trivial, ho.2.2⟩ hr
theorem g_xlen {pc2 : Nat} (hd : decode M.2.1 pc = .ok (.arraylength, 1)) (he : pc + 1 = pc2) (kk : lt_G l d mc ms M ck cn sh σ pc2 L (.int (nI l.2.1) :: st) Q) : lt_G l d mc ms M ck cn sh σ pc L (.ref 0 :: st) Q := by
  subst he
  intro p e R s m args below meth c H locs Z D dA ad0 ad A N0 ls C Wd hl ho hr
  obtain ⟨h1, h2, h3⟩ := C.2.2.2.2.2.2.2.sc
  have e0 : ad 0 = ad0 0 := Wd.1 0 (by omega)
  show W p l.1 e R s m args below meth c H locs ck cn Z (F0 m pc ls (.ref (ad 0) :: st.map (lt_tr ad)))
  rw [e0]
  refine va_slen C.1.1 C.1.2.1 h1 h2 h3 Wd.2.2.2.2.2 hd ?_
  exact kk p e R s m args below meth c H locs Z D dA ad0 ad A N0 ls C Wd hl ⟨trivial, ho.2⟩ hr
/-- ldc of a text's constant -/
theorem g_ldcS0 {pc2 : Nat} (hm : M.1.cls = RX7) (hd : decode M.2.1 pc = .ok (.ldc 67, 2)) (he : pc + 2 = pc2) (kk : lt_G l d mc ms M ck cn sh σ pc2 L (.ref 1 :: st) Q) : lt_G l d mc ms M ck cn sh σ pc L st Q := by
  subst he
  intro p e R s m args below meth c H locs Z D dA ad0 ad A N0 ls C Wd hl ho hr
  have e0 : ad 1 = ad0 1 := Wd.1 1 (by omega)
  refine va_ldcS C.1.1 C.1.2.1 C.1.2.2.2.1 (q := ad 1) (tx := lt_t0) (by rw [hm, e0]; exact C.2.2.2.2.2.2.2.2.2.2.2.1) hd ?_
  exact kk p e R s m args below meth c H locs Z D dA ad0 ad A N0 ls C Wd hl ⟨show 1 < 10 + sh.length by omega, ho⟩ hr
theorem g_ldcS1 {pc2 : Nat} (hm : M.1.cls = RX3) (hd : decode M.2.1 pc = .ok (.ldc 55, 2)) (he : pc + 2 = pc2) (kk : lt_G l d mc ms M ck cn sh σ pc2 L (.ref 2 :: st) Q) : lt_G l d mc ms M ck cn sh σ pc L st Q := by
  subst he
  intro p e R s m args below meth c H locs Z D dA ad0 ad A N0 ls C Wd hl ho hr
  have e0 : ad 2 = ad0 2 := Wd.1 2 (by omega)
  refine va_ldcS C.1.1 C.1.2.1 C.1.2.2.2.1 (q := ad 2) (tx := lt_t1) (by rw [hm, e0]; exact C.2.2.2.2.2.2.2.2.2.2.2.2.1) hd ?_
  exact kk p e R s m args below meth c H locs Z D dA ad0 ad A N0 ls C Wd hl ⟨show 2 < 10 + sh.length by omega, ho⟩ hr
/-- a text's bytes, its coder, by getfield -/
theorem g_sval {i idx pc2 : Nat} (hi : i < 2) (lk : Cond.fieldLink M.1.cls idx RJ0 "value" "[B" ∈ lt_tb) (hd : decode M.2.1 pc = .ok (.getfield idx, 3)) (he : pc + 3 = pc2) (kk : lt_G l d mc ms M ck cn sh σ pc2 L (.ref (3 + i) :: st) Q) : lt_G l d mc ms M ck cn sh σ pc L (.ref (1 + i) :: st) Q := by
  subst he
  intro p e R s m args below meth c H locs Z D dA ad0 ad A N0 ls C Wd hl ho hr
  have e0 : ad (1 + i) = ad0 (1 + i) := Wd.1 _ (by omega)
  have e1 : ad (3 + i) = ad0 (3 + i) := Wd.1 _ (by omega)
  have hS := C.2.2.2.2.2.2.2.2.2.2.1
  show W p l.1 e R s m args below meth c H locs ck cn Z (F0 m pc ls (.ref (ad (1 + i)) :: st.map (lt_tr ad)))
  rw [e0]
  refine vk_getf (v := .ref (ad0 (3 + i))) C.1.1 C.1.2.1 (hS.1 i hi).2.2.1 Wd.2.2.2.2.2 C.1.2.2.2.1 (C.1.2.2.2.2 _ lk) (fun _ h => h) hd ?_
  rw [← e1]
  exact kk p e R s m args below meth c H locs Z D dA ad0 ad A N0 ls C Wd hl ⟨show 3 + i < 10 + sh.length by omega, ho.2⟩ hr
theorem g_scod {i idx pc2 : Nat} (hi : i < 2) (lk : Cond.fieldLink M.1.cls idx RJ0 "coder" "B" ∈ lt_tb) (hd : decode M.2.1 pc = .ok (.getfield idx, 3)) (he : pc + 3 = pc2) (kk : lt_G l d mc ms M ck cn sh σ pc2 L (.int 0 :: st) Q) : lt_G l d mc ms M ck cn sh σ pc L (.ref (1 + i) :: st) Q := by
  subst he
  intro p e R s m args below meth c H locs Z D dA ad0 ad A N0 ls C Wd hl ho hr
  have e0 : ad (1 + i) = ad0 (1 + i) := Wd.1 _ (by omega)
  have hS := C.2.2.2.2.2.2.2.2.2.2.1
  show W p l.1 e R s m args below meth c H locs ck cn Z (F0 m pc ls (.ref (ad (1 + i)) :: st.map (lt_tr ad)))
  rw [e0]
  refine vk_getf (v := .int 0) C.1.1 C.1.2.1 (hS.1 i hi).2.1 Wd.2.2.2.2.2 C.1.2.2.2.1 (C.1.2.2.2.2 _ lk) (fun _ h => h) hd ?_
  exact kk p e R s m args below meth c H locs Z D dA ad0 ad A N0 ls C Wd hl ⟨trivial, ho.2⟩ hr
theorem g_sbyt {i j n pc2 : Nat} {b : Int32} (hi : i < 2) (hn : lt_len.getD i 0 = n) (hj : j < n) (hn2 : n < 2 ^ 31) (hb : (lt_byt.getD i []).getD j 0 = b) (hd : decode M.2.1 pc = .ok (.baload, 1)) (he : pc + 1 = pc2) (kk : lt_G l d mc ms M ck cn sh σ pc2 L (.int b :: st) Q) : lt_G l d mc ms M ck cn sh σ pc L (.int (nI j) :: .ref (3 + i) :: st) Q := by
  subst he
  subst hn
  intro p e R s m args below meth c H locs Z D dA ad0 ad A N0 ls C Wd hl ho hr
  have e1 : ad (3 + i) = ad0 (3 + i) := Wd.1 _ (by omega)
  have hS := C.2.2.2.2.2.2.2.2.2.2.1
  have hj9 : (nI j).toNatClampNeg = j := nI_clamp (by omega)
  show W p l.1 e R s m args below meth c H locs ck cn Z (F0 m pc ls (.int (nI j) :: .ref (ad (3 + i)) :: st.map (lt_tr ad)))
  rw [e1]
  refine va_tb (v := .int b) C.1.1 C.1.2.1 (hS.1 i hi).2.2.2 Wd.2.2.2.2.2 (vp_in_nI hj hn2) (by rw [hj9, hb]) hd ?_
  exact kk p e R s m args below meth c H locs Z D dA ad0 ad A N0 ls C Wd hl ⟨trivial, ho.2.2⟩ hr
theorem g_slen {i n pc2 : Nat} (hi : i < 2) (hn : lt_len.getD i 0 = n) (hd : decode M.2.1 pc = .ok (.arraylength, 1)) (he : pc + 1 = pc2) (kk : lt_G l d mc ms M ck cn sh σ pc2 L (.int (nI n) :: st) Q) : lt_G l d mc ms M ck cn sh σ pc L (.ref (3 + i) :: st) Q := by
  subst he
  subst hn
  intro p e R s m args below meth c H locs Z D dA ad0 ad A N0 ls C Wd hl ho hr
  have e1 : ad (3 + i) = ad0 (3 + i) := Wd.1 _ (by omega)
  have hS := C.2.2.2.2.2.2.2.2.2.2.1
  show W p l.1 e R s m args below meth c H locs ck cn Z (F0 m pc ls (.ref (ad (3 + i)) :: st.map (lt_tr ad)))
  rw [e1]
  refine va_tlen (v := nI (lt_len.getD i 0)) C.1.1 C.1.2.1 (hS.1 i hi).2.2.2 Wd.2.2.2.2.2 rfl hd ?_
  exact kk p e R s m args below meth c H locs Z D dA ad0 ad A N0 ls C Wd hl ⟨trivial, ho.2⟩ hr
/-- the two statics of the JDK's -/
theorem g_compact {idx pc2 : Nat} (lk : Cond.fieldLink M.1.cls idx RJ0 "COMPACT_STRINGS" "Z" ∈ lt_tb) (hd : decode M.2.1 pc = .ok (.getstatic idx, 3)) (he : pc + 3 = pc2) (kk : lt_G l d mc ms M ck cn sh σ pc2 L (.int 1 :: st) Q) : lt_G l d mc ms M ck cn sh σ pc L st Q := by
  subst he
  intro p e R s m args below meth c H locs Z D dA ad0 ad A N0 ls C Wd hl ho hr
  refine va_gets (v := .int 1) C.1.1 C.1.2.1 C.2.2.2.2.2.2.2.2.2.2.2.2.2.1 Wd.2.2.2.2.2 C.1.2.2.2.1 (C.1.2.2.2.2 _ lk) (fun _ h => h) hd ?_
  exact kk p e R s m args below meth c H locs Z D dA ad0 ad A N0 ls C Wd hl ⟨trivial, ho⟩ hr
theorem g_formatter {idx pc2 : Nat} (lk : Cond.fieldLink M.1.cls idx RJ3 "SIOOBE_FORMATTER" "Ljava/util/function/BiFunction;" ∈ lt_tb) (hd : decode M.2.1 pc = .ok (.getstatic idx, 3)) (he : pc + 3 = pc2) (k1 : lt_G l d mc ms M ck cn sh σ pc2 L (.null :: st) Q) (k2 : lt_G l d mc ms M ck cn sh σ pc2 L (.ref 5 :: st) Q) : lt_G l d mc ms M ck cn sh σ pc L st Q := by
  subst he
  intro p e R s m args below meth c H locs Z D dA ad0 ad A N0 ls C Wd hl ho hr
  have e1 : ad 5 = ad0 5 := Wd.1 _ (by omega)
  rcases C.2.2.2.2.2.2.2.2.2.2.2.2.2.2.1 with h | h
  · refine va_gets (v := .null) C.1.1 C.1.2.1 h Wd.2.2.2.2.2 C.1.2.2.2.1 (C.1.2.2.2.2 _ lk) (fun _ h => h) hd ?_
    exact k1 p e R s m args below meth c H locs Z D dA ad0 ad A N0 ls C Wd hl ⟨trivial, ho⟩ hr
  · refine va_gets (v := .ref (ad0 5)) C.1.1 C.1.2.1 h Wd.2.2.2.2.2 C.1.2.2.2.1 (C.1.2.2.2.2 _ lk) (fun _ h => h) hd ?_
    rw [← e1]
    exact k2 p e R s m args below meth c H locs Z D dA ad0 ad A N0 ls C Wd hl ⟨show 5 < 10 + sh.length by omega, ho⟩ hr
end LT2
