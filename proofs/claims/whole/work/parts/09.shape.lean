/-! the shape of all cells: the class's 10 to 75, the reference's 76 to 85 -/
def lt_SC : lt_H := [.inr (.inr (7, [some (.ref 11), some (.ref 13), some (.ref 18), some (.ref 23), some (.ref 25), some (.ref 37), some (.ref 39), some (.ref 44)])), .inr (.inr (5, [some (.ref 12), none])), .inl (1, 200), .inr (.inr (6, [none, none, none, none, some (.ref 14), some (.ref 15), some (.ref 16), some (.ref 17)])), .inl (0, 12), .inl (0, 7), .inl (0, 7), .inl (0, 7), .inr (.inr (2, [some (.ref 19), some (.ref 20), some (.ref 21), some (.ref 22)])), .inl (0, 7), .inl (0, 7), .inl (0, 7), .inl (0, 7), .inr (.inr (3, [some (.ref 11), some (.ref 13), some (.ref 18), some (.ref 24), none])), .inl (0, 6), .inr (.inr (3, [some (.ref 11), some (.ref 26), some (.ref 31), some (.ref 36), none])), .inr (.inr (6, [none, none, none, none, some (.ref 27), some (.ref 28), some (.ref 29), some (.ref 30)])), .inl (0, 12), .inl (0, 7), .inl (0, 7), .inl (0, 7), .inr (.inr (2, [some (.ref 32), some (.ref 33), some (.ref 34), some (.ref 35)])), .inl (0, 7), .inl (0, 7), .inl (0, 7), .inl (0, 7), .inl (0, 6), .inr (.inr (0, [some (.ref 13), some (.ref 18), some (.ref 38)])), .inl (0, 28), .inr (.inr (4, [some (.ref 13), some (.ref 18), some (.ref 37), some (.ref 40), some (.ref 41), some (.ref 42), some (.ref 43), none])), .inl (0, 35), .inl (0, 8), .inl (0, 7), .inl (0, 7), .inr (.inr (1, [some (.ref 45), none, none])), .inr (.inl [some 46, some 51, some 56, some 61, some 66, some 71]), .inr (.inr (2, [some (.ref 47), some (.ref 48), some (.ref 49), some (.ref 50)])), .inl (0, 7), .inl (0, 7), .inl (0, 7), .inl (0, 7), .inr (.inr (2, [some (.ref 52), some (.ref 53), some (.ref 54), some (.ref 55)])), .inl (0, 7), .inl (0, 7), .inl (0, 7), .inl (0, 7), .inr (.inr (2, [some (.ref 57), some (.ref 58), some (.ref 59), some (.ref 60)])), .inl (0, 7), .inl (0, 7), .inl (0, 7), .inl (0, 7), .inr (.inr (2, [some (.ref 62), some (.ref 63), some (.ref 64), some (.ref 65)])), .inl (0, 7), .inl (0, 7), .inl (0, 7), .inl (0, 7), .inr (.inr (2, [some (.ref 67), some (.ref 68), some (.ref 69), some (.ref 70)])), .inl (0, 7), .inl (0, 7), .inl (0, 7), .inl (0, 7), .inr (.inr (2, [some (.ref 72), some (.ref 73), some (.ref 74), some (.ref 75)])), .inl (0, 7), .inl (0, 7), .inl (0, 7), .inl (0, 7)]
def lt_SM : lt_H := [.inr (.inr (8, [some (.ref 77), some (.ref 78), some (.ref 79), none, some (.ref 80), none, none, some (.ref 81), none, some (.ref 82), some (.ref 83), some (.ref 84), some (.ref 85), none, none])), .inl (0, 65), .inl (0, 65), .inl (0, 390), .inl (0, 200), .inl (0, 6), .inl (2, 28), .inl (2, 784), .inl (0, 7), .inl (0, 7)]
def lt_SA : lt_H := lt_SC ++ lt_SM
theorem at_10 (t : lt_H) : lt_at (lt_SC ++ t) 10 = some (.inr (.inr (7, [some (.ref 11), some (.ref 13), some (.ref 18), some (.ref 23), some (.ref 25), some (.ref 37), some (.ref 39), some (.ref 44)]))) := rfl
theorem at_11 (t : lt_H) : lt_at (lt_SC ++ t) 11 = some (.inr (.inr (5, [some (.ref 12), none]))) := rfl
theorem at_12 (t : lt_H) : lt_at (lt_SC ++ t) 12 = some (.inl (1, 200)) := rfl
theorem at_13 (t : lt_H) : lt_at (lt_SC ++ t) 13 = some (.inr (.inr (6, [none, none, none, none, some (.ref 14), some (.ref 15), some (.ref 16), some (.ref 17)]))) := rfl
theorem at_14 (t : lt_H) : lt_at (lt_SC ++ t) 14 = some (.inl (0, 12)) := rfl
theorem at_15 (t : lt_H) : lt_at (lt_SC ++ t) 15 = some (.inl (0, 7)) := rfl
theorem at_16 (t : lt_H) : lt_at (lt_SC ++ t) 16 = some (.inl (0, 7)) := rfl
theorem at_17 (t : lt_H) : lt_at (lt_SC ++ t) 17 = some (.inl (0, 7)) := rfl
theorem at_18 (t : lt_H) : lt_at (lt_SC ++ t) 18 = some (.inr (.inr (2, [some (.ref 19), some (.ref 20), some (.ref 21), some (.ref 22)]))) := rfl
theorem at_19 (t : lt_H) : lt_at (lt_SC ++ t) 19 = some (.inl (0, 7)) := rfl
theorem at_20 (t : lt_H) : lt_at (lt_SC ++ t) 20 = some (.inl (0, 7)) := rfl
theorem at_21 (t : lt_H) : lt_at (lt_SC ++ t) 21 = some (.inl (0, 7)) := rfl
theorem at_22 (t : lt_H) : lt_at (lt_SC ++ t) 22 = some (.inl (0, 7)) := rfl
theorem at_23 (t : lt_H) : lt_at (lt_SC ++ t) 23 = some (.inr (.inr (3, [some (.ref 11), some (.ref 13), some (.ref 18), some (.ref 24), none]))) := rfl
theorem at_24 (t : lt_H) : lt_at (lt_SC ++ t) 24 = some (.inl (0, 6)) := rfl
theorem at_25 (t : lt_H) : lt_at (lt_SC ++ t) 25 = some (.inr (.inr (3, [some (.ref 11), some (.ref 26), some (.ref 31), some (.ref 36), none]))) := rfl
theorem at_26 (t : lt_H) : lt_at (lt_SC ++ t) 26 = some (.inr (.inr (6, [none, none, none, none, some (.ref 27), some (.ref 28), some (.ref 29), some (.ref 30)]))) := rfl
theorem at_27 (t : lt_H) : lt_at (lt_SC ++ t) 27 = some (.inl (0, 12)) := rfl
theorem at_28 (t : lt_H) : lt_at (lt_SC ++ t) 28 = some (.inl (0, 7)) := rfl
theorem at_29 (t : lt_H) : lt_at (lt_SC ++ t) 29 = some (.inl (0, 7)) := rfl
theorem at_30 (t : lt_H) : lt_at (lt_SC ++ t) 30 = some (.inl (0, 7)) := rfl
theorem at_31 (t : lt_H) : lt_at (lt_SC ++ t) 31 = some (.inr (.inr (2, [some (.ref 32), some (.ref 33), some (.ref 34), some (.ref 35)]))) := rfl
theorem at_32 (t : lt_H) : lt_at (lt_SC ++ t) 32 = some (.inl (0, 7)) := rfl
theorem at_33 (t : lt_H) : lt_at (lt_SC ++ t) 33 = some (.inl (0, 7)) := rfl
theorem at_34 (t : lt_H) : lt_at (lt_SC ++ t) 34 = some (.inl (0, 7)) := rfl
theorem at_35 (t : lt_H) : lt_at (lt_SC ++ t) 35 = some (.inl (0, 7)) := rfl
theorem at_36 (t : lt_H) : lt_at (lt_SC ++ t) 36 = some (.inl (0, 6)) := rfl
theorem at_37 (t : lt_H) : lt_at (lt_SC ++ t) 37 = some (.inr (.inr (0, [some (.ref 13), some (.ref 18), some (.ref 38)]))) := rfl
theorem at_38 (t : lt_H) : lt_at (lt_SC ++ t) 38 = some (.inl (0, 28)) := rfl
theorem at_39 (t : lt_H) : lt_at (lt_SC ++ t) 39 = some (.inr (.inr (4, [some (.ref 13), some (.ref 18), some (.ref 37), some (.ref 40), some (.ref 41), some (.ref 42), some (.ref 43), none]))) := rfl
theorem at_40 (t : lt_H) : lt_at (lt_SC ++ t) 40 = some (.inl (0, 35)) := rfl
theorem at_41 (t : lt_H) : lt_at (lt_SC ++ t) 41 = some (.inl (0, 8)) := rfl
theorem at_42 (t : lt_H) : lt_at (lt_SC ++ t) 42 = some (.inl (0, 7)) := rfl
theorem at_43 (t : lt_H) : lt_at (lt_SC ++ t) 43 = some (.inl (0, 7)) := rfl
theorem at_44 (t : lt_H) : lt_at (lt_SC ++ t) 44 = some (.inr (.inr (1, [some (.ref 45), none, none]))) := rfl
theorem at_45 (t : lt_H) : lt_at (lt_SC ++ t) 45 = some (.inr (.inl [some 46, some 51, some 56, some 61, some 66, some 71])) := rfl
theorem at_46 (t : lt_H) : lt_at (lt_SC ++ t) 46 = some (.inr (.inr (2, [some (.ref 47), some (.ref 48), some (.ref 49), some (.ref 50)]))) := rfl
theorem at_47 (t : lt_H) : lt_at (lt_SC ++ t) 47 = some (.inl (0, 7)) := rfl
theorem at_48 (t : lt_H) : lt_at (lt_SC ++ t) 48 = some (.inl (0, 7)) := rfl
theorem at_49 (t : lt_H) : lt_at (lt_SC ++ t) 49 = some (.inl (0, 7)) := rfl
theorem at_50 (t : lt_H) : lt_at (lt_SC ++ t) 50 = some (.inl (0, 7)) := rfl
theorem at_51 (t : lt_H) : lt_at (lt_SC ++ t) 51 = some (.inr (.inr (2, [some (.ref 52), some (.ref 53), some (.ref 54), some (.ref 55)]))) := rfl
theorem at_52 (t : lt_H) : lt_at (lt_SC ++ t) 52 = some (.inl (0, 7)) := rfl
theorem at_53 (t : lt_H) : lt_at (lt_SC ++ t) 53 = some (.inl (0, 7)) := rfl
theorem at_54 (t : lt_H) : lt_at (lt_SC ++ t) 54 = some (.inl (0, 7)) := rfl
theorem at_55 (t : lt_H) : lt_at (lt_SC ++ t) 55 = some (.inl (0, 7)) := rfl
theorem at_56 (t : lt_H) : lt_at (lt_SC ++ t) 56 = some (.inr (.inr (2, [some (.ref 57), some (.ref 58), some (.ref 59), some (.ref 60)]))) := rfl
theorem at_57 (t : lt_H) : lt_at (lt_SC ++ t) 57 = some (.inl (0, 7)) := rfl
theorem at_58 (t : lt_H) : lt_at (lt_SC ++ t) 58 = some (.inl (0, 7)) := rfl
theorem at_59 (t : lt_H) : lt_at (lt_SC ++ t) 59 = some (.inl (0, 7)) := rfl
theorem at_60 (t : lt_H) : lt_at (lt_SC ++ t) 60 = some (.inl (0, 7)) := rfl
theorem at_61 (t : lt_H) : lt_at (lt_SC ++ t) 61 = some (.inr (.inr (2, [some (.ref 62), some (.ref 63), some (.ref 64), some (.ref 65)]))) := rfl
theorem at_62 (t : lt_H) : lt_at (lt_SC ++ t) 62 = some (.inl (0, 7)) := rfl
theorem at_63 (t : lt_H) : lt_at (lt_SC ++ t) 63 = some (.inl (0, 7)) := rfl
theorem at_64 (t : lt_H) : lt_at (lt_SC ++ t) 64 = some (.inl (0, 7)) := rfl
theorem at_65 (t : lt_H) : lt_at (lt_SC ++ t) 65 = some (.inl (0, 7)) := rfl
theorem at_66 (t : lt_H) : lt_at (lt_SC ++ t) 66 = some (.inr (.inr (2, [some (.ref 67), some (.ref 68), some (.ref 69), some (.ref 70)]))) := rfl
theorem at_67 (t : lt_H) : lt_at (lt_SC ++ t) 67 = some (.inl (0, 7)) := rfl
theorem at_68 (t : lt_H) : lt_at (lt_SC ++ t) 68 = some (.inl (0, 7)) := rfl
theorem at_69 (t : lt_H) : lt_at (lt_SC ++ t) 69 = some (.inl (0, 7)) := rfl
theorem at_70 (t : lt_H) : lt_at (lt_SC ++ t) 70 = some (.inl (0, 7)) := rfl
theorem at_71 (t : lt_H) : lt_at (lt_SC ++ t) 71 = some (.inr (.inr (2, [some (.ref 72), some (.ref 73), some (.ref 74), some (.ref 75)]))) := rfl
theorem at_72 (t : lt_H) : lt_at (lt_SC ++ t) 72 = some (.inl (0, 7)) := rfl
theorem at_73 (t : lt_H) : lt_at (lt_SC ++ t) 73 = some (.inl (0, 7)) := rfl
theorem at_74 (t : lt_H) : lt_at (lt_SC ++ t) 74 = some (.inl (0, 7)) := rfl
theorem at_75 (t : lt_H) : lt_at (lt_SC ++ t) 75 = some (.inl (0, 7)) := rfl
theorem at_76 : lt_at lt_SA 76 = some (.inr (.inr (8, [some (.ref 77), some (.ref 78), some (.ref 79), none, some (.ref 80), none, none, some (.ref 81), none, some (.ref 82), some (.ref 83), some (.ref 84), some (.ref 85), none, none]))) := rfl
theorem at_77 : lt_at lt_SA 77 = some (.inl (0, 65)) := rfl
theorem at_78 : lt_at lt_SA 78 = some (.inl (0, 65)) := rfl
theorem at_79 : lt_at lt_SA 79 = some (.inl (0, 390)) := rfl
theorem at_80 : lt_at lt_SA 80 = some (.inl (0, 200)) := rfl
theorem at_81 : lt_at lt_SA 81 = some (.inl (0, 6)) := rfl
theorem at_82 : lt_at lt_SA 82 = some (.inl (2, 28)) := rfl
theorem at_83 : lt_at lt_SA 83 = some (.inl (2, 784)) := rfl
theorem at_84 : lt_at lt_SA 84 = some (.inl (0, 7)) := rfl
theorem at_85 : lt_at lt_SA 85 = some (.inl (0, 7)) := rfl
/-- a contract with one answer and one store behind it, no new cell -/
abbrev lt_E (r : Option Int32) (sh : lt_H) (σ' : lt_S) : lt_Q := fun r' sh' s' => r' = r ∧ sh' = sh ∧ s' = σ'
abbrev lt_g (l : lt_L) (d : Nat) (M : lt_M) (sh : lt_H) (σ : lt_S) (pc : Nat) (L : List (Option Value)) (st : List Value) (r : Option Int32) (σ' : lt_S) : Prop := lt_G l d 0 0 M 0 0 sh σ pc L st (lt_E r sh σ')
def lt_T (l : lt_L) (d : Nat) (M : lt_M) (sh : lt_H) (σ : lt_S) (as : List Value) (r : Option Int32) (σ' : lt_S) : Prop := lt_R l d 0 0 M sh σ as (lt_E r sh σ')
def bI (b : Bool) : Int32 := if b then nI 1 else nI 0
theorem bI_t : bI true = nI 1 := rfl
theorem bI_f : bI false = nI 0 := rfl
theorem bI_nar (b : Bool) : narrow .boolean (.int (bI b)) = .int (bI b) := by cases b <;> rfl
theorem bI_vp (b : Bool) : vp_nar .boolean (bI b) = bI b := by cases b <;> rfl
theorem bI_eq0 {b : Bool} : bI b = 0 ↔ b = false := by cases b <;> decide
theorem lt_T.of {l : lt_L} {d : Nat} {M : lt_M} {sh : lt_H} {σ σ' : lt_S} {as : List Value} {r : Option Int32} (L : List (Option Value)) (hy : plainName M.1.cls = true) (hL : as.map some ++ List.replicate (M.2.2.1 - as.length) none = L) (hlen : as.length ≤ M.2.2.1) (g : lt_g l d M sh σ 0 L [] r σ') : lt_T l d M sh σ as r σ' := lt_R.of L hy hL hlen g
theorem lt_G.post {l : lt_L} {d mc ms : Nat} {M : lt_M} {ck cn : Nat} {sh : lt_H} {σ : lt_S} {pc : Nat} {L : List (Option Value)} {st : List Value} {Q Q' : lt_Q} (h : ∀ r sh' σ', Q r sh' σ' → Q' r sh' σ') (g : lt_G l d mc ms M ck cn sh σ pc L st Q) : lt_G l d mc ms M ck cn sh σ pc L st Q' := by
  intro p e R s m args below meth c H locs Z D dA ad0 ad A N0 ls C Wd hl ho hr
  exact g p e R s m args below meth c H locs Z D dA ad0 ad A N0 ls C Wd hl ho (fun r sh' σ' ad' H' locs' pc' ls' hQ => hr r sh' σ' ad' H' locs' pc' ls' (h r sh' σ' hQ))
theorem lt_R.post {l : lt_L} {d mc ms : Nat} {M : lt_M} {sh : lt_H} {σ : lt_S} {as : List Value} {Q Q' : lt_Q} (h : ∀ r sh' σ', Q r sh' σ' → Q' r sh' σ') (g : lt_R l d mc ms M sh σ as Q) : lt_R l d mc ms M sh σ as Q' := by
  intro D dA ad sz hsok
  intro p e ha hc hk s m args below hf happ hpre hK
  obtain ⟨k, o, h1, h2, h3, ⟨⟨r, sh', σ', ad', q1, q2⟩, q3⟩, q4⟩ := g D dA ad sz hsok p e ha hc hk s m args below hf happ hpre hK
  exact ⟨k, o, h1, h2, h3, ⟨⟨r, sh', σ', ad', h r sh' σ' q1, q2⟩, q3⟩, q4⟩
section LT4
variable {l : lt_L} {d mc ms : Nat} {M : lt_M} {ck cn : Nat} {sh : lt_H} {σ : lt_S} {pc : Nat} {L : List (Option Value)} {st : List Value} {Q : lt_Q}
theorem g_cVi {a idx ci n pc2 : Nat} {M' : lt_M} {as stk : List Value} {fs : List (Option Value)} {x : Int32} {σ' : lt_S} (hR : lt_T l d M' sh σ (.ref a :: as) (some x) σ') (me : lt_meV M' n) (lk : Cond.methodLink M.1.cls idx M'.1 ∈ lt_tb) (hs : lt_at sh a = some (.inr (.inr (ci, fs)))) (hc : ∃ r, vwCl[ci]? = some r ∧ r.1 = M'.1.cls)
    (hn : as.length = n) (hstk : stk = as.reverse ++ .ref a :: st) (hst : st.length ≤ 8) (hcell : ck ≤ mc ∧ cn ≤ ms) (hd : decode M.2.1 pc = .ok (.invokevirtual idx, 3)) (he : pc + 3 = pc2)
    (kk : lt_G l (d + 1) mc ms M ck cn sh σ' pc2 L (.int x :: st) Q) : lt_G l (d + 1) mc ms M ck cn sh σ pc L stk Q :=
  g_callV hR me lk hs hc hn hstk hst hcell hd he (fun r sh' s' h => by obtain ⟨rfl, rfl, rfl⟩ := h; exact kk)
theorem g_cVv {a idx ci n pc2 : Nat} {M' : lt_M} {as stk : List Value} {fs : List (Option Value)} {σ' : lt_S} (hR : lt_T l d M' sh σ (.ref a :: as) none σ') (me : lt_meV M' n) (lk : Cond.methodLink M.1.cls idx M'.1 ∈ lt_tb) (hs : lt_at sh a = some (.inr (.inr (ci, fs)))) (hc : ∃ r, vwCl[ci]? = some r ∧ r.1 = M'.1.cls)
    (hn : as.length = n) (hstk : stk = as.reverse ++ .ref a :: st) (hst : st.length ≤ 8) (hcell : ck ≤ mc ∧ cn ≤ ms) (hd : decode M.2.1 pc = .ok (.invokevirtual idx, 3)) (he : pc + 3 = pc2)
    (kk : lt_G l (d + 1) mc ms M ck cn sh σ' pc2 L st Q) : lt_G l (d + 1) mc ms M ck cn sh σ pc L stk Q :=
  g_callV hR me lk hs hc hn hstk hst hcell hd he (fun r sh' s' h => by obtain ⟨rfl, rfl, rfl⟩ := h; exact kk)
theorem g_cSi {idx n pc2 : Nat} {M' : lt_M} {as stk : List Value} {x : Int32} {σ' : lt_S} (hR : lt_T l d M' sh σ as (some x) σ') (me : lt_meS M' n) (lk : Cond.methodLink M.1.cls idx M'.1 ∈ lt_tb)
    (hn : as.length = n) (hstk : stk = as.reverse ++ st) (hst : st.length ≤ 8) (hcell : ck ≤ mc ∧ cn ≤ ms) (hd : decode M.2.1 pc = .ok (.invokestatic idx, 3)) (he : pc + 3 = pc2)
    (kk : lt_G l (d + 1) mc ms M ck cn sh σ' pc2 L (.int x :: st) Q) : lt_G l (d + 1) mc ms M ck cn sh σ pc L stk Q :=
  g_callS hR me lk hn hstk hst hcell hd he (fun r sh' s' h => by obtain ⟨rfl, rfl, rfl⟩ := h; exact kk)
theorem g_cSv {idx n pc2 : Nat} {M' : lt_M} {as stk : List Value} {σ' : lt_S} (hR : lt_T l d M' sh σ as none σ') (me : lt_meS M' n) (lk : Cond.methodLink M.1.cls idx M'.1 ∈ lt_tb)
    (hn : as.length = n) (hstk : stk = as.reverse ++ st) (hst : st.length ≤ 8) (hcell : ck ≤ mc ∧ cn ≤ ms) (hd : decode M.2.1 pc = .ok (.invokestatic idx, 3)) (he : pc + 3 = pc2)
    (kk : lt_G l (d + 1) mc ms M ck cn sh σ' pc2 L st Q) : lt_G l (d + 1) mc ms M ck cn sh σ pc L stk Q :=
  g_callS hR me lk hn hstk hst hcell hd he (fun r sh' s' h => by obtain ⟨rfl, rfl, rfl⟩ := h; exact kk)
theorem g_if_eqB {b : Bool} {off : Int} (tgt pc2 : Nat) (hd : decode M.2.1 pc = .ok (.ifCond .eq off, 3)) (ht : (pc : Int) + off = (tgt : Int)) (he : pc + 3 = pc2) (kt : b = false → lt_G l d mc ms M ck cn sh σ tgt L st Q) (kf : b = true → lt_G l d mc ms M ck cn sh σ pc2 L st Q) : lt_G l d mc ms M ck cn sh σ pc L (.int (bI b) :: st) Q :=
  g_if_eq tgt pc2 hd ht he (fun h => kt (bI_eq0.mp h)) (fun h => kf (by cases b; exact absurd rfl h; rfl))
theorem g_if_neB {b : Bool} {off : Int} (tgt pc2 : Nat) (hd : decode M.2.1 pc = .ok (.ifCond .ne off, 3)) (ht : (pc : Int) + off = (tgt : Int)) (he : pc + 3 = pc2) (kt : b = true → lt_G l d mc ms M ck cn sh σ tgt L st Q) (kf : b = false → lt_G l d mc ms M ck cn sh σ pc2 L st Q) : lt_G l d mc ms M ck cn sh σ pc L (.int (bI b) :: st) Q :=
  g_if_ne tgt pc2 hd ht he (fun h => kt (by cases b; exact absurd rfl h; rfl)) (fun h => kf (bI_eq0.mp h))
theorem g_iretT {x y : Int32} {σ0 : lt_S} (hd : decode M.2.1 pc = .ok (.ireturn, 1)) (hm : M.2.2.2 = some .int) (hc : ck ≤ mc) (hs : cn ≤ ms) (k : x = y) (k2 : σ = σ0) : lt_G l d mc ms M ck cn sh σ pc L [.int x] (lt_E (some y) sh σ0) := g_iret hd hm hc hs ⟨congrArg some k, rfl, k2⟩
theorem g_zretT {x : Int32} {b : Bool} {σ0 : lt_S} (hd : decode M.2.1 pc = .ok (.ireturn, 1)) (hm : M.2.2.2 = some .boolean) (hc : ck ≤ mc) (hs : cn ≤ ms) (k : x = bI b) (k2 : σ = σ0) : lt_G l d mc ms M ck cn sh σ pc L [.int x] (lt_E (some (bI b)) sh σ0) := g_zret hd hm (by rw [k]; exact bI_nar b) hc hs ⟨congrArg some k, rfl, k2⟩
theorem g_retT {σ0 : lt_S} (hd : decode M.2.1 pc = .ok (.return_, 1)) (hm : M.2.2.2 = none) (hc : ck ≤ mc) (hs : cn ≤ ms) (k2 : σ = σ0) : lt_G l d mc ms M ck cn sh σ pc L [] (lt_E none sh σ0) := g_ret hd hm hc hs ⟨rfl, rfl, k2⟩
end LT4
/-- down a loop -/
theorem lt_dn {P : Nat → Prop} (n : Nat) (h0 : P n) (hs : ∀ k, k < n → P (k + 1) → P k) : ∀ k, k ≤ n → P k := by
  intro k hk
  induction h : n - k generalizing k with
  | zero => have : k = n := by omega
            rw [this]; exact h0
  | succ m ih => exact hs k (by omega) (ih (k + 1) (by omega) (by omega))
/-- a number as a natural one -/
def tN (x : Int32) : Nat := x.toNatClampNeg
theorem tN_nI {n : Nat} (h : n < 2 ^ 31) : tN (nI n) = n := nI_clamp h
theorem nI_inc (k : Nat) : nI k + Int32.ofInt 1 = nI (k + 1) := nI_1 k
theorem k_iconst_m1 : Int32.ofInt (-1) = (-1 : Int32) := by decide +kernel
theorem k_iconst_0 : Int32.ofInt 0 = nI 0 := by decide +kernel
theorem k_iconst_1 : Int32.ofInt 1 = nI 1 := by decide +kernel
theorem k_iconst_2 : Int32.ofInt 2 = nI 2 := by decide +kernel
theorem k_iconst_3 : Int32.ofInt 3 = nI 3 := by decide +kernel
theorem k_iconst_4 : Int32.ofInt 4 = nI 4 := by decide +kernel
theorem k_iconst_5 : Int32.ofInt 5 = nI 5 := by decide +kernel
theorem k_bipush_m20 : (Int8.ofInt (-20)).toInt32 = (-20 : Int32) := by decide +kernel
theorem k_bipush_m4 : (Int8.ofInt (-4)).toInt32 = (-4 : Int32) := by decide +kernel
theorem k_bipush_m3 : (Int8.ofInt (-3)).toInt32 = (-3 : Int32) := by decide +kernel
theorem k_bipush_m2 : (Int8.ofInt (-2)).toInt32 = (-2 : Int32) := by decide +kernel
theorem k_bipush_6 : (Int8.ofInt 6).toInt32 = nI 6 := by decide +kernel
theorem k_bipush_7 : (Int8.ofInt 7).toInt32 = nI 7 := by decide +kernel
theorem k_bipush_8 : (Int8.ofInt 8).toInt32 = nI 8 := by decide +kernel
theorem k_bipush_9 : (Int8.ofInt 9).toInt32 = nI 9 := by decide +kernel
theorem k_bipush_10 : (Int8.ofInt 10).toInt32 = nI 10 := by decide +kernel
theorem k_bipush_11 : (Int8.ofInt 11).toInt32 = nI 11 := by decide +kernel
theorem k_bipush_12 : (Int8.ofInt 12).toInt32 = nI 12 := by decide +kernel
theorem k_bipush_14 : (Int8.ofInt 14).toInt32 = nI 14 := by decide +kernel
theorem k_bipush_15 : (Int8.ofInt 15).toInt32 = nI 15 := by decide +kernel
theorem k_bipush_16 : (Int8.ofInt 16).toInt32 = nI 16 := by decide +kernel
theorem k_bipush_18 : (Int8.ofInt 18).toInt32 = nI 18 := by decide +kernel
theorem k_bipush_20 : (Int8.ofInt 20).toInt32 = nI 20 := by decide +kernel
theorem k_bipush_22 : (Int8.ofInt 22).toInt32 = nI 22 := by decide +kernel
theorem k_bipush_25 : (Int8.ofInt 25).toInt32 = nI 25 := by decide +kernel
theorem k_bipush_28 : (Int8.ofInt 28).toInt32 = nI 28 := by decide +kernel
theorem k_bipush_30 : (Int8.ofInt 30).toInt32 = nI 30 := by decide +kernel
theorem k_bipush_31 : (Int8.ofInt 31).toInt32 = nI 31 := by decide +kernel
theorem k_bipush_32 : (Int8.ofInt 32).toInt32 = nI 32 := by decide +kernel
theorem k_bipush_35 : (Int8.ofInt 35).toInt32 = nI 35 := by decide +kernel
theorem k_bipush_44 : (Int8.ofInt 44).toInt32 = nI 44 := by decide +kernel
theorem k_bipush_48 : (Int8.ofInt 48).toInt32 = nI 48 := by decide +kernel
theorem k_bipush_57 : (Int8.ofInt 57).toInt32 = nI 57 := by decide +kernel
theorem k_bipush_59 : (Int8.ofInt 59).toInt32 = nI 59 := by decide +kernel
theorem k_bipush_60 : (Int8.ofInt 60).toInt32 = nI 60 := by decide +kernel
theorem k_bipush_65 : (Int8.ofInt 65).toInt32 = nI 65 := by decide +kernel
theorem k_bipush_97 : (Int8.ofInt 97).toInt32 = nI 97 := by decide +kernel
theorem k_bipush_98 : (Int8.ofInt 98).toInt32 = nI 98 := by decide +kernel
theorem k_bipush_99 : (Int8.ofInt 99).toInt32 = nI 99 := by decide +kernel
theorem k_bipush_100 : (Int8.ofInt 100).toInt32 = nI 100 := by decide +kernel
theorem k_bipush_101 : (Int8.ofInt 101).toInt32 = nI 101 := by decide +kernel
theorem k_bipush_104 : (Int8.ofInt 104).toInt32 = nI 104 := by decide +kernel
theorem k_bipush_105 : (Int8.ofInt 105).toInt32 = nI 105 := by decide +kernel
theorem k_bipush_109 : (Int8.ofInt 109).toInt32 = nI 109 := by decide +kernel
theorem k_bipush_110 : (Int8.ofInt 110).toInt32 = nI 110 := by decide +kernel
theorem k_bipush_111 : (Int8.ofInt 111).toInt32 = nI 111 := by decide +kernel
theorem k_bipush_112 : (Int8.ofInt 112).toInt32 = nI 112 := by decide +kernel
theorem k_bipush_114 : (Int8.ofInt 114).toInt32 = nI 114 := by decide +kernel
theorem k_bipush_115 : (Int8.ofInt 115).toInt32 = nI 115 := by decide +kernel
theorem k_bipush_116 : (Int8.ofInt 116).toInt32 = nI 116 := by decide +kernel
theorem k_bipush_121 : (Int8.ofInt 121).toInt32 = nI 121 := by decide +kernel
theorem k_bipush_126 : (Int8.ofInt 126).toInt32 = nI 126 := by decide +kernel
theorem k_sipush_200 : (Int16.ofInt 200).toInt32 = nI 200 := by decide +kernel
theorem k_sipush_255 : (Int16.ofInt 255).toInt32 = nI 255 := by decide +kernel
theorem k_sipush_325 : (Int16.ofInt 325).toInt32 = nI 325 := by decide +kernel
theorem k_sipush_390 : (Int16.ofInt 390).toInt32 = nI 390 := by decide +kernel
theorem k_sipush_784 : (Int16.ofInt 784).toInt32 = nI 784 := by decide +kernel
theorem k_sipush_1000 : (Int16.ofInt 1000).toInt32 = nI 1000 := by decide +kernel
