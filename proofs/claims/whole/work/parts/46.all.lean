/-! the law, from its entry -/
theorem law_all (l : lt_L) (hL : l.2.1 ≤ 2560) : lt_G l 20 600000 7302250 mL 0 0 [] (fun _ _ => 0) 0 [some (.ref 0), none, none, none] [] QL := by
  refine g_new (ci := 7) (fs := [some .null, some .null, some .null, some .null, some .null, some .null, some .null, some .null]) (pc2 := 3) rfl coX7 clL_7 inX7 izX7 nf7 nn7 ⟨by decide, by decide⟩ dL_law_0 rfl ?_
  show lt_G l 20 600000 7302250 mL 1 8 s7_0 (lt_ur (fun _ _ => 0) 10 (fun _ => 0)) 3 _ [.ref 10] _
  refine g_dup (pc2 := 4) dL_law_3 rfl ?_
  refine g_callI (pc2 := 7) (R_i_class l 11 _) rfl meX7_init mlL_9 rfl rfl (by simp) ⟨by decide, by decide⟩ dL_law_4 rfl ?_
  rintro r sh1 σ1 ⟨rfl, rfl, ln, T, N, c1, c2, c3⟩
  show lt_G l 20 600000 7302250 mL 66 675 (lt_SC ++ []) σ1 7 _ [.ref 10] _
  refine g_as1 (pc2 := 8) dL_law_7 (by decide) rfl ?_
  refine g_new (ci := 8) (fs := [some .null, some .null, some .null, none, some .null, none, none, some .null, none, some .null, some .null, some .null, some .null, none, none]) (pc2 := 11) rfl coX8 clL_10 inX8 izX8 nf8 nn8 ⟨by decide, by decide⟩ dL_law_8 rfl ?_
  show lt_G l 20 600000 7302250 mL 67 690 (lt_SC ++ m8_0) (lt_ur σ1 76 (fun _ => 0)) 11 _ [.ref 76] _
  refine g_dup (pc2 := 12) dL_law_11 rfl ?_
  refine g_callI (pc2 := 15) (R_i_model l 17 _ (by rw [lt_ur_eq]; rfl)) rfl meX8_init mlL_12 rfl rfl (by simp) ⟨by decide, by decide⟩ dL_law_12 rfl ?_
  rintro r sh2 σ2 ⟨rfl, rfl, d1, d2, d3, d4⟩
  have lo : ∀ a, a < 76 → σ2 a = σ1 a := fun a ha => by rw [d1 a ha, lt_ur_ne _ _ (by omega)]
  have hrel : RelE σ2 := by
    refine ⟨0, fun _ => 0, ln, T, N, 0, 0, ?_, ?_, ⟨?_, by decide, fun j hj => by omega⟩, ⟨d3, by decide, fun j hj => by omega⟩, d2, fun _ _ => 0, fun a ha => by omega⟩
    · rw [d4]
      exact c1.off (fun x hx => lo x (by omega))
    · unfold KP
      rw [lo 44 (by decide)]
      exact c2
    · rw [lo 11 (by decide)]
      exact c3
  show lt_G l 20 600000 7302250 mL 76 2242 lt_SA σ2 15 _ [.ref 76] _
  refine g_as2 (pc2 := 16) dL_law_15 (by decide) rfl ?_
  refine g_iconst (pc2 := 17) dL_law_16 k_iconst_0 rfl ?_
  refine g_is3 (pc2 := 18) dL_law_17 (by decide) rfl ?_
  exact law_loop l 0 76 2242 hL (by decide) (by decide) l.2.1 0 σ2 (by omega) (by decide) hrel
