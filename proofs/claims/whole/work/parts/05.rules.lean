section LT1
variable {l : lt_L} {d mc ms : Nat} {M : lt_M} {ck cn : Nat} {sh : lt_H} {σ : lt_S} {pc : Nat} {L : List (Option Value)} {st : List Value} {Q : lt_Q}
theorem g_iconst {n : Int} {v : Int32} {pc2 : Nat} (hd : decode M.2.1 pc = .ok (.iconst n, 1)) (hv : Int32.ofInt n = v) (he : pc + 1 = pc2) (k : lt_G l d mc ms M ck cn sh σ pc2 L (.int v :: st) Q) : lt_G l d mc ms M ck cn sh σ pc L st Q := by
  subst he
  intro p e R s m args below meth c H locs Z D dA ad0 ad A N0 ls C Wd hl ho hr
  exact lv_iconst C.1.1 C.1.2.1 hd hv (k p e R s m args below meth c H locs Z D dA ad0 ad A N0 ls C Wd hl ⟨trivial, ho⟩ hr)
theorem g_bipush {n : Int} {v : Int32} {pc2 : Nat} (hd : decode M.2.1 pc = .ok (.bipush n, 2)) (hv : (Int8.ofInt n).toInt32 = v) (he : pc + 2 = pc2) (k : lt_G l d mc ms M ck cn sh σ pc2 L (.int v :: st) Q) : lt_G l d mc ms M ck cn sh σ pc L st Q := by
  subst he
  intro p e R s m args below meth c H locs Z D dA ad0 ad A N0 ls C Wd hl ho hr
  exact lv_bipush C.1.1 C.1.2.1 hd hv (k p e R s m args below meth c H locs Z D dA ad0 ad A N0 ls C Wd hl ⟨trivial, ho⟩ hr)
theorem g_sipush {n : Int} {v : Int32} {pc2 : Nat} (hd : decode M.2.1 pc = .ok (.sipush n, 3)) (hv : (Int16.ofInt n).toInt32 = v) (he : pc + 3 = pc2) (k : lt_G l d mc ms M ck cn sh σ pc2 L (.int v :: st) Q) : lt_G l d mc ms M ck cn sh σ pc L st Q := by
  subst he
  intro p e R s m args below meth c H locs Z D dA ad0 ad A N0 ls C Wd hl ho hr
  exact lv_sipush C.1.1 C.1.2.1 hd hv (k p e R s m args below meth c H locs Z D dA ad0 ad A N0 ls C Wd hl ⟨trivial, ho⟩ hr)
theorem g_iadd {x y : Int32} {pc2 : Nat} (hd : decode M.2.1 pc = .ok (.iadd, 1)) (he : pc + 1 = pc2) (k : lt_G l d mc ms M ck cn sh σ pc2 L (.int (x + y) :: st) Q) : lt_G l d mc ms M ck cn sh σ pc L (.int y :: .int x :: st) Q := by
  subst he
  intro p e R s m args below meth c H locs Z D dA ad0 ad A N0 ls C Wd hl ho hr
  exact lv_iadd C.1.1 C.1.2.1 hd (k p e R s m args below meth c H locs Z D dA ad0 ad A N0 ls C Wd hl ⟨trivial, ho.2.2⟩ hr)
theorem g_isub {x y : Int32} {pc2 : Nat} (hd : decode M.2.1 pc = .ok (.isub, 1)) (he : pc + 1 = pc2) (k : lt_G l d mc ms M ck cn sh σ pc2 L (.int (x - y) :: st) Q) : lt_G l d mc ms M ck cn sh σ pc L (.int y :: .int x :: st) Q := by
  subst he
  intro p e R s m args below meth c H locs Z D dA ad0 ad A N0 ls C Wd hl ho hr
  exact lv_isub C.1.1 C.1.2.1 hd (k p e R s m args below meth c H locs Z D dA ad0 ad A N0 ls C Wd hl ⟨trivial, ho.2.2⟩ hr)
theorem g_imul {x y : Int32} {pc2 : Nat} (hd : decode M.2.1 pc = .ok (.imul, 1)) (he : pc + 1 = pc2) (k : lt_G l d mc ms M ck cn sh σ pc2 L (.int (x * y) :: st) Q) : lt_G l d mc ms M ck cn sh σ pc L (.int y :: .int x :: st) Q := by
  subst he
  intro p e R s m args below meth c H locs Z D dA ad0 ad A N0 ls C Wd hl ho hr
  exact lv_imul C.1.1 C.1.2.1 hd (k p e R s m args below meth c H locs Z D dA ad0 ad A N0 ls C Wd hl ⟨trivial, ho.2.2⟩ hr)
theorem g_iand {x y : Int32} {pc2 : Nat} (hd : decode M.2.1 pc = .ok (.iand, 1)) (he : pc + 1 = pc2) (k : lt_G l d mc ms M ck cn sh σ pc2 L (.int (x &&& y) :: st) Q) : lt_G l d mc ms M ck cn sh σ pc L (.int y :: .int x :: st) Q := by
  subst he
  intro p e R s m args below meth c H locs Z D dA ad0 ad A N0 ls C Wd hl ho hr
  exact lv_iand C.1.1 C.1.2.1 hd (k p e R s m args below meth c H locs Z D dA ad0 ad A N0 ls C Wd hl ⟨trivial, ho.2.2⟩ hr)
theorem g_ior {x y : Int32} {pc2 : Nat} (hd : decode M.2.1 pc = .ok (.ior, 1)) (he : pc + 1 = pc2) (k : lt_G l d mc ms M ck cn sh σ pc2 L (.int (x ||| y) :: st) Q) : lt_G l d mc ms M ck cn sh σ pc L (.int y :: .int x :: st) Q := by
  subst he
  intro p e R s m args below meth c H locs Z D dA ad0 ad A N0 ls C Wd hl ho hr
  exact lv_ior C.1.1 C.1.2.1 hd (k p e R s m args below meth c H locs Z D dA ad0 ad A N0 ls C Wd hl ⟨trivial, ho.2.2⟩ hr)
theorem g_ishl {x y : Int32} {pc2 : Nat} (hd : decode M.2.1 pc = .ok (.ishl, 1)) (he : pc + 1 = pc2) (k : lt_G l d mc ms M ck cn sh σ pc2 L (.int (x <<< (y &&& 31)) :: st) Q) : lt_G l d mc ms M ck cn sh σ pc L (.int y :: .int x :: st) Q := by
  subst he
  intro p e R s m args below meth c H locs Z D dA ad0 ad A N0 ls C Wd hl ho hr
  exact lv_ishl C.1.1 C.1.2.1 hd (k p e R s m args below meth c H locs Z D dA ad0 ad A N0 ls C Wd hl ⟨trivial, ho.2.2⟩ hr)
theorem g_ishr {x y : Int32} {pc2 : Nat} (hd : decode M.2.1 pc = .ok (.ishr, 1)) (he : pc + 1 = pc2) (k : lt_G l d mc ms M ck cn sh σ pc2 L (.int (x >>> (y &&& 31)) :: st) Q) : lt_G l d mc ms M ck cn sh σ pc L (.int y :: .int x :: st) Q := by
  subst he
  intro p e R s m args below meth c H locs Z D dA ad0 ad A N0 ls C Wd hl ho hr
  exact lv_ishr C.1.1 C.1.2.1 hd (k p e R s m args below meth c H locs Z D dA ad0 ad A N0 ls C Wd hl ⟨trivial, ho.2.2⟩ hr)
theorem g_idiv {x y : Int32} {pc2 : Nat} (hd : decode M.2.1 pc = .ok (.idiv, 1)) (hne : ¬ y = 0) (he : pc + 1 = pc2) (k : lt_G l d mc ms M ck cn sh σ pc2 L (.int (x / y) :: st) Q) : lt_G l d mc ms M ck cn sh σ pc L (.int y :: .int x :: st) Q := by
  subst he
  intro p e R s m args below meth c H locs Z D dA ad0 ad A N0 ls C Wd hl ho hr
  exact lv_idiv C.1.1 C.1.2.1 hd hne (k p e R s m args below meth c H locs Z D dA ad0 ad A N0 ls C Wd hl ⟨trivial, ho.2.2⟩ hr)
theorem g_irem {x y : Int32} {pc2 : Nat} (hd : decode M.2.1 pc = .ok (.irem, 1)) (hne : ¬ y = 0) (he : pc + 1 = pc2) (k : lt_G l d mc ms M ck cn sh σ pc2 L (.int (x - x / y * y) :: st) Q) : lt_G l d mc ms M ck cn sh σ pc L (.int y :: .int x :: st) Q := by
  subst he
  intro p e R s m args below meth c H locs Z D dA ad0 ad A N0 ls C Wd hl ho hr
  exact lv_irem C.1.1 C.1.2.1 hd hne (k p e R s m args below meth c H locs Z D dA ad0 ad A N0 ls C Wd hl ⟨trivial, ho.2.2⟩ hr)
theorem g_i2c {x v : Int32} {pc2 : Nat} (hd : decode M.2.1 pc = .ok (.i2c, 1)) (hv : (x.toUInt32 % 65536).toInt32 = v) (he : pc + 1 = pc2) (k : lt_G l d mc ms M ck cn sh σ pc2 L (.int v :: st) Q) : lt_G l d mc ms M ck cn sh σ pc L (.int x :: st) Q := by
  subst he
  intro p e R s m args below meth c H locs Z D dA ad0 ad A N0 ls C Wd hl ho hr
  exact lv_i2c C.1.1 C.1.2.1 hd hv (k p e R s m args below meth c H locs Z D dA ad0 ad A N0 ls C Wd hl ⟨trivial, ho.2⟩ hr)
theorem g_dup {v : Value} {pc2 : Nat} (hd : decode M.2.1 pc = .ok (.dup, 1)) (he : pc + 1 = pc2) (k : lt_G l d mc ms M ck cn sh σ pc2 L (v :: v :: st) Q) : lt_G l d mc ms M ck cn sh σ pc L (v :: st) Q := by
  subst he
  intro p e R s m args below meth c H locs Z D dA ad0 ad A N0 ls C Wd hl ho hr
  exact lv_dup C.1.1 C.1.2.1 hd (ho.1.cat ad) (k p e R s m args below meth c H locs Z D dA ad0 ad A N0 ls C Wd hl ⟨ho.1, ho⟩ hr)
theorem g_pop {v : Value} {pc2 : Nat} (hd : decode M.2.1 pc = .ok (.pop, 1)) (he : pc + 1 = pc2) (k : lt_G l d mc ms M ck cn sh σ pc2 L st Q) : lt_G l d mc ms M ck cn sh σ pc L (v :: st) Q := by
  subst he
  intro p e R s m args below meth c H locs Z D dA ad0 ad A N0 ls C Wd hl ho hr
  exact lv_pop C.1.1 C.1.2.1 hd (ho.1.cat ad) (k p e R s m args below meth c H locs Z D dA ad0 ad A N0 ls C Wd hl ho.2 hr)
theorem g_dup2 {v w : Value} {pc2 : Nat} (hd : decode M.2.1 pc = .ok (.dup2, 1)) (he : pc + 1 = pc2) (k : lt_G l d mc ms M ck cn sh σ pc2 L (v :: w :: v :: w :: st) Q) : lt_G l d mc ms M ck cn sh σ pc L (v :: w :: st) Q := by
  subst he
  intro p e R s m args below meth c H locs Z D dA ad0 ad A N0 ls C Wd hl ho hr
  exact lv_dup2_11 C.1.1 C.1.2.1 hd (ho.1.cat ad) (ho.2.1.cat ad) (k p e R s m args below meth c H locs Z D dA ad0 ad A N0 ls C Wd hl ⟨ho.1, ho.2.1, ho⟩ hr)
theorem g_iaddN {a b pc2 : Nat} (hd : decode M.2.1 pc = .ok (.iadd, 1)) (he : pc + 1 = pc2) (k : lt_G l d mc ms M ck cn sh σ pc2 L (.int (nI (a + b)) :: st) Q) : lt_G l d mc ms M ck cn sh σ pc L (.int (nI b) :: .int (nI a) :: st) Q := g_iadd hd he (by rw [nI_add]; exact k)
theorem g_imulN {a b pc2 : Nat} (hd : decode M.2.1 pc = .ok (.imul, 1)) (he : pc + 1 = pc2) (k : lt_G l d mc ms M ck cn sh σ pc2 L (.int (nI (a * b)) :: st) Q) : lt_G l d mc ms M ck cn sh σ pc L (.int (nI b) :: .int (nI a) :: st) Q := g_imul hd he (by rw [pk_mul]; exact k)
theorem g_isubN {a b pc2 : Nat} (hd : decode M.2.1 pc = .ok (.isub, 1)) (he : pc + 1 = pc2) (hb : b ≤ a) (k : lt_G l d mc ms M ck cn sh σ pc2 L (.int (nI (a - b)) :: st) Q) : lt_G l d mc ms M ck cn sh σ pc L (.int (nI b) :: .int (nI a) :: st) Q := g_isub hd he (by rw [pk_sub hb]; exact k)
theorem g_idivN {a b pc2 : Nat} (hd : decode M.2.1 pc = .ok (.idiv, 1)) (he : pc + 1 = pc2) (ha : a < 2 ^ 31) (h0 : 0 < b) (hb : b < 2 ^ 31) (k : lt_G l d mc ms M ck cn sh σ pc2 L (.int (nI (a / b)) :: st) Q) : lt_G l d mc ms M ck cn sh σ pc L (.int (nI b) :: .int (nI a) :: st) Q := g_idiv hd (nI_ne0 h0 hb) he (by rw [pk_div ha h0 hb]; exact k)
theorem g_iremN {a b pc2 : Nat} (hd : decode M.2.1 pc = .ok (.irem, 1)) (he : pc + 1 = pc2) (ha : a < 2 ^ 31) (h0 : 0 < b) (hb : b < 2 ^ 31) (k : lt_G l d mc ms M ck cn sh σ pc2 L (.int (nI (a % b)) :: st) Q) : lt_G l d mc ms M ck cn sh σ pc L (.int (nI b) :: .int (nI a) :: st) Q := g_irem hd (nI_ne0 h0 hb) he (by rw [pk_rem ha h0 hb]; exact k)
theorem g_goto {off : Int} (tgt : Nat) (hd : decode M.2.1 pc = .ok (.goto off, 3)) (ht : (pc : Int) + off = (tgt : Int)) (k : lt_G l d mc ms M ck cn sh σ tgt L st Q) : lt_G l d mc ms M ck cn sh σ pc L st Q := by
  intro p e R s m args below meth c H locs Z D dA ad0 ad A N0 ls C Wd hl ho hr
  exact lv_goto C.1.1 C.1.2.1 hd ht (k p e R s m args below meth c H locs Z D dA ad0 ad A N0 ls C Wd hl ho hr)
theorem g_if_eq {x : Int32} {off : Int} (tgt pc2 : Nat) (hd : decode M.2.1 pc = .ok (.ifCond .eq off, 3)) (ht : (pc : Int) + off = (tgt : Int)) (he : pc + 3 = pc2) (kt : x = 0 → lt_G l d mc ms M ck cn sh σ tgt L st Q) (kf : ¬ x = 0 → lt_G l d mc ms M ck cn sh σ pc2 L st Q) : lt_G l d mc ms M ck cn sh σ pc L (.int x :: st) Q := by
  subst he
  intro p e R s m args below meth c H locs Z D dA ad0 ad A N0 ls C Wd hl ho hr
  exact lv_if_eq C.1.1 C.1.2.1 hd ht (fun h => (kt h) p e R s m args below meth c H locs Z D dA ad0 ad A N0 ls C Wd hl ho.2 hr) (fun h => (kf h) p e R s m args below meth c H locs Z D dA ad0 ad A N0 ls C Wd hl ho.2 hr)
theorem g_icmp_eq {x y : Int32} {off : Int} (tgt pc2 : Nat) (hd : decode M.2.1 pc = .ok (.if_icmp .eq off, 3)) (ht : (pc : Int) + off = (tgt : Int)) (he : pc + 3 = pc2) (kt : x = y → lt_G l d mc ms M ck cn sh σ tgt L st Q) (kf : ¬ x = y → lt_G l d mc ms M ck cn sh σ pc2 L st Q) : lt_G l d mc ms M ck cn sh σ pc L (.int y :: .int x :: st) Q := by
  subst he
  intro p e R s m args below meth c H locs Z D dA ad0 ad A N0 ls C Wd hl ho hr
  exact lv_icmp_eq C.1.1 C.1.2.1 hd ht (fun h => (kt h) p e R s m args below meth c H locs Z D dA ad0 ad A N0 ls C Wd hl ho.2.2 hr) (fun h => (kf h) p e R s m args below meth c H locs Z D dA ad0 ad A N0 ls C Wd hl ho.2.2 hr)
theorem g_if_ne {x : Int32} {off : Int} (tgt pc2 : Nat) (hd : decode M.2.1 pc = .ok (.ifCond .ne off, 3)) (ht : (pc : Int) + off = (tgt : Int)) (he : pc + 3 = pc2) (kt : ¬ x = 0 → lt_G l d mc ms M ck cn sh σ tgt L st Q) (kf : x = 0 → lt_G l d mc ms M ck cn sh σ pc2 L st Q) : lt_G l d mc ms M ck cn sh σ pc L (.int x :: st) Q := by
  subst he
  intro p e R s m args below meth c H locs Z D dA ad0 ad A N0 ls C Wd hl ho hr
  exact lv_if_ne C.1.1 C.1.2.1 hd ht (fun h => (kt h) p e R s m args below meth c H locs Z D dA ad0 ad A N0 ls C Wd hl ho.2 hr) (fun h => (kf h) p e R s m args below meth c H locs Z D dA ad0 ad A N0 ls C Wd hl ho.2 hr)
theorem g_icmp_ne {x y : Int32} {off : Int} (tgt pc2 : Nat) (hd : decode M.2.1 pc = .ok (.if_icmp .ne off, 3)) (ht : (pc : Int) + off = (tgt : Int)) (he : pc + 3 = pc2) (kt : ¬ x = y → lt_G l d mc ms M ck cn sh σ tgt L st Q) (kf : x = y → lt_G l d mc ms M ck cn sh σ pc2 L st Q) : lt_G l d mc ms M ck cn sh σ pc L (.int y :: .int x :: st) Q := by
  subst he
  intro p e R s m args below meth c H locs Z D dA ad0 ad A N0 ls C Wd hl ho hr
  exact lv_icmp_ne C.1.1 C.1.2.1 hd ht (fun h => (kt h) p e R s m args below meth c H locs Z D dA ad0 ad A N0 ls C Wd hl ho.2.2 hr) (fun h => (kf h) p e R s m args below meth c H locs Z D dA ad0 ad A N0 ls C Wd hl ho.2.2 hr)
theorem g_if_lt {x : Int32} {off : Int} (tgt pc2 : Nat) (hd : decode M.2.1 pc = .ok (.ifCond .lt off, 3)) (ht : (pc : Int) + off = (tgt : Int)) (he : pc + 3 = pc2) (kt : x < 0 → lt_G l d mc ms M ck cn sh σ tgt L st Q) (kf : ¬ x < 0 → lt_G l d mc ms M ck cn sh σ pc2 L st Q) : lt_G l d mc ms M ck cn sh σ pc L (.int x :: st) Q := by
  subst he
  intro p e R s m args below meth c H locs Z D dA ad0 ad A N0 ls C Wd hl ho hr
  exact lv_if_lt C.1.1 C.1.2.1 hd ht (fun h => (kt h) p e R s m args below meth c H locs Z D dA ad0 ad A N0 ls C Wd hl ho.2 hr) (fun h => (kf h) p e R s m args below meth c H locs Z D dA ad0 ad A N0 ls C Wd hl ho.2 hr)
theorem g_icmp_lt {x y : Int32} {off : Int} (tgt pc2 : Nat) (hd : decode M.2.1 pc = .ok (.if_icmp .lt off, 3)) (ht : (pc : Int) + off = (tgt : Int)) (he : pc + 3 = pc2) (kt : x < y → lt_G l d mc ms M ck cn sh σ tgt L st Q) (kf : ¬ x < y → lt_G l d mc ms M ck cn sh σ pc2 L st Q) : lt_G l d mc ms M ck cn sh σ pc L (.int y :: .int x :: st) Q := by
  subst he
  intro p e R s m args below meth c H locs Z D dA ad0 ad A N0 ls C Wd hl ho hr
  exact lv_icmp_lt C.1.1 C.1.2.1 hd ht (fun h => (kt h) p e R s m args below meth c H locs Z D dA ad0 ad A N0 ls C Wd hl ho.2.2 hr) (fun h => (kf h) p e R s m args below meth c H locs Z D dA ad0 ad A N0 ls C Wd hl ho.2.2 hr)
theorem g_if_ge {x : Int32} {off : Int} (tgt pc2 : Nat) (hd : decode M.2.1 pc = .ok (.ifCond .ge off, 3)) (ht : (pc : Int) + off = (tgt : Int)) (he : pc + 3 = pc2) (kt : 0 ≤ x → lt_G l d mc ms M ck cn sh σ tgt L st Q) (kf : ¬ 0 ≤ x → lt_G l d mc ms M ck cn sh σ pc2 L st Q) : lt_G l d mc ms M ck cn sh σ pc L (.int x :: st) Q := by
  subst he
  intro p e R s m args below meth c H locs Z D dA ad0 ad A N0 ls C Wd hl ho hr
  exact lv_if_ge C.1.1 C.1.2.1 hd ht (fun h => (kt h) p e R s m args below meth c H locs Z D dA ad0 ad A N0 ls C Wd hl ho.2 hr) (fun h => (kf h) p e R s m args below meth c H locs Z D dA ad0 ad A N0 ls C Wd hl ho.2 hr)
theorem g_icmp_ge {x y : Int32} {off : Int} (tgt pc2 : Nat) (hd : decode M.2.1 pc = .ok (.if_icmp .ge off, 3)) (ht : (pc : Int) + off = (tgt : Int)) (he : pc + 3 = pc2) (kt : y ≤ x → lt_G l d mc ms M ck cn sh σ tgt L st Q) (kf : ¬ y ≤ x → lt_G l d mc ms M ck cn sh σ pc2 L st Q) : lt_G l d mc ms M ck cn sh σ pc L (.int y :: .int x :: st) Q := by
  subst he
  intro p e R s m args below meth c H locs Z D dA ad0 ad A N0 ls C Wd hl ho hr
  exact lv_icmp_ge C.1.1 C.1.2.1 hd ht (fun h => (kt h) p e R s m args below meth c H locs Z D dA ad0 ad A N0 ls C Wd hl ho.2.2 hr) (fun h => (kf h) p e R s m args below meth c H locs Z D dA ad0 ad A N0 ls C Wd hl ho.2.2 hr)
theorem g_if_gt {x : Int32} {off : Int} (tgt pc2 : Nat) (hd : decode M.2.1 pc = .ok (.ifCond .gt off, 3)) (ht : (pc : Int) + off = (tgt : Int)) (he : pc + 3 = pc2) (kt : 0 < x → lt_G l d mc ms M ck cn sh σ tgt L st Q) (kf : ¬ 0 < x → lt_G l d mc ms M ck cn sh σ pc2 L st Q) : lt_G l d mc ms M ck cn sh σ pc L (.int x :: st) Q := by
  subst he
  intro p e R s m args below meth c H locs Z D dA ad0 ad A N0 ls C Wd hl ho hr
  exact lv_if_gt C.1.1 C.1.2.1 hd ht (fun h => (kt h) p e R s m args below meth c H locs Z D dA ad0 ad A N0 ls C Wd hl ho.2 hr) (fun h => (kf h) p e R s m args below meth c H locs Z D dA ad0 ad A N0 ls C Wd hl ho.2 hr)
theorem g_icmp_gt {x y : Int32} {off : Int} (tgt pc2 : Nat) (hd : decode M.2.1 pc = .ok (.if_icmp .gt off, 3)) (ht : (pc : Int) + off = (tgt : Int)) (he : pc + 3 = pc2) (kt : y < x → lt_G l d mc ms M ck cn sh σ tgt L st Q) (kf : ¬ y < x → lt_G l d mc ms M ck cn sh σ pc2 L st Q) : lt_G l d mc ms M ck cn sh σ pc L (.int y :: .int x :: st) Q := by
  subst he
  intro p e R s m args below meth c H locs Z D dA ad0 ad A N0 ls C Wd hl ho hr
  exact lv_icmp_gt C.1.1 C.1.2.1 hd ht (fun h => (kt h) p e R s m args below meth c H locs Z D dA ad0 ad A N0 ls C Wd hl ho.2.2 hr) (fun h => (kf h) p e R s m args below meth c H locs Z D dA ad0 ad A N0 ls C Wd hl ho.2.2 hr)
theorem g_if_le {x : Int32} {off : Int} (tgt pc2 : Nat) (hd : decode M.2.1 pc = .ok (.ifCond .le off, 3)) (ht : (pc : Int) + off = (tgt : Int)) (he : pc + 3 = pc2) (kt : x ≤ 0 → lt_G l d mc ms M ck cn sh σ tgt L st Q) (kf : ¬ x ≤ 0 → lt_G l d mc ms M ck cn sh σ pc2 L st Q) : lt_G l d mc ms M ck cn sh σ pc L (.int x :: st) Q := by
  subst he
  intro p e R s m args below meth c H locs Z D dA ad0 ad A N0 ls C Wd hl ho hr
  exact lv_if_le C.1.1 C.1.2.1 hd ht (fun h => (kt h) p e R s m args below meth c H locs Z D dA ad0 ad A N0 ls C Wd hl ho.2 hr) (fun h => (kf h) p e R s m args below meth c H locs Z D dA ad0 ad A N0 ls C Wd hl ho.2 hr)
theorem g_icmp_le {x y : Int32} {off : Int} (tgt pc2 : Nat) (hd : decode M.2.1 pc = .ok (.if_icmp .le off, 3)) (ht : (pc : Int) + off = (tgt : Int)) (he : pc + 3 = pc2) (kt : x ≤ y → lt_G l d mc ms M ck cn sh σ tgt L st Q) (kf : ¬ x ≤ y → lt_G l d mc ms M ck cn sh σ pc2 L st Q) : lt_G l d mc ms M ck cn sh σ pc L (.int y :: .int x :: st) Q := by
  subst he
  intro p e R s m args below meth c H locs Z D dA ad0 ad A N0 ls C Wd hl ho hr
  exact lv_icmp_le C.1.1 C.1.2.1 hd ht (fun h => (kt h) p e R s m args below meth c H locs Z D dA ad0 ad A N0 ls C Wd hl ho.2.2 hr) (fun h => (kf h) p e R s m args below meth c H locs Z D dA ad0 ad A N0 ls C Wd hl ho.2.2 hr)
theorem g_icmpN_eq {a b : Nat} {off : Int} (tgt pc2 : Nat) (hd : decode M.2.1 pc = .ok (.if_icmp .eq off, 3)) (ht : (pc : Int) + off = (tgt : Int)) (he : pc + 3 = pc2) (ha : a < 2 ^ 31) (hb : b < 2 ^ 31) (kt : a = b → lt_G l d mc ms M ck cn sh σ tgt L st Q) (kf : ¬ a = b → lt_G l d mc ms M ck cn sh σ pc2 L st Q) : lt_G l d mc ms M ck cn sh σ pc L (.int (nI b) :: .int (nI a) :: st) Q :=
  g_icmp_eq tgt pc2 hd ht he (fun h => kt ((nI_eq ha hb).mp h)) (fun h => kf (fun e => h ((nI_eq ha hb).mpr e)))
theorem g_icmpN_ne {a b : Nat} {off : Int} (tgt pc2 : Nat) (hd : decode M.2.1 pc = .ok (.if_icmp .ne off, 3)) (ht : (pc : Int) + off = (tgt : Int)) (he : pc + 3 = pc2) (ha : a < 2 ^ 31) (hb : b < 2 ^ 31) (kt : ¬ a = b → lt_G l d mc ms M ck cn sh σ tgt L st Q) (kf : a = b → lt_G l d mc ms M ck cn sh σ pc2 L st Q) : lt_G l d mc ms M ck cn sh σ pc L (.int (nI b) :: .int (nI a) :: st) Q :=
  g_icmp_ne tgt pc2 hd ht he (fun h => kt (fun e => h ((nI_eq ha hb).mpr e))) (fun h => kf ((nI_eq ha hb).mp h))
theorem g_icmpN_lt {a b : Nat} {off : Int} (tgt pc2 : Nat) (hd : decode M.2.1 pc = .ok (.if_icmp .lt off, 3)) (ht : (pc : Int) + off = (tgt : Int)) (he : pc + 3 = pc2) (ha : a < 2 ^ 31) (hb : b < 2 ^ 31) (kt : a < b → lt_G l d mc ms M ck cn sh σ tgt L st Q) (kf : ¬ a < b → lt_G l d mc ms M ck cn sh σ pc2 L st Q) : lt_G l d mc ms M ck cn sh σ pc L (.int (nI b) :: .int (nI a) :: st) Q :=
  g_icmp_lt tgt pc2 hd ht he (fun h => kt ((nI_ltI ha hb).mp h)) (fun h => kf (fun e => h ((nI_ltI ha hb).mpr e)))
theorem g_icmpN_ge {a b : Nat} {off : Int} (tgt pc2 : Nat) (hd : decode M.2.1 pc = .ok (.if_icmp .ge off, 3)) (ht : (pc : Int) + off = (tgt : Int)) (he : pc + 3 = pc2) (ha : a < 2 ^ 31) (hb : b < 2 ^ 31) (kt : b ≤ a → lt_G l d mc ms M ck cn sh σ tgt L st Q) (kf : ¬ b ≤ a → lt_G l d mc ms M ck cn sh σ pc2 L st Q) : lt_G l d mc ms M ck cn sh σ pc L (.int (nI b) :: .int (nI a) :: st) Q :=
  g_icmp_ge tgt pc2 hd ht he (fun h => kt ((nI_leI hb ha).mp h)) (fun h => kf (fun e => h ((nI_leI hb ha).mpr e)))
theorem g_icmpN_gt {a b : Nat} {off : Int} (tgt pc2 : Nat) (hd : decode M.2.1 pc = .ok (.if_icmp .gt off, 3)) (ht : (pc : Int) + off = (tgt : Int)) (he : pc + 3 = pc2) (ha : a < 2 ^ 31) (hb : b < 2 ^ 31) (kt : b < a → lt_G l d mc ms M ck cn sh σ tgt L st Q) (kf : ¬ b < a → lt_G l d mc ms M ck cn sh σ pc2 L st Q) : lt_G l d mc ms M ck cn sh σ pc L (.int (nI b) :: .int (nI a) :: st) Q :=
  g_icmp_gt tgt pc2 hd ht he (fun h => kt ((nI_ltI hb ha).mp h)) (fun h => kf (fun e => h ((nI_ltI hb ha).mpr e)))
theorem g_icmpN_le {a b : Nat} {off : Int} (tgt pc2 : Nat) (hd : decode M.2.1 pc = .ok (.if_icmp .le off, 3)) (ht : (pc : Int) + off = (tgt : Int)) (he : pc + 3 = pc2) (ha : a < 2 ^ 31) (hb : b < 2 ^ 31) (kt : a ≤ b → lt_G l d mc ms M ck cn sh σ tgt L st Q) (kf : ¬ a ≤ b → lt_G l d mc ms M ck cn sh σ pc2 L st Q) : lt_G l d mc ms M ck cn sh σ pc L (.int (nI b) :: .int (nI a) :: st) Q :=
  g_icmp_le tgt pc2 hd ht he (fun h => kt ((nI_leI ha hb).mp h)) (fun h => kf (fun e => h ((nI_leI ha hb).mpr e)))
theorem g_iload_n {k0 : Fin 4} {i : Nat} {x : Int32} {pc2 : Nat} (hd : decode M.2.1 pc = .ok (.iload_n k0, 1)) (hi : (k0 : Nat) = i) (hL : L[i]? = some (some (.int x))) (he : pc + 1 = pc2) (k : lt_G l d mc ms M ck cn sh σ pc2 L (.int x :: st) Q) : lt_G l d mc ms M ck cn sh σ pc L st Q := by
  subst he
  intro p e R s m args below meth c H locs Z D dA ad0 ad A N0 ls C Wd hl ho hr
  obtain ⟨lv, h1, h2⟩ := hl.1
  exact lv_iload_n C.1.1 C.1.2.1 hd hi (h1.2.2 _ (h2 i _ hL)) (k p e R s m args below meth c H locs Z D dA ad0 ad A N0 ls C Wd hl ⟨trivial, ho⟩ hr)
theorem g_iload {i : Nat} {x : Int32} {pc2 : Nat} (hd : decode M.2.1 pc = .ok (.iload i, 2)) (hL : L[i]? = some (some (.int x))) (he : pc + 2 = pc2) (k : lt_G l d mc ms M ck cn sh σ pc2 L (.int x :: st) Q) : lt_G l d mc ms M ck cn sh σ pc L st Q := by
  subst he
  intro p e R s m args below meth c H locs Z D dA ad0 ad A N0 ls C Wd hl ho hr
  obtain ⟨lv, h1, h2⟩ := hl.1
  exact lv_iload C.1.1 C.1.2.1 hd (h1.2.2 _ (h2 i _ hL)) (k p e R s m args below meth c H locs Z D dA ad0 ad A N0 ls C Wd hl ⟨trivial, ho⟩ hr)
theorem g_aload_n {k0 : Fin 4} {i : Nat} {x : Nat} {pc2 : Nat} (hd : decode M.2.1 pc = .ok (.aload_n k0, 1)) (hi : (k0 : Nat) = i) (hL : L[i]? = some (some (.ref x))) (he : pc + 1 = pc2) (k : lt_G l d mc ms M ck cn sh σ pc2 L (.ref x :: st) Q) : lt_G l d mc ms M ck cn sh σ pc L st Q := by
  subst he
  intro p e R s m args below meth c H locs Z D dA ad0 ad A N0 ls C Wd hl ho hr
  obtain ⟨lv, h1, h2⟩ := hl.1
  exact lv_aload_n C.1.1 C.1.2.1 hd hi (h1.2.2 _ (h2 i _ hL)) (k p e R s m args below meth c H locs Z D dA ad0 ad A N0 ls C Wd hl ⟨(hl.2 _ _ hL), ho⟩ hr)
theorem g_aload {i : Nat} {x : Nat} {pc2 : Nat} (hd : decode M.2.1 pc = .ok (.aload i, 2)) (hL : L[i]? = some (some (.ref x))) (he : pc + 2 = pc2) (k : lt_G l d mc ms M ck cn sh σ pc2 L (.ref x :: st) Q) : lt_G l d mc ms M ck cn sh σ pc L st Q := by
  subst he
  intro p e R s m args below meth c H locs Z D dA ad0 ad A N0 ls C Wd hl ho hr
  obtain ⟨lv, h1, h2⟩ := hl.1
  exact lv_aload C.1.1 C.1.2.1 hd (h1.2.2 _ (h2 i _ hL)) (k p e R s m args below meth c H locs Z D dA ad0 ad A N0 ls C Wd hl ⟨(hl.2 _ _ hL), ho⟩ hr)
theorem lt_lv.store {ad : Nat → Nat} {ls' : Array Slot} {nL N i : Nat} {v : Value} {lv : List (Nat × Value)} (h : ∀ (j : Nat) (w : Value), L[j]? = some (some w) → (j, lt_tr ad w) ∈ lv) (hs : ∀ (j : Nat) (w : Value), L[j]? = some (some w) → lt_sv N w) (hv : lt_sv N v) (h' : lv_has ls' nL ((i, lt_tr ad v) :: lv.filter (fun q => !(q.1 == i) && !(q.1 + 1 == i && q.2.category == 2)))) : lt_lv ad ls' nL N (L.set i (some v)) := by
  refine ⟨⟨_, h', fun j w hj => ?_⟩, fun j w hj => ?_⟩
  · by_cases e : i = j
    · subst e
      by_cases hl : i < L.length
      · rw [List.getElem?_set_self hl] at hj
        cases hj
        exact List.mem_cons_self
      · rw [List.getElem?_eq_none (by rw [List.length_set]; omega)] at hj
        cases hj
    · rw [List.getElem?_set_ne e] at hj
      refine List.mem_cons_of_mem _ (List.mem_filter.mpr ⟨h j w hj, ?_⟩)
      have e1 : (j == i) = false := by simp; omega
      have e2 : ((lt_tr ad w).category == 2) = false := by rw [(hs j w hj).cat ad]; rfl
      show (!(j == i) && !(j + 1 == i && (lt_tr ad w).category == 2)) = true
      rw [e1, e2]; simp
  · by_cases e : i = j
    · subst e
      by_cases hl : i < L.length
      · rw [List.getElem?_set_self hl] at hj
        cases hj
        exact hv
      · rw [List.getElem?_eq_none (by rw [List.length_set]; omega)] at hj
        cases hj
    · rw [List.getElem?_set_ne e] at hj
      exact hs j w hj
theorem g_istore_n {k0 : Fin 4} {i : Nat} {x : Int32} {pc2 : Nat} (hd : decode M.2.1 pc = .ok (.istore_n k0, 1)) (hi : (k0 : Nat) = i) (hn : i < M.2.2.1) (he : pc + 1 = pc2) (k : lt_G l d mc ms M ck cn sh σ pc2 (L.set i (some (.int x))) st Q) : lt_G l d mc ms M ck cn sh σ pc L (.int x :: st) Q := by
  subst he
  intro p e R s m args below meth c H locs Z D dA ad0 ad A N0 ls C Wd hl ho hr
  obtain ⟨⟨lv, h1, h2⟩, h3⟩ := hl
  exact lv_istore_n C.1.1 C.1.2.1 hd hi h1 hn rfl (fun ls' h' => k p e R s m args below meth c H locs Z D dA ad0 ad A N0 ls' C Wd (lt_lv.store (v := .int x) h2 h3 trivial h') ho.2 hr)
theorem g_istore {i : Nat} {x : Int32} {pc2 : Nat} (hd : decode M.2.1 pc = .ok (.istore i, 2)) (hn : i < M.2.2.1) (he : pc + 2 = pc2) (k : lt_G l d mc ms M ck cn sh σ pc2 (L.set i (some (.int x))) st Q) : lt_G l d mc ms M ck cn sh σ pc L (.int x :: st) Q := by
  subst he
  intro p e R s m args below meth c H locs Z D dA ad0 ad A N0 ls C Wd hl ho hr
  obtain ⟨⟨lv, h1, h2⟩, h3⟩ := hl
  exact lv_istore C.1.1 C.1.2.1 hd h1 hn rfl (fun ls' h' => k p e R s m args below meth c H locs Z D dA ad0 ad A N0 ls' C Wd (lt_lv.store (v := .int x) h2 h3 trivial h') ho.2 hr)
theorem g_astore_n {k0 : Fin 4} {i : Nat} {x : Nat} {pc2 : Nat} (hd : decode M.2.1 pc = .ok (.astore_n k0, 1)) (hi : (k0 : Nat) = i) (hn : i < M.2.2.1) (he : pc + 1 = pc2) (k : lt_G l d mc ms M ck cn sh σ pc2 (L.set i (some (.ref x))) st Q) : lt_G l d mc ms M ck cn sh σ pc L (.ref x :: st) Q := by
  subst he
  intro p e R s m args below meth c H locs Z D dA ad0 ad A N0 ls C Wd hl ho hr
  obtain ⟨⟨lv, h1, h2⟩, h3⟩ := hl
  exact lv_astore_n C.1.1 C.1.2.1 hd hi h1 hn rfl (fun ls' h' => k p e R s m args below meth c H locs Z D dA ad0 ad A N0 ls' C Wd (lt_lv.store (v := .ref x) h2 h3 ho.1 h') ho.2 hr)
theorem g_astore {i : Nat} {x : Nat} {pc2 : Nat} (hd : decode M.2.1 pc = .ok (.astore i, 2)) (hn : i < M.2.2.1) (he : pc + 2 = pc2) (k : lt_G l d mc ms M ck cn sh σ pc2 (L.set i (some (.ref x))) st Q) : lt_G l d mc ms M ck cn sh σ pc L (.ref x :: st) Q := by
  subst he
  intro p e R s m args below meth c H locs Z D dA ad0 ad A N0 ls C Wd hl ho hr
  obtain ⟨⟨lv, h1, h2⟩, h3⟩ := hl
  exact lv_astore C.1.1 C.1.2.1 hd h1 hn rfl (fun ls' h' => k p e R s m args below meth c H locs Z D dA ad0 ad A N0 ls' C Wd (lt_lv.store (v := .ref x) h2 h3 ho.1 h') ho.2 hr)
theorem g_iinc {i : Nat} {n : Int} {x v : Int32} {pc2 : Nat} (hd : decode M.2.1 pc = .ok (.iinc i n, 3)) (hL : L[i]? = some (some (.int x))) (hv : x + Int32.ofInt n = v) (hn : i < M.2.2.1) (he : pc + 3 = pc2) (k : lt_G l d mc ms M ck cn sh σ pc2 (L.set i (some (.int v))) st Q) : lt_G l d mc ms M ck cn sh σ pc L st Q := by
  subst he
  intro p e R s m args below meth c H locs Z D dA ad0 ad A N0 ls C Wd hl ho hr
  obtain ⟨⟨lv, h1, h2⟩, h3⟩ := hl
  obtain ⟨k9, hk9⟩ := List.getElem?_of_mem (h2 i _ hL)
  exact lv_iinc C.1.1 C.1.2.1 hd h1 hk9 hv hn rfl (fun ls' h' => k p e R s m args below meth c H locs Z D dA ad0 ad A N0 ls' C Wd (lt_lv.store (v := .int v) h2 h3 trivial h') ho hr)
theorem g_il0 {x : Int32} {pc2 : Nat} (hd : decode M.2.1 pc = .ok (.iload_n 0, 1)) (he : pc + 1 = pc2) (k : lt_G l d mc ms M ck cn sh σ pc2 (some (.int x) :: L) (.int x :: st) Q) : lt_G l d mc ms M ck cn sh σ pc (some (.int x) :: L) st Q := g_iload_n (i := 0) hd rfl rfl he k
theorem g_al0 {x : Nat} {pc2 : Nat} (hd : decode M.2.1 pc = .ok (.aload_n 0, 1)) (he : pc + 1 = pc2) (k : lt_G l d mc ms M ck cn sh σ pc2 (some (.ref x) :: L) (.ref x :: st) Q) : lt_G l d mc ms M ck cn sh σ pc (some (.ref x) :: L) st Q := g_aload_n (i := 0) hd rfl rfl he k
theorem g_is0 {a0 : Option Value}{x : Int32} {pc2 : Nat} (hd : decode M.2.1 pc = .ok (.istore_n 0, 1)) (hn : 0 < M.2.2.1) (he : pc + 1 = pc2) (k : lt_G l d mc ms M ck cn sh σ pc2 (some (.int x) :: L) st Q) : lt_G l d mc ms M ck cn sh σ pc (a0 :: L) (.int x :: st) Q := g_istore_n (i := 0) hd rfl hn he k
theorem g_as0 {a0 : Option Value}{x : Nat} {pc2 : Nat} (hd : decode M.2.1 pc = .ok (.astore_n 0, 1)) (hn : 0 < M.2.2.1) (he : pc + 1 = pc2) (k : lt_G l d mc ms M ck cn sh σ pc2 (some (.ref x) :: L) st Q) : lt_G l d mc ms M ck cn sh σ pc (a0 :: L) (.ref x :: st) Q := g_astore_n (i := 0) hd rfl hn he k
theorem g_in0 {n : Int} {x v : Int32} {pc2 : Nat} (hd : decode M.2.1 pc = .ok (.iinc 0 n, 3)) (hv : x + Int32.ofInt n = v) (hn : 0 < M.2.2.1) (he : pc + 3 = pc2) (k : lt_G l d mc ms M ck cn sh σ pc2 (some (.int v) :: L) st Q) : lt_G l d mc ms M ck cn sh σ pc (some (.int x) :: L) st Q := g_iinc (i := 0) hd rfl hv hn he k
theorem g_il1 {a0 : Option Value} {x : Int32} {pc2 : Nat} (hd : decode M.2.1 pc = .ok (.iload_n 1, 1)) (he : pc + 1 = pc2) (k : lt_G l d mc ms M ck cn sh σ pc2 (a0 :: some (.int x) :: L) (.int x :: st) Q) : lt_G l d mc ms M ck cn sh σ pc (a0 :: some (.int x) :: L) st Q := g_iload_n (i := 1) hd rfl rfl he k
theorem g_al1 {a0 : Option Value} {x : Nat} {pc2 : Nat} (hd : decode M.2.1 pc = .ok (.aload_n 1, 1)) (he : pc + 1 = pc2) (k : lt_G l d mc ms M ck cn sh σ pc2 (a0 :: some (.ref x) :: L) (.ref x :: st) Q) : lt_G l d mc ms M ck cn sh σ pc (a0 :: some (.ref x) :: L) st Q := g_aload_n (i := 1) hd rfl rfl he k
theorem g_is1 {a0 a1 : Option Value}{x : Int32} {pc2 : Nat} (hd : decode M.2.1 pc = .ok (.istore_n 1, 1)) (hn : 1 < M.2.2.1) (he : pc + 1 = pc2) (k : lt_G l d mc ms M ck cn sh σ pc2 (a0 :: some (.int x) :: L) st Q) : lt_G l d mc ms M ck cn sh σ pc (a0 :: a1 :: L) (.int x :: st) Q := g_istore_n (i := 1) hd rfl hn he k
theorem g_as1 {a0 a1 : Option Value}{x : Nat} {pc2 : Nat} (hd : decode M.2.1 pc = .ok (.astore_n 1, 1)) (hn : 1 < M.2.2.1) (he : pc + 1 = pc2) (k : lt_G l d mc ms M ck cn sh σ pc2 (a0 :: some (.ref x) :: L) st Q) : lt_G l d mc ms M ck cn sh σ pc (a0 :: a1 :: L) (.ref x :: st) Q := g_astore_n (i := 1) hd rfl hn he k
theorem g_in1 {a0 : Option Value} {n : Int} {x v : Int32} {pc2 : Nat} (hd : decode M.2.1 pc = .ok (.iinc 1 n, 3)) (hv : x + Int32.ofInt n = v) (hn : 1 < M.2.2.1) (he : pc + 3 = pc2) (k : lt_G l d mc ms M ck cn sh σ pc2 (a0 :: some (.int v) :: L) st Q) : lt_G l d mc ms M ck cn sh σ pc (a0 :: some (.int x) :: L) st Q := g_iinc (i := 1) hd rfl hv hn he k
theorem g_il2 {a0 a1 : Option Value} {x : Int32} {pc2 : Nat} (hd : decode M.2.1 pc = .ok (.iload_n 2, 1)) (he : pc + 1 = pc2) (k : lt_G l d mc ms M ck cn sh σ pc2 (a0 :: a1 :: some (.int x) :: L) (.int x :: st) Q) : lt_G l d mc ms M ck cn sh σ pc (a0 :: a1 :: some (.int x) :: L) st Q := g_iload_n (i := 2) hd rfl rfl he k
theorem g_al2 {a0 a1 : Option Value} {x : Nat} {pc2 : Nat} (hd : decode M.2.1 pc = .ok (.aload_n 2, 1)) (he : pc + 1 = pc2) (k : lt_G l d mc ms M ck cn sh σ pc2 (a0 :: a1 :: some (.ref x) :: L) (.ref x :: st) Q) : lt_G l d mc ms M ck cn sh σ pc (a0 :: a1 :: some (.ref x) :: L) st Q := g_aload_n (i := 2) hd rfl rfl he k
theorem g_is2 {a0 a1 a2 : Option Value}{x : Int32} {pc2 : Nat} (hd : decode M.2.1 pc = .ok (.istore_n 2, 1)) (hn : 2 < M.2.2.1) (he : pc + 1 = pc2) (k : lt_G l d mc ms M ck cn sh σ pc2 (a0 :: a1 :: some (.int x) :: L) st Q) : lt_G l d mc ms M ck cn sh σ pc (a0 :: a1 :: a2 :: L) (.int x :: st) Q := g_istore_n (i := 2) hd rfl hn he k
theorem g_as2 {a0 a1 a2 : Option Value}{x : Nat} {pc2 : Nat} (hd : decode M.2.1 pc = .ok (.astore_n 2, 1)) (hn : 2 < M.2.2.1) (he : pc + 1 = pc2) (k : lt_G l d mc ms M ck cn sh σ pc2 (a0 :: a1 :: some (.ref x) :: L) st Q) : lt_G l d mc ms M ck cn sh σ pc (a0 :: a1 :: a2 :: L) (.ref x :: st) Q := g_astore_n (i := 2) hd rfl hn he k
theorem g_in2 {a0 a1 : Option Value} {n : Int} {x v : Int32} {pc2 : Nat} (hd : decode M.2.1 pc = .ok (.iinc 2 n, 3)) (hv : x + Int32.ofInt n = v) (hn : 2 < M.2.2.1) (he : pc + 3 = pc2) (k : lt_G l d mc ms M ck cn sh σ pc2 (a0 :: a1 :: some (.int v) :: L) st Q) : lt_G l d mc ms M ck cn sh σ pc (a0 :: a1 :: some (.int x) :: L) st Q := g_iinc (i := 2) hd rfl hv hn he k
theorem g_il3 {a0 a1 a2 : Option Value} {x : Int32} {pc2 : Nat} (hd : decode M.2.1 pc = .ok (.iload_n 3, 1)) (he : pc + 1 = pc2) (k : lt_G l d mc ms M ck cn sh σ pc2 (a0 :: a1 :: a2 :: some (.int x) :: L) (.int x :: st) Q) : lt_G l d mc ms M ck cn sh σ pc (a0 :: a1 :: a2 :: some (.int x) :: L) st Q := g_iload_n (i := 3) hd rfl rfl he k
theorem g_al3 {a0 a1 a2 : Option Value} {x : Nat} {pc2 : Nat} (hd : decode M.2.1 pc = .ok (.aload_n 3, 1)) (he : pc + 1 = pc2) (k : lt_G l d mc ms M ck cn sh σ pc2 (a0 :: a1 :: a2 :: some (.ref x) :: L) (.ref x :: st) Q) : lt_G l d mc ms M ck cn sh σ pc (a0 :: a1 :: a2 :: some (.ref x) :: L) st Q := g_aload_n (i := 3) hd rfl rfl he k
theorem g_is3 {a0 a1 a2 a3 : Option Value}{x : Int32} {pc2 : Nat} (hd : decode M.2.1 pc = .ok (.istore_n 3, 1)) (hn : 3 < M.2.2.1) (he : pc + 1 = pc2) (k : lt_G l d mc ms M ck cn sh σ pc2 (a0 :: a1 :: a2 :: some (.int x) :: L) st Q) : lt_G l d mc ms M ck cn sh σ pc (a0 :: a1 :: a2 :: a3 :: L) (.int x :: st) Q := g_istore_n (i := 3) hd rfl hn he k
theorem g_as3 {a0 a1 a2 a3 : Option Value}{x : Nat} {pc2 : Nat} (hd : decode M.2.1 pc = .ok (.astore_n 3, 1)) (hn : 3 < M.2.2.1) (he : pc + 1 = pc2) (k : lt_G l d mc ms M ck cn sh σ pc2 (a0 :: a1 :: a2 :: some (.ref x) :: L) st Q) : lt_G l d mc ms M ck cn sh σ pc (a0 :: a1 :: a2 :: a3 :: L) (.ref x :: st) Q := g_astore_n (i := 3) hd rfl hn he k
theorem g_in3 {a0 a1 a2 : Option Value} {n : Int} {x v : Int32} {pc2 : Nat} (hd : decode M.2.1 pc = .ok (.iinc 3 n, 3)) (hv : x + Int32.ofInt n = v) (hn : 3 < M.2.2.1) (he : pc + 3 = pc2) (k : lt_G l d mc ms M ck cn sh σ pc2 (a0 :: a1 :: a2 :: some (.int v) :: L) st Q) : lt_G l d mc ms M ck cn sh σ pc (a0 :: a1 :: a2 :: some (.int x) :: L) st Q := g_iinc (i := 3) hd rfl hv hn he k
theorem g_il4 {a0 a1 a2 a3 : Option Value} {x : Int32} {pc2 : Nat} (hd : decode M.2.1 pc = .ok (.iload 4, 2)) (he : pc + 2 = pc2) (k : lt_G l d mc ms M ck cn sh σ pc2 (a0 :: a1 :: a2 :: a3 :: some (.int x) :: L) (.int x :: st) Q) : lt_G l d mc ms M ck cn sh σ pc (a0 :: a1 :: a2 :: a3 :: some (.int x) :: L) st Q := g_iload (i := 4) hd rfl he k
theorem g_is4 {a0 a1 a2 a3 a4 : Option Value}{x : Int32} {pc2 : Nat} (hd : decode M.2.1 pc = .ok (.istore 4, 2)) (hn : 4 < M.2.2.1) (he : pc + 2 = pc2) (k : lt_G l d mc ms M ck cn sh σ pc2 (a0 :: a1 :: a2 :: a3 :: some (.int x) :: L) st Q) : lt_G l d mc ms M ck cn sh σ pc (a0 :: a1 :: a2 :: a3 :: a4 :: L) (.int x :: st) Q := g_istore (i := 4) hd hn he k
theorem g_in4 {a0 a1 a2 a3 : Option Value} {n : Int} {x v : Int32} {pc2 : Nat} (hd : decode M.2.1 pc = .ok (.iinc 4 n, 3)) (hv : x + Int32.ofInt n = v) (hn : 4 < M.2.2.1) (he : pc + 3 = pc2) (k : lt_G l d mc ms M ck cn sh σ pc2 (a0 :: a1 :: a2 :: a3 :: some (.int v) :: L) st Q) : lt_G l d mc ms M ck cn sh σ pc (a0 :: a1 :: a2 :: a3 :: some (.int x) :: L) st Q := g_iinc (i := 4) hd rfl hv hn he k
theorem g_il5 {a0 a1 a2 a3 a4 : Option Value} {x : Int32} {pc2 : Nat} (hd : decode M.2.1 pc = .ok (.iload 5, 2)) (he : pc + 2 = pc2) (k : lt_G l d mc ms M ck cn sh σ pc2 (a0 :: a1 :: a2 :: a3 :: a4 :: some (.int x) :: L) (.int x :: st) Q) : lt_G l d mc ms M ck cn sh σ pc (a0 :: a1 :: a2 :: a3 :: a4 :: some (.int x) :: L) st Q := g_iload (i := 5) hd rfl he k
theorem g_is5 {a0 a1 a2 a3 a4 a5 : Option Value}{x : Int32} {pc2 : Nat} (hd : decode M.2.1 pc = .ok (.istore 5, 2)) (hn : 5 < M.2.2.1) (he : pc + 2 = pc2) (k : lt_G l d mc ms M ck cn sh σ pc2 (a0 :: a1 :: a2 :: a3 :: a4 :: some (.int x) :: L) st Q) : lt_G l d mc ms M ck cn sh σ pc (a0 :: a1 :: a2 :: a3 :: a4 :: a5 :: L) (.int x :: st) Q := g_istore (i := 5) hd hn he k
theorem g_in5 {a0 a1 a2 a3 a4 : Option Value} {n : Int} {x v : Int32} {pc2 : Nat} (hd : decode M.2.1 pc = .ok (.iinc 5 n, 3)) (hv : x + Int32.ofInt n = v) (hn : 5 < M.2.2.1) (he : pc + 3 = pc2) (k : lt_G l d mc ms M ck cn sh σ pc2 (a0 :: a1 :: a2 :: a3 :: a4 :: some (.int v) :: L) st Q) : lt_G l d mc ms M ck cn sh σ pc (a0 :: a1 :: a2 :: a3 :: a4 :: some (.int x) :: L) st Q := g_iinc (i := 5) hd rfl hv hn he k
theorem g_il6 {a0 a1 a2 a3 a4 a5 : Option Value} {x : Int32} {pc2 : Nat} (hd : decode M.2.1 pc = .ok (.iload 6, 2)) (he : pc + 2 = pc2) (k : lt_G l d mc ms M ck cn sh σ pc2 (a0 :: a1 :: a2 :: a3 :: a4 :: a5 :: some (.int x) :: L) (.int x :: st) Q) : lt_G l d mc ms M ck cn sh σ pc (a0 :: a1 :: a2 :: a3 :: a4 :: a5 :: some (.int x) :: L) st Q := g_iload (i := 6) hd rfl he k
theorem g_is6 {a0 a1 a2 a3 a4 a5 a6 : Option Value}{x : Int32} {pc2 : Nat} (hd : decode M.2.1 pc = .ok (.istore 6, 2)) (hn : 6 < M.2.2.1) (he : pc + 2 = pc2) (k : lt_G l d mc ms M ck cn sh σ pc2 (a0 :: a1 :: a2 :: a3 :: a4 :: a5 :: some (.int x) :: L) st Q) : lt_G l d mc ms M ck cn sh σ pc (a0 :: a1 :: a2 :: a3 :: a4 :: a5 :: a6 :: L) (.int x :: st) Q := g_istore (i := 6) hd hn he k
theorem g_in6 {a0 a1 a2 a3 a4 a5 : Option Value} {n : Int} {x v : Int32} {pc2 : Nat} (hd : decode M.2.1 pc = .ok (.iinc 6 n, 3)) (hv : x + Int32.ofInt n = v) (hn : 6 < M.2.2.1) (he : pc + 3 = pc2) (k : lt_G l d mc ms M ck cn sh σ pc2 (a0 :: a1 :: a2 :: a3 :: a4 :: a5 :: some (.int v) :: L) st Q) : lt_G l d mc ms M ck cn sh σ pc (a0 :: a1 :: a2 :: a3 :: a4 :: a5 :: some (.int x) :: L) st Q := g_iinc (i := 6) hd rfl hv hn he k
theorem g_il7 {a0 a1 a2 a3 a4 a5 a6 : Option Value} {x : Int32} {pc2 : Nat} (hd : decode M.2.1 pc = .ok (.iload 7, 2)) (he : pc + 2 = pc2) (k : lt_G l d mc ms M ck cn sh σ pc2 (a0 :: a1 :: a2 :: a3 :: a4 :: a5 :: a6 :: some (.int x) :: L) (.int x :: st) Q) : lt_G l d mc ms M ck cn sh σ pc (a0 :: a1 :: a2 :: a3 :: a4 :: a5 :: a6 :: some (.int x) :: L) st Q := g_iload (i := 7) hd rfl he k
theorem g_is7 {a0 a1 a2 a3 a4 a5 a6 a7 : Option Value}{x : Int32} {pc2 : Nat} (hd : decode M.2.1 pc = .ok (.istore 7, 2)) (hn : 7 < M.2.2.1) (he : pc + 2 = pc2) (k : lt_G l d mc ms M ck cn sh σ pc2 (a0 :: a1 :: a2 :: a3 :: a4 :: a5 :: a6 :: some (.int x) :: L) st Q) : lt_G l d mc ms M ck cn sh σ pc (a0 :: a1 :: a2 :: a3 :: a4 :: a5 :: a6 :: a7 :: L) (.int x :: st) Q := g_istore (i := 7) hd hn he k
theorem g_in7 {a0 a1 a2 a3 a4 a5 a6 : Option Value} {n : Int} {x v : Int32} {pc2 : Nat} (hd : decode M.2.1 pc = .ok (.iinc 7 n, 3)) (hv : x + Int32.ofInt n = v) (hn : 7 < M.2.2.1) (he : pc + 3 = pc2) (k : lt_G l d mc ms M ck cn sh σ pc2 (a0 :: a1 :: a2 :: a3 :: a4 :: a5 :: a6 :: some (.int v) :: L) st Q) : lt_G l d mc ms M ck cn sh σ pc (a0 :: a1 :: a2 :: a3 :: a4 :: a5 :: a6 :: some (.int x) :: L) st Q := g_iinc (i := 7) hd rfl hv hn he k
theorem g_il8 {a0 a1 a2 a3 a4 a5 a6 a7 : Option Value} {x : Int32} {pc2 : Nat} (hd : decode M.2.1 pc = .ok (.iload 8, 2)) (he : pc + 2 = pc2) (k : lt_G l d mc ms M ck cn sh σ pc2 (a0 :: a1 :: a2 :: a3 :: a4 :: a5 :: a6 :: a7 :: some (.int x) :: L) (.int x :: st) Q) : lt_G l d mc ms M ck cn sh σ pc (a0 :: a1 :: a2 :: a3 :: a4 :: a5 :: a6 :: a7 :: some (.int x) :: L) st Q := g_iload (i := 8) hd rfl he k
theorem g_is8 {a0 a1 a2 a3 a4 a5 a6 a7 a8 : Option Value}{x : Int32} {pc2 : Nat} (hd : decode M.2.1 pc = .ok (.istore 8, 2)) (hn : 8 < M.2.2.1) (he : pc + 2 = pc2) (k : lt_G l d mc ms M ck cn sh σ pc2 (a0 :: a1 :: a2 :: a3 :: a4 :: a5 :: a6 :: a7 :: some (.int x) :: L) st Q) : lt_G l d mc ms M ck cn sh σ pc (a0 :: a1 :: a2 :: a3 :: a4 :: a5 :: a6 :: a7 :: a8 :: L) (.int x :: st) Q := g_istore (i := 8) hd hn he k
theorem g_in8 {a0 a1 a2 a3 a4 a5 a6 a7 : Option Value} {n : Int} {x v : Int32} {pc2 : Nat} (hd : decode M.2.1 pc = .ok (.iinc 8 n, 3)) (hv : x + Int32.ofInt n = v) (hn : 8 < M.2.2.1) (he : pc + 3 = pc2) (k : lt_G l d mc ms M ck cn sh σ pc2 (a0 :: a1 :: a2 :: a3 :: a4 :: a5 :: a6 :: a7 :: some (.int v) :: L) st Q) : lt_G l d mc ms M ck cn sh σ pc (a0 :: a1 :: a2 :: a3 :: a4 :: a5 :: a6 :: a7 :: some (.int x) :: L) st Q := g_iinc (i := 8) hd rfl hv hn he k
theorem g_il9 {a0 a1 a2 a3 a4 a5 a6 a7 a8 : Option Value} {x : Int32} {pc2 : Nat} (hd : decode M.2.1 pc = .ok (.iload 9, 2)) (he : pc + 2 = pc2) (k : lt_G l d mc ms M ck cn sh σ pc2 (a0 :: a1 :: a2 :: a3 :: a4 :: a5 :: a6 :: a7 :: a8 :: some (.int x) :: L) (.int x :: st) Q) : lt_G l d mc ms M ck cn sh σ pc (a0 :: a1 :: a2 :: a3 :: a4 :: a5 :: a6 :: a7 :: a8 :: some (.int x) :: L) st Q := g_iload (i := 9) hd rfl he k
theorem g_is9 {a0 a1 a2 a3 a4 a5 a6 a7 a8 a9 : Option Value}{x : Int32} {pc2 : Nat} (hd : decode M.2.1 pc = .ok (.istore 9, 2)) (hn : 9 < M.2.2.1) (he : pc + 2 = pc2) (k : lt_G l d mc ms M ck cn sh σ pc2 (a0 :: a1 :: a2 :: a3 :: a4 :: a5 :: a6 :: a7 :: a8 :: some (.int x) :: L) st Q) : lt_G l d mc ms M ck cn sh σ pc (a0 :: a1 :: a2 :: a3 :: a4 :: a5 :: a6 :: a7 :: a8 :: a9 :: L) (.int x :: st) Q := g_istore (i := 9) hd hn he k
theorem g_in9 {a0 a1 a2 a3 a4 a5 a6 a7 a8 : Option Value} {n : Int} {x v : Int32} {pc2 : Nat} (hd : decode M.2.1 pc = .ok (.iinc 9 n, 3)) (hv : x + Int32.ofInt n = v) (hn : 9 < M.2.2.1) (he : pc + 3 = pc2) (k : lt_G l d mc ms M ck cn sh σ pc2 (a0 :: a1 :: a2 :: a3 :: a4 :: a5 :: a6 :: a7 :: a8 :: some (.int v) :: L) st Q) : lt_G l d mc ms M ck cn sh σ pc (a0 :: a1 :: a2 :: a3 :: a4 :: a5 :: a6 :: a7 :: a8 :: some (.int x) :: L) st Q := g_iinc (i := 9) hd rfl hv hn he k
theorem g_il10 {a0 a1 a2 a3 a4 a5 a6 a7 a8 a9 : Option Value} {x : Int32} {pc2 : Nat} (hd : decode M.2.1 pc = .ok (.iload 10, 2)) (he : pc + 2 = pc2) (k : lt_G l d mc ms M ck cn sh σ pc2 (a0 :: a1 :: a2 :: a3 :: a4 :: a5 :: a6 :: a7 :: a8 :: a9 :: some (.int x) :: L) (.int x :: st) Q) : lt_G l d mc ms M ck cn sh σ pc (a0 :: a1 :: a2 :: a3 :: a4 :: a5 :: a6 :: a7 :: a8 :: a9 :: some (.int x) :: L) st Q := g_iload (i := 10) hd rfl he k
theorem g_is10 {a0 a1 a2 a3 a4 a5 a6 a7 a8 a9 a10 : Option Value}{x : Int32} {pc2 : Nat} (hd : decode M.2.1 pc = .ok (.istore 10, 2)) (hn : 10 < M.2.2.1) (he : pc + 2 = pc2) (k : lt_G l d mc ms M ck cn sh σ pc2 (a0 :: a1 :: a2 :: a3 :: a4 :: a5 :: a6 :: a7 :: a8 :: a9 :: some (.int x) :: L) st Q) : lt_G l d mc ms M ck cn sh σ pc (a0 :: a1 :: a2 :: a3 :: a4 :: a5 :: a6 :: a7 :: a8 :: a9 :: a10 :: L) (.int x :: st) Q := g_istore (i := 10) hd hn he k
theorem g_in10 {a0 a1 a2 a3 a4 a5 a6 a7 a8 a9 : Option Value} {n : Int} {x v : Int32} {pc2 : Nat} (hd : decode M.2.1 pc = .ok (.iinc 10 n, 3)) (hv : x + Int32.ofInt n = v) (hn : 10 < M.2.2.1) (he : pc + 3 = pc2) (k : lt_G l d mc ms M ck cn sh σ pc2 (a0 :: a1 :: a2 :: a3 :: a4 :: a5 :: a6 :: a7 :: a8 :: a9 :: some (.int v) :: L) st Q) : lt_G l d mc ms M ck cn sh σ pc (a0 :: a1 :: a2 :: a3 :: a4 :: a5 :: a6 :: a7 :: a8 :: a9 :: some (.int x) :: L) st Q := g_iinc (i := 10) hd rfl hv hn he k
theorem g_il11 {a0 a1 a2 a3 a4 a5 a6 a7 a8 a9 a10 : Option Value} {x : Int32} {pc2 : Nat} (hd : decode M.2.1 pc = .ok (.iload 11, 2)) (he : pc + 2 = pc2) (k : lt_G l d mc ms M ck cn sh σ pc2 (a0 :: a1 :: a2 :: a3 :: a4 :: a5 :: a6 :: a7 :: a8 :: a9 :: a10 :: some (.int x) :: L) (.int x :: st) Q) : lt_G l d mc ms M ck cn sh σ pc (a0 :: a1 :: a2 :: a3 :: a4 :: a5 :: a6 :: a7 :: a8 :: a9 :: a10 :: some (.int x) :: L) st Q := g_iload (i := 11) hd rfl he k
theorem g_is11 {a0 a1 a2 a3 a4 a5 a6 a7 a8 a9 a10 a11 : Option Value}{x : Int32} {pc2 : Nat} (hd : decode M.2.1 pc = .ok (.istore 11, 2)) (hn : 11 < M.2.2.1) (he : pc + 2 = pc2) (k : lt_G l d mc ms M ck cn sh σ pc2 (a0 :: a1 :: a2 :: a3 :: a4 :: a5 :: a6 :: a7 :: a8 :: a9 :: a10 :: some (.int x) :: L) st Q) : lt_G l d mc ms M ck cn sh σ pc (a0 :: a1 :: a2 :: a3 :: a4 :: a5 :: a6 :: a7 :: a8 :: a9 :: a10 :: a11 :: L) (.int x :: st) Q := g_istore (i := 11) hd hn he k
theorem g_in11 {a0 a1 a2 a3 a4 a5 a6 a7 a8 a9 a10 : Option Value} {n : Int} {x v : Int32} {pc2 : Nat} (hd : decode M.2.1 pc = .ok (.iinc 11 n, 3)) (hv : x + Int32.ofInt n = v) (hn : 11 < M.2.2.1) (he : pc + 3 = pc2) (k : lt_G l d mc ms M ck cn sh σ pc2 (a0 :: a1 :: a2 :: a3 :: a4 :: a5 :: a6 :: a7 :: a8 :: a9 :: a10 :: some (.int v) :: L) st Q) : lt_G l d mc ms M ck cn sh σ pc (a0 :: a1 :: a2 :: a3 :: a4 :: a5 :: a6 :: a7 :: a8 :: a9 :: a10 :: some (.int x) :: L) st Q := g_iinc (i := 11) hd rfl hv hn he k
theorem g_il12 {a0 a1 a2 a3 a4 a5 a6 a7 a8 a9 a10 a11 : Option Value} {x : Int32} {pc2 : Nat} (hd : decode M.2.1 pc = .ok (.iload 12, 2)) (he : pc + 2 = pc2) (k : lt_G l d mc ms M ck cn sh σ pc2 (a0 :: a1 :: a2 :: a3 :: a4 :: a5 :: a6 :: a7 :: a8 :: a9 :: a10 :: a11 :: some (.int x) :: L) (.int x :: st) Q) : lt_G l d mc ms M ck cn sh σ pc (a0 :: a1 :: a2 :: a3 :: a4 :: a5 :: a6 :: a7 :: a8 :: a9 :: a10 :: a11 :: some (.int x) :: L) st Q := g_iload (i := 12) hd rfl he k
theorem g_is12 {a0 a1 a2 a3 a4 a5 a6 a7 a8 a9 a10 a11 a12 : Option Value}{x : Int32} {pc2 : Nat} (hd : decode M.2.1 pc = .ok (.istore 12, 2)) (hn : 12 < M.2.2.1) (he : pc + 2 = pc2) (k : lt_G l d mc ms M ck cn sh σ pc2 (a0 :: a1 :: a2 :: a3 :: a4 :: a5 :: a6 :: a7 :: a8 :: a9 :: a10 :: a11 :: some (.int x) :: L) st Q) : lt_G l d mc ms M ck cn sh σ pc (a0 :: a1 :: a2 :: a3 :: a4 :: a5 :: a6 :: a7 :: a8 :: a9 :: a10 :: a11 :: a12 :: L) (.int x :: st) Q := g_istore (i := 12) hd hn he k
theorem g_in12 {a0 a1 a2 a3 a4 a5 a6 a7 a8 a9 a10 a11 : Option Value} {n : Int} {x v : Int32} {pc2 : Nat} (hd : decode M.2.1 pc = .ok (.iinc 12 n, 3)) (hv : x + Int32.ofInt n = v) (hn : 12 < M.2.2.1) (he : pc + 3 = pc2) (k : lt_G l d mc ms M ck cn sh σ pc2 (a0 :: a1 :: a2 :: a3 :: a4 :: a5 :: a6 :: a7 :: a8 :: a9 :: a10 :: a11 :: some (.int v) :: L) st Q) : lt_G l d mc ms M ck cn sh σ pc (a0 :: a1 :: a2 :: a3 :: a4 :: a5 :: a6 :: a7 :: a8 :: a9 :: a10 :: a11 :: some (.int x) :: L) st Q := g_iinc (i := 12) hd rfl hv hn he k
theorem g_ret (hd : decode M.2.1 pc = .ok (.return_, 1)) (hm : M.2.2.2 = none) (hc : ck ≤ mc) (hs : cn ≤ ms) (k : Q none sh σ) : lt_G l d mc ms M ck cn sh σ pc L [] Q := by
  intro p e R s m args below meth c H locs Z D dA ad0 ad A N0 ls C Wd hl ho hr
  exact W.widen hc hs (hr none sh σ ad H locs pc ls k Wd ⟨hm, hd⟩)
theorem g_iret {x : Int32} (hd : decode M.2.1 pc = .ok (.ireturn, 1)) (hm : M.2.2.2 = some .int) (hc : ck ≤ mc) (hs : cn ≤ ms) (k : Q (some x) sh σ) : lt_G l d mc ms M ck cn sh σ pc L [.int x] Q := by
  intro p e R s m args below meth c H locs Z D dA ad0 ad A N0 ls C Wd hl ho hr
  exact W.widen hc hs (hr (some x) sh σ ad H locs pc ls k Wd ⟨.int, hm, rfl, hd⟩)
theorem g_zret {x : Int32} {ty : FieldType} (hd : decode M.2.1 pc = .ok (.ireturn, 1)) (hm : M.2.2.2 = some ty) (hz : narrow ty (.int x) = .int x) (hc : ck ≤ mc) (hs : cn ≤ ms) (k : Q (some x) sh σ) : lt_G l d mc ms M ck cn sh σ pc L [.int x] Q := by
  intro p e R s m args below meth c H locs Z D dA ad0 ad A N0 ls C Wd hl ho hr
  exact W.widen hc hs (hr (some x) sh σ ad H locs pc ls k Wd ⟨ty, hm, hz, hd⟩)
theorem g_tableOut {dflt lo hi : Int} {offs : Array Int} {len : Nat} {x : Int32} (tgt : Nat) (hd : decode M.2.1 pc = .ok (.tableswitch dflt lo hi offs, len)) (h : x.toInt < lo ∨ hi < x.toInt) (ht : (pc : Int) + dflt = (tgt : Int)) (k : lt_G l d mc ms M ck cn sh σ tgt L st Q) : lt_G l d mc ms M ck cn sh σ pc L (.int x :: st) Q := by
  intro p e R s m args below meth c H locs Z D dA ad0 ad A N0 ls C Wd hl ho hr
  exact lv_tableOut C.1.1 C.1.2.1 hd h ht (k p e R s m args below meth c H locs Z D dA ad0 ad A N0 ls C Wd hl ho.2 hr)
theorem g_tableIn {dflt lo hi : Int} {offs : Array Int} {len : Nat} {x : Int32} {off : Int} (tgt : Nat) (hd : decode M.2.1 pc = .ok (.tableswitch dflt lo hi offs, len)) (h1 : ¬ x.toInt < lo) (h2 : ¬ hi < x.toInt) (hf : offs[(x.toInt - lo).toNat]? = some off) (ht : (pc : Int) + off = (tgt : Int)) (k : lt_G l d mc ms M ck cn sh σ tgt L st Q) : lt_G l d mc ms M ck cn sh σ pc L (.int x :: st) Q := by
  intro p e R s m args below meth c H locs Z D dA ad0 ad A N0 ls C Wd hl ho hr
  exact lv_tableIn C.1.1 C.1.2.1 hd h1 h2 hf ht (k p e R s m args below meth c H locs Z D dA ad0 ad A N0 ls C Wd hl ho.2 hr)
theorem g_top {x y : Int32} (e : x = y) (k : lt_G l d mc ms M ck cn sh σ pc L (.int y :: st) Q) : lt_G l d mc ms M ck cn sh σ pc L (.int x :: st) Q := e ▸ k
end LT1
