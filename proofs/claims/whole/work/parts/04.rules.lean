theorem w_iconst {M : Mt} {pc : Nat} {L st : List Value} {S : St} {Z : Option Value → St → Prop} {n : Int} {v : Int32} (hd : decode M.2.1 pc = .ok (.iconst n, 1)) (hv : Int32.ofInt n = v) (h : Wp M (pc + 1) L (.int v :: st) S Z) : Wp M pc L (st) S Z := by
  intro l Y hY p e s m args below meth c X hK ls H locs hL hP hS
  exact lv_iconst X.1 X.2.1 hd hv (h l Y hY p e s m args below meth c X hK ls H locs hL hP hS)
theorem w_bipush {M : Mt} {pc : Nat} {L st : List Value} {S : St} {Z : Option Value → St → Prop} {n : Int} {v : Int32} (hd : decode M.2.1 pc = .ok (.bipush n, 2)) (hv : (Int8.ofInt n).toInt32 = v) (h : Wp M (pc + 2) L (.int v :: st) S Z) : Wp M pc L (st) S Z := by
  intro l Y hY p e s m args below meth c X hK ls H locs hL hP hS
  exact lv_bipush X.1 X.2.1 hd hv (h l Y hY p e s m args below meth c X hK ls H locs hL hP hS)
theorem w_sipush {M : Mt} {pc : Nat} {L st : List Value} {S : St} {Z : Option Value → St → Prop} {n : Int} {v : Int32} (hd : decode M.2.1 pc = .ok (.sipush n, 3)) (hv : (Int16.ofInt n).toInt32 = v) (h : Wp M (pc + 3) L (.int v :: st) S Z) : Wp M pc L (st) S Z := by
  intro l Y hY p e s m args below meth c X hK ls H locs hL hP hS
  exact lv_sipush X.1 X.2.1 hd hv (h l Y hY p e s m args below meth c X hK ls H locs hL hP hS)
theorem w_iload_n {M : Mt} {pc : Nat} {L st : List Value} {S : St} {Z : Option Value → St → Prop} {k : Fin 4} {y : Int32} (hd : decode M.2.1 pc = .ok (.iload_n k, 1)) (hl : L[k.val]? = some (.int y)) (h : Wp M (pc + 1) L (.int y :: st) S Z) : Wp M pc L (st) S Z := by
  intro l Y hY p e s m args below meth c X hK ls H locs hL hP hS
  exact lv_iload_n X.1 X.2.1 hd rfl (hL.2.2.2.1 _ _ hl) (h l Y hY p e s m args below meth c X hK ls H locs hL hP hS)
theorem w_iload {M : Mt} {pc : Nat} {L st : List Value} {S : St} {Z : Option Value → St → Prop} {k : Nat} {y : Int32} (hd : decode M.2.1 pc = .ok (.iload k, 2)) (hl : L[k]? = some (.int y)) (h : Wp M (pc + 2) L (.int y :: st) S Z) : Wp M pc L (st) S Z := by
  intro l Y hY p e s m args below meth c X hK ls H locs hL hP hS
  exact lv_iload X.1 X.2.1 hd (hL.2.2.2.1 _ _ hl) (h l Y hY p e s m args below meth c X hK ls H locs hL hP hS)
theorem w_aload_n {M : Mt} {pc : Nat} {L st : List Value} {S : St} {Z : Option Value → St → Prop} {k : Fin 4} {a : Nat} (hd : decode M.2.1 pc = .ok (.aload_n k, 1)) (hl : L[k.val]? = some (.ref a)) (h : Wp M (pc + 1) L (.ref a :: st) S Z) : Wp M pc L (st) S Z := by
  intro l Y hY p e s m args below meth c X hK ls H locs hL hP hS
  exact lv_aload_n X.1 X.2.1 hd rfl (hL.2.2.2.2 _ _ hl) (h l Y hY p e s m args below meth c X hK ls H locs hL hP hS)
theorem w_aload {M : Mt} {pc : Nat} {L st : List Value} {S : St} {Z : Option Value → St → Prop} {k : Nat} {a : Nat} (hd : decode M.2.1 pc = .ok (.aload k, 2)) (hl : L[k]? = some (.ref a)) (h : Wp M (pc + 2) L (.ref a :: st) S Z) : Wp M pc L (st) S Z := by
  intro l Y hY p e s m args below meth c X hK ls H locs hL hP hS
  exact lv_aload X.1 X.2.1 hd (hL.2.2.2.2 _ _ hl) (h l Y hY p e s m args below meth c X hK ls H locs hL hP hS)
theorem w_istore_n {M : Mt} {pc : Nat} {L st : List Value} {S : St} {Z : Option Value → St → Prop} {k : Fin 4} {y : Int32} (hd : decode M.2.1 pc = .ok (.istore_n k, 1)) (hk : k.val < L.length) (h : Wp M (pc + 1) (L.set k.val (.int y)) st S Z) : Wp M pc L (.int y :: st) S Z := by
  intro l Y hY p e s m args below meth c X hK ls H locs hL hP hS
  exact lv_istore_n X.1 X.2.1 hd rfl hL.has (by rw [← hL.1]; exact hk) rfl (fun ls' hL' => (h l Y hY p e s m args below meth c X hK ls' H locs (LR.of (Or.inl ⟨_, rfl⟩) hL hL' (by rw [← hL.1]; exact hk)) hP hS))
theorem w_istore {M : Mt} {pc : Nat} {L st : List Value} {S : St} {Z : Option Value → St → Prop} {k : Nat} {y : Int32} (hd : decode M.2.1 pc = .ok (.istore k, 2)) (hk : k < L.length) (h : Wp M (pc + 2) (L.set k (.int y)) st S Z) : Wp M pc L (.int y :: st) S Z := by
  intro l Y hY p e s m args below meth c X hK ls H locs hL hP hS
  exact lv_istore X.1 X.2.1 hd hL.has (by rw [← hL.1]; exact hk) rfl (fun ls' hL' => (h l Y hY p e s m args below meth c X hK ls' H locs (LR.of (Or.inl ⟨_, rfl⟩) hL hL' (by rw [← hL.1]; exact hk)) hP hS))
theorem w_astore_n {M : Mt} {pc : Nat} {L st : List Value} {S : St} {Z : Option Value → St → Prop} {k : Fin 4} {a : Nat} (hd : decode M.2.1 pc = .ok (.astore_n k, 1)) (hk : k.val < L.length) (h : Wp M (pc + 1) (L.set k.val (.ref a)) st S Z) : Wp M pc L (.ref a :: st) S Z := by
  intro l Y hY p e s m args below meth c X hK ls H locs hL hP hS
  exact lv_astore_n X.1 X.2.1 hd rfl hL.has (by rw [← hL.1]; exact hk) rfl (fun ls' hL' => (h l Y hY p e s m args below meth c X hK ls' H locs (LR.of (Or.inr ⟨_, rfl⟩) hL hL' (by rw [← hL.1]; exact hk)) hP hS))
theorem w_astore {M : Mt} {pc : Nat} {L st : List Value} {S : St} {Z : Option Value → St → Prop} {k : Nat} {a : Nat} (hd : decode M.2.1 pc = .ok (.astore k, 2)) (hk : k < L.length) (h : Wp M (pc + 2) (L.set k (.ref a)) st S Z) : Wp M pc L (.ref a :: st) S Z := by
  intro l Y hY p e s m args below meth c X hK ls H locs hL hP hS
  exact lv_astore X.1 X.2.1 hd hL.has (by rw [← hL.1]; exact hk) rfl (fun ls' hL' => (h l Y hY p e s m args below meth c X hK ls' H locs (LR.of (Or.inr ⟨_, rfl⟩) hL hL' (by rw [← hL.1]; exact hk)) hP hS))
theorem w_iinc {M : Mt} {pc : Nat} {L st : List Value} {S : St} {Z : Option Value → St → Prop} {k : Nat} {n : Int} {y v : Int32} (hd : decode M.2.1 pc = .ok (.iinc k n, 3)) (hl : L[k]? = some (.int y)) (hv : y + Int32.ofInt n = v) (h : Wp M (pc + 3) (L.set k (.int v)) st S Z) : Wp M pc L st S Z := by
  intro l Y hY p e s m args below meth c X hK ls H locs hL hP hS
  have hk : k < L.length := (List.getElem?_eq_some_iff.mp hl).1
  obtain ⟨j, hj⟩ := List.getElem?_of_mem (lvo_int (ad := Y.2.2) hl)
  exact lv_iinc X.1 X.2.1 hd hL.has hj hv (by rw [← hL.1]; exact hk) rfl (fun ls' hL' => (h l Y hY p e s m args below meth c X hK ls' H locs (LR.of (Or.inl ⟨_, rfl⟩) hL hL' (by rw [← hL.1]; exact hk)) hP hS))
theorem w_iadd {M : Mt} {pc : Nat} {L st : List Value} {S : St} {Z : Option Value → St → Prop} {x1 y : Int32} (hd : decode M.2.1 pc = .ok (.iadd, 1)) (h : Wp M (pc + 1) L (.int (x1 + y) :: st) S Z) : Wp M pc L (.int y :: .int x1 :: st) S Z := by
  intro l Y hY p e s m args below meth c X hK ls H locs hL hP hS
  exact lv_iadd X.1 X.2.1 hd (h l Y hY p e s m args below meth c X hK ls H locs hL hP hS)
theorem w_isub {M : Mt} {pc : Nat} {L st : List Value} {S : St} {Z : Option Value → St → Prop} {x1 y : Int32} (hd : decode M.2.1 pc = .ok (.isub, 1)) (h : Wp M (pc + 1) L (.int (x1 - y) :: st) S Z) : Wp M pc L (.int y :: .int x1 :: st) S Z := by
  intro l Y hY p e s m args below meth c X hK ls H locs hL hP hS
  exact lv_isub X.1 X.2.1 hd (h l Y hY p e s m args below meth c X hK ls H locs hL hP hS)
theorem w_imul {M : Mt} {pc : Nat} {L st : List Value} {S : St} {Z : Option Value → St → Prop} {x1 y : Int32} (hd : decode M.2.1 pc = .ok (.imul, 1)) (h : Wp M (pc + 1) L (.int (x1 * y) :: st) S Z) : Wp M pc L (.int y :: .int x1 :: st) S Z := by
  intro l Y hY p e s m args below meth c X hK ls H locs hL hP hS
  exact lv_imul X.1 X.2.1 hd (h l Y hY p e s m args below meth c X hK ls H locs hL hP hS)
theorem w_iand {M : Mt} {pc : Nat} {L st : List Value} {S : St} {Z : Option Value → St → Prop} {x1 y : Int32} (hd : decode M.2.1 pc = .ok (.iand, 1)) (h : Wp M (pc + 1) L (.int (x1 &&& y) :: st) S Z) : Wp M pc L (.int y :: .int x1 :: st) S Z := by
  intro l Y hY p e s m args below meth c X hK ls H locs hL hP hS
  exact lv_iand X.1 X.2.1 hd (h l Y hY p e s m args below meth c X hK ls H locs hL hP hS)
theorem w_ior {M : Mt} {pc : Nat} {L st : List Value} {S : St} {Z : Option Value → St → Prop} {x1 y : Int32} (hd : decode M.2.1 pc = .ok (.ior, 1)) (h : Wp M (pc + 1) L (.int (x1 ||| y) :: st) S Z) : Wp M pc L (.int y :: .int x1 :: st) S Z := by
  intro l Y hY p e s m args below meth c X hK ls H locs hL hP hS
  exact lv_ior X.1 X.2.1 hd (h l Y hY p e s m args below meth c X hK ls H locs hL hP hS)
theorem w_ixor {M : Mt} {pc : Nat} {L st : List Value} {S : St} {Z : Option Value → St → Prop} {x1 y : Int32} (hd : decode M.2.1 pc = .ok (.ixor, 1)) (h : Wp M (pc + 1) L (.int (x1 ^^^ y) :: st) S Z) : Wp M pc L (.int y :: .int x1 :: st) S Z := by
  intro l Y hY p e s m args below meth c X hK ls H locs hL hP hS
  exact lv_ixor X.1 X.2.1 hd (h l Y hY p e s m args below meth c X hK ls H locs hL hP hS)
theorem w_ishl {M : Mt} {pc : Nat} {L st : List Value} {S : St} {Z : Option Value → St → Prop} {x1 y : Int32} (hd : decode M.2.1 pc = .ok (.ishl, 1)) (h : Wp M (pc + 1) L (.int (x1 <<< (y &&& 31)) :: st) S Z) : Wp M pc L (.int y :: .int x1 :: st) S Z := by
  intro l Y hY p e s m args below meth c X hK ls H locs hL hP hS
  exact lv_ishl X.1 X.2.1 hd (h l Y hY p e s m args below meth c X hK ls H locs hL hP hS)
theorem w_idiv {M : Mt} {pc : Nat} {L st : List Value} {S : St} {Z : Option Value → St → Prop} {x1 y : Int32} (hd : decode M.2.1 pc = .ok (.idiv, 1)) (hne : ¬ y = 0) (h : Wp M (pc + 1) L (.int (x1 / y) :: st) S Z) : Wp M pc L (.int y :: .int x1 :: st) S Z := by
  intro l Y hY p e s m args below meth c X hK ls H locs hL hP hS
  exact lv_idiv X.1 X.2.1 hd hne (h l Y hY p e s m args below meth c X hK ls H locs hL hP hS)
theorem w_irem {M : Mt} {pc : Nat} {L st : List Value} {S : St} {Z : Option Value → St → Prop} {x1 y : Int32} (hd : decode M.2.1 pc = .ok (.irem, 1)) (hne : ¬ y = 0) (h : Wp M (pc + 1) L (.int (x1 - x1 / y * y) :: st) S Z) : Wp M pc L (.int y :: .int x1 :: st) S Z := by
  intro l Y hY p e s m args below meth c X hK ls H locs hL hP hS
  exact lv_irem X.1 X.2.1 hd hne (h l Y hY p e s m args below meth c X hK ls H locs hL hP hS)
theorem w_ineg {M : Mt} {pc : Nat} {L st : List Value} {S : St} {Z : Option Value → St → Prop} {y : Int32} (hd : decode M.2.1 pc = .ok (.ineg, 1)) (h : Wp M (pc + 1) L (.int (-y) :: st) S Z) : Wp M pc L (.int y :: st) S Z := by
  intro l Y hY p e s m args below meth c X hK ls H locs hL hP hS
  exact lv_ineg X.1 X.2.1 hd (h l Y hY p e s m args below meth c X hK ls H locs hL hP hS)
theorem w_dup {M : Mt} {pc : Nat} {L st : List Value} {S : St} {Z : Option Value → St → Prop} {v : Value} (hd : decode M.2.1 pc = .ok (.dup, 1)) (hv : v.category = 1) (h : Wp M (pc + 1) L (v :: v :: st) S Z) : Wp M pc L (v :: st) S Z := by
  intro l Y hY p e s m args below meth c X hK ls H locs hL hP hS
  exact lv_dup X.1 X.2.1 hd (by rw [tr_cat1]; exact hv) (h l Y hY p e s m args below meth c X hK ls H locs hL hP hS)
theorem w_dup2 {M : Mt} {pc : Nat} {L st : List Value} {S : St} {Z : Option Value → St → Prop} {v w : Value} (hd : decode M.2.1 pc = .ok (.dup2, 1)) (hv : v.category = 1) (hw : w.category = 1) (h : Wp M (pc + 1) L (v :: w :: v :: w :: st) S Z) : Wp M pc L (v :: w :: st) S Z := by
  intro l Y hY p e s m args below meth c X hK ls H locs hL hP hS
  exact lv_dup2_11 X.1 X.2.1 hd (by rw [tr_cat1]; exact hv) (by rw [tr_cat1]; exact hw) (h l Y hY p e s m args below meth c X hK ls H locs hL hP hS)
theorem w_pop {M : Mt} {pc : Nat} {L st : List Value} {S : St} {Z : Option Value → St → Prop} {v : Value} (hd : decode M.2.1 pc = .ok (.pop, 1)) (hv : v.category = 1) (h : Wp M (pc + 1) L st S Z) : Wp M pc L (v :: st) S Z := by
  intro l Y hY p e s m args below meth c X hK ls H locs hL hP hS
  exact lv_pop X.1 X.2.1 hd (by rw [tr_cat1]; exact hv) (h l Y hY p e s m args below meth c X hK ls H locs hL hP hS)
theorem w_goto {M : Mt} {pc : Nat} {L st : List Value} {S : St} {Z : Option Value → St → Prop} {off : Int} (tgt : Nat) (hd : decode M.2.1 pc = .ok (.goto off, 3)) (ht : (pc : Int) + off = (tgt : Int)) (h : Wp M tgt L st S Z) : Wp M pc L (st) S Z := by
  intro l Y hY p e s m args below meth c X hK ls H locs hL hP hS
  exact lv_goto X.1 X.2.1 hd ht (h l Y hY p e s m args below meth c X hK ls H locs hL hP hS)
theorem w_if_eq {M : Mt} {pc : Nat} {L st : List Value} {S : St} {Z : Option Value → St → Prop} {x1 : Int32} {off : Int} (tgt : Nat) (hd : decode M.2.1 pc = .ok (.ifCond .eq off, 3)) (ht : (pc : Int) + off = (tgt : Int)) (ht1 : x1 = 0 → Wp M tgt L st S Z) (hf1 : ¬ x1 = 0 → Wp M (pc + 3) L st S Z) : Wp M pc L (.int x1 :: st) S Z := by
  intro l Y hY p e s m args below meth c X hK ls H locs hL hP hS
  exact lv_if_eq X.1 X.2.1 hd ht (fun hq => (ht1 hq l Y hY p e s m args below meth c X hK ls H locs hL hP hS)) (fun hq => (hf1 hq l Y hY p e s m args below meth c X hK ls H locs hL hP hS))
theorem w_icmp_eq {M : Mt} {pc : Nat} {L st : List Value} {S : St} {Z : Option Value → St → Prop} {x1 y : Int32} {off : Int} (tgt : Nat) (hd : decode M.2.1 pc = .ok (.if_icmp .eq off, 3)) (ht : (pc : Int) + off = (tgt : Int)) (ht1 : x1 = y → Wp M tgt L st S Z) (hf1 : ¬ x1 = y → Wp M (pc + 3) L st S Z) : Wp M pc L (.int y :: .int x1 :: st) S Z := by
  intro l Y hY p e s m args below meth c X hK ls H locs hL hP hS
  exact lv_icmp_eq X.1 X.2.1 hd ht (fun hq => (ht1 hq l Y hY p e s m args below meth c X hK ls H locs hL hP hS)) (fun hq => (hf1 hq l Y hY p e s m args below meth c X hK ls H locs hL hP hS))
theorem w_if_ne {M : Mt} {pc : Nat} {L st : List Value} {S : St} {Z : Option Value → St → Prop} {x1 : Int32} {off : Int} (tgt : Nat) (hd : decode M.2.1 pc = .ok (.ifCond .ne off, 3)) (ht : (pc : Int) + off = (tgt : Int)) (ht1 : ¬ x1 = 0 → Wp M tgt L st S Z) (hf1 : x1 = 0 → Wp M (pc + 3) L st S Z) : Wp M pc L (.int x1 :: st) S Z := by
  intro l Y hY p e s m args below meth c X hK ls H locs hL hP hS
  exact lv_if_ne X.1 X.2.1 hd ht (fun hq => (ht1 hq l Y hY p e s m args below meth c X hK ls H locs hL hP hS)) (fun hq => (hf1 hq l Y hY p e s m args below meth c X hK ls H locs hL hP hS))
theorem w_icmp_ne {M : Mt} {pc : Nat} {L st : List Value} {S : St} {Z : Option Value → St → Prop} {x1 y : Int32} {off : Int} (tgt : Nat) (hd : decode M.2.1 pc = .ok (.if_icmp .ne off, 3)) (ht : (pc : Int) + off = (tgt : Int)) (ht1 : ¬ x1 = y → Wp M tgt L st S Z) (hf1 : x1 = y → Wp M (pc + 3) L st S Z) : Wp M pc L (.int y :: .int x1 :: st) S Z := by
  intro l Y hY p e s m args below meth c X hK ls H locs hL hP hS
  exact lv_icmp_ne X.1 X.2.1 hd ht (fun hq => (ht1 hq l Y hY p e s m args below meth c X hK ls H locs hL hP hS)) (fun hq => (hf1 hq l Y hY p e s m args below meth c X hK ls H locs hL hP hS))
theorem w_if_lt {M : Mt} {pc : Nat} {L st : List Value} {S : St} {Z : Option Value → St → Prop} {x1 : Int32} {off : Int} (tgt : Nat) (hd : decode M.2.1 pc = .ok (.ifCond .lt off, 3)) (ht : (pc : Int) + off = (tgt : Int)) (ht1 : x1 < 0 → Wp M tgt L st S Z) (hf1 : ¬ x1 < 0 → Wp M (pc + 3) L st S Z) : Wp M pc L (.int x1 :: st) S Z := by
  intro l Y hY p e s m args below meth c X hK ls H locs hL hP hS
  exact lv_if_lt X.1 X.2.1 hd ht (fun hq => (ht1 hq l Y hY p e s m args below meth c X hK ls H locs hL hP hS)) (fun hq => (hf1 hq l Y hY p e s m args below meth c X hK ls H locs hL hP hS))
theorem w_icmp_lt {M : Mt} {pc : Nat} {L st : List Value} {S : St} {Z : Option Value → St → Prop} {x1 y : Int32} {off : Int} (tgt : Nat) (hd : decode M.2.1 pc = .ok (.if_icmp .lt off, 3)) (ht : (pc : Int) + off = (tgt : Int)) (ht1 : x1 < y → Wp M tgt L st S Z) (hf1 : ¬ x1 < y → Wp M (pc + 3) L st S Z) : Wp M pc L (.int y :: .int x1 :: st) S Z := by
  intro l Y hY p e s m args below meth c X hK ls H locs hL hP hS
  exact lv_icmp_lt X.1 X.2.1 hd ht (fun hq => (ht1 hq l Y hY p e s m args below meth c X hK ls H locs hL hP hS)) (fun hq => (hf1 hq l Y hY p e s m args below meth c X hK ls H locs hL hP hS))
theorem w_if_ge {M : Mt} {pc : Nat} {L st : List Value} {S : St} {Z : Option Value → St → Prop} {x1 : Int32} {off : Int} (tgt : Nat) (hd : decode M.2.1 pc = .ok (.ifCond .ge off, 3)) (ht : (pc : Int) + off = (tgt : Int)) (ht1 : 0 ≤ x1 → Wp M tgt L st S Z) (hf1 : ¬ 0 ≤ x1 → Wp M (pc + 3) L st S Z) : Wp M pc L (.int x1 :: st) S Z := by
  intro l Y hY p e s m args below meth c X hK ls H locs hL hP hS
  exact lv_if_ge X.1 X.2.1 hd ht (fun hq => (ht1 hq l Y hY p e s m args below meth c X hK ls H locs hL hP hS)) (fun hq => (hf1 hq l Y hY p e s m args below meth c X hK ls H locs hL hP hS))
theorem w_icmp_ge {M : Mt} {pc : Nat} {L st : List Value} {S : St} {Z : Option Value → St → Prop} {x1 y : Int32} {off : Int} (tgt : Nat) (hd : decode M.2.1 pc = .ok (.if_icmp .ge off, 3)) (ht : (pc : Int) + off = (tgt : Int)) (ht1 : y ≤ x1 → Wp M tgt L st S Z) (hf1 : ¬ y ≤ x1 → Wp M (pc + 3) L st S Z) : Wp M pc L (.int y :: .int x1 :: st) S Z := by
  intro l Y hY p e s m args below meth c X hK ls H locs hL hP hS
  exact lv_icmp_ge X.1 X.2.1 hd ht (fun hq => (ht1 hq l Y hY p e s m args below meth c X hK ls H locs hL hP hS)) (fun hq => (hf1 hq l Y hY p e s m args below meth c X hK ls H locs hL hP hS))
theorem w_if_gt {M : Mt} {pc : Nat} {L st : List Value} {S : St} {Z : Option Value → St → Prop} {x1 : Int32} {off : Int} (tgt : Nat) (hd : decode M.2.1 pc = .ok (.ifCond .gt off, 3)) (ht : (pc : Int) + off = (tgt : Int)) (ht1 : 0 < x1 → Wp M tgt L st S Z) (hf1 : ¬ 0 < x1 → Wp M (pc + 3) L st S Z) : Wp M pc L (.int x1 :: st) S Z := by
  intro l Y hY p e s m args below meth c X hK ls H locs hL hP hS
  exact lv_if_gt X.1 X.2.1 hd ht (fun hq => (ht1 hq l Y hY p e s m args below meth c X hK ls H locs hL hP hS)) (fun hq => (hf1 hq l Y hY p e s m args below meth c X hK ls H locs hL hP hS))
theorem w_icmp_gt {M : Mt} {pc : Nat} {L st : List Value} {S : St} {Z : Option Value → St → Prop} {x1 y : Int32} {off : Int} (tgt : Nat) (hd : decode M.2.1 pc = .ok (.if_icmp .gt off, 3)) (ht : (pc : Int) + off = (tgt : Int)) (ht1 : y < x1 → Wp M tgt L st S Z) (hf1 : ¬ y < x1 → Wp M (pc + 3) L st S Z) : Wp M pc L (.int y :: .int x1 :: st) S Z := by
  intro l Y hY p e s m args below meth c X hK ls H locs hL hP hS
  exact lv_icmp_gt X.1 X.2.1 hd ht (fun hq => (ht1 hq l Y hY p e s m args below meth c X hK ls H locs hL hP hS)) (fun hq => (hf1 hq l Y hY p e s m args below meth c X hK ls H locs hL hP hS))
theorem w_if_le {M : Mt} {pc : Nat} {L st : List Value} {S : St} {Z : Option Value → St → Prop} {x1 : Int32} {off : Int} (tgt : Nat) (hd : decode M.2.1 pc = .ok (.ifCond .le off, 3)) (ht : (pc : Int) + off = (tgt : Int)) (ht1 : x1 ≤ 0 → Wp M tgt L st S Z) (hf1 : ¬ x1 ≤ 0 → Wp M (pc + 3) L st S Z) : Wp M pc L (.int x1 :: st) S Z := by
  intro l Y hY p e s m args below meth c X hK ls H locs hL hP hS
  exact lv_if_le X.1 X.2.1 hd ht (fun hq => (ht1 hq l Y hY p e s m args below meth c X hK ls H locs hL hP hS)) (fun hq => (hf1 hq l Y hY p e s m args below meth c X hK ls H locs hL hP hS))
theorem w_icmp_le {M : Mt} {pc : Nat} {L st : List Value} {S : St} {Z : Option Value → St → Prop} {x1 y : Int32} {off : Int} (tgt : Nat) (hd : decode M.2.1 pc = .ok (.if_icmp .le off, 3)) (ht : (pc : Int) + off = (tgt : Int)) (ht1 : x1 ≤ y → Wp M tgt L st S Z) (hf1 : ¬ x1 ≤ y → Wp M (pc + 3) L st S Z) : Wp M pc L (.int y :: .int x1 :: st) S Z := by
  intro l Y hY p e s m args below meth c X hK ls H locs hL hP hS
  exact lv_icmp_le X.1 X.2.1 hd ht (fun hq => (ht1 hq l Y hY p e s m args below meth c X hK ls H locs hL hP hS)) (fun hq => (hf1 hq l Y hY p e s m args below meth c X hK ls H locs hL hP hS))
theorem w_ret {M : Mt} {pc : Nat} {L st : List Value} {S : St} {Z : Option Value → St → Prop} (hr : M.2.2.2.1 = none) (hd : decode M.2.1 pc = .ok (.return_, 1)) (h : Z none S) : Wp M pc L ([]) S Z := by
  intro l Y hY p e s m args below meth c X hK ls H locs hL hP hS
  exact W.vret X.1 X.2.1 (X.2.2.1.trans hr) (fun t ht hW => ⟨⟨none, S, rfl, h, by rw [ht]; exact hP⟩, hS.F ht⟩) hS.2.2 hd X.2.2.2.2.2.2.1
theorem w_iret {M : Mt} {pc : Nat} {L st : List Value} {S : St} {Z : Option Value → St → Prop} {y : Int32} (hr : M.2.2.2.1 = some .int) (hd : decode M.2.1 pc = .ok (.ireturn, 1)) (h : Z (some (.int y)) S) : Wp M pc L ([.int y]) S Z := by
  intro l Y hY p e s m args below meth c X hK ls H locs hL hP hS
  exact W.iret X.1 X.2.1 (X.2.2.1.trans hr) (fun t ht hW => ⟨⟨some (.int y), S, rfl, h, by rw [ht]; exact hP⟩, hS.F ht⟩) hS.2.2 hd X.2.2.2.2.2.2.1
theorem w_zret {M : Mt} {pc : Nat} {L st : List Value} {S : St} {Z : Option Value → St → Prop} {y : Int32} (hr : M.2.2.2.1 = some .boolean) (hd : decode M.2.1 pc = .ok (.ireturn, 1)) (hy : y = 0 ∨ y = 1) (h : Z (some (.int y)) S) : Wp M pc L ([.int y]) S Z := by
  intro l Y hY p e s m args below meth c X hK ls H locs hL hP hS
  exact W.zret X.1 X.2.1 (X.2.2.1.trans hr) (by rcases hy with rfl | rfl <;> decide +kernel) (fun t ht hW => ⟨⟨some (.int y), S, rfl, h, by rw [ht]; exact hP⟩, hS.F ht⟩) hS.2.2 hd X.2.2.2.2.2.2.1

theorem cel_obj {Y : Lay} {S : St} {a ci : Nat} (h : kd a = 4 + ci) : cel Y S a = .inr (ci, (List.range (nfT.getD ci 0)).map (fvl Y.2.2 S a)) := by
  unfold cel
  rw [if_neg (by omega), if_neg (by omega), if_neg (by omega), if_neg (by omega), h, show 4 + ci - 4 = ci by omega]
theorem zcl_len {ci : Nat} {C : String} {T : u_T} {N : Nat} (h : zcl[ci]? = some (C, T, N)) : nfT.getD ci 0 = N := by
  match ci, h with
  | 0, h | 1, h | 2, h | 3, h | 4, h | 5, h | 6, h | 7, h | 8, h | 9, h => cases h; rfl
theorem fvl_at {Y : Lay} {S : St} {a n k : Nat} (hk : k < n) : ((List.range n).map (fvl Y.2.2 S a))[k]? = some (fvl Y.2.2 S a k) := by
  rw [List.getElem?_map, List.getElem?_range hk]
  rfl
theorem w_get {M : Mt} {pc : Nat} {L st : List Value} {S : St} {Z : Option Value → St → Prop} {idx ci k a : Nat} {v : Value} (hd : decode M.2.1 pc = .ok (.getfield idx, 3)) (hf : FL M.1.cls idx ci k) (ha : a < 204) (hk : kd a = 4 + ci) (hv : (match fref a k with | some d => Value.ref d | none => .int (S.1 a k)) = v) (h : Wp M (pc + 3) L (v :: st) S Z) : Wp M pc L (.ref a :: st) S Z := by
  intro l Y hY p e s m args below meth c X hK ls H locs hL hP hS
  obtain ⟨C, T, N, h1, h2, h3, h4⟩ := hf
  have hw := (wsf_at (Y := Y) (S := S) ha)
  rw [cel_obj hk] at hw
  have hfs := fvl_at (Y := Y) (S := S) (a := a) (n := nfT.getD ci 0) (k := k) (by rw [zcl_len h1]; exact h2)
  have e1 : fvl Y.2.2 S a k = tr Y.2.2 v := by
    rw [← hv]
    unfold fvl
    cases fref a k <;> rfl
  rw [e1] at hfs
  have go := h l Y hY p e s m args below meth c X hK ls H locs hL hP hS
  rcases h4 with h4 | ⟨host, h4⟩
  · exact va_get X.1 X.2.1 X.2.2.2.2.2.1 (fun w hw => List.mem_cons_of_mem _ ((zcf h1).1 w hw)) X.2.2.2.2.1 hK hP a hw h1 k h2 (X.2.2.2.2.2.1 _ (List.mem_cons_of_mem _ h4)) (fun x9 h9 => by rw [h3] at h9; exact h9) hfs hd go
  · exact va_getN X.1 X.2.1 X.2.2.2.2.2.1 (fun w hw => List.mem_cons_of_mem _ ((zcf h1).1 w hw)) X.2.2.2.2.1 hK hP a hw h1 k h2 (va_Nw.use rfl (X.2.2.2.2.2.2.2 _ h4)) (fun x9 h9 => by rw [h3] at h9; exact h9) hfs hd go
theorem fvl_set {Y : Lay} {S : St} {a k n : Nat} {v : Int32} (hk : k < n) (hr : fref a k = none) : ((List.range n).map (fvl Y.2.2 S a)).set k (.int v) = (List.range n).map (fvl Y.2.2 (up2 S.1 a k v, S.2) a) := by
  apply List.ext_getElem?
  intro j
  by_cases hj : j = k
  · subst hj
    rw [List.getElem?_set_self (by rw [List.length_map, List.length_range]; exact hk), fvl_at hk]
    unfold fvl
    rw [hr]
    show _ = some (Value.int (up2 S.1 a j v a j))
    rw [up2_same]
  · rw [List.getElem?_set_ne (Ne.symm hj)]
    by_cases hjn : j < n
    · rw [fvl_at hjn, fvl_at hjn]
      unfold fvl
      cases fref a j with
      | some _ => rfl
      | none => show _ = some (Value.int (up2 S.1 a k v a j)); rw [up2_ne (fun q => hj q.2)]
    · rw [List.getElem?_eq_none (by rw [List.length_map, List.length_range]; omega), List.getElem?_eq_none (by rw [List.length_map, List.length_range]; omega)]
theorem w_put {M : Mt} {pc : Nat} {L st : List Value} {S : St} {Z : Option Value → St → Prop} {idx ci k a : Nat} {v : Int32} {ty : FieldType} (hd : decode M.2.1 pc = .ok (.putfield idx, 3)) (hf : FL M.1.cls idx ci k) (hw : FW ci k ty) (ha : a < 204) (hk : kd a = 4 + ci) (hr : fref a k = none) (hn : narrow ty (.int v) = .int v) (hfit : fits ty (.int v) = true) (h : Wp M (pc + 3) L st (up2 S.1 a k v, S.2) Z) : Wp M pc L (.int v :: .ref a :: st) S Z := by
  intro l Y hY p e s m args below meth c X hK ls H locs hL hP hS
  obtain ⟨C, T, N, h1, h2, h3, h4⟩ := hf
  obtain ⟨w1, w2⟩ := hw C T N h1
  obtain ⟨z1, ⟨t0, z2⟩, z3⟩ := zcf h1
  have hwa := (wsf_at (Y := Y) (S := S) ha)
  rw [cel_obj hk] at hwa
  have hkn : k < nfT.getD ci 0 := by rw [zcl_len h1]; exact h2
  have go : ∀ (H1 : Heap) (locs1 : List Loc), va_P Y.1 zcl ((wsf Y S).set a (Y.2.2 a, .inr (ci, ((List.range (nfT.getD ci 0)).map (fvl Y.2.2 S a)).set k (.int v)))) H1 → va_D (AA Y.2.2) ((wsf Y S).set a (Y.2.2 a, .inr (ci, ((List.range (nfT.getD ci 0)).map (fvl Y.2.2 S a)).set k (.int v)))) → va_S (AA Y.2.2) s.heap H1 locs1 → W p l e (rmO M) s m args below meth c H1 locs1 0 0 (MQ below (QQ Y Z) args s 0 0 (AA Y.2.2)) (F0 m (pc + 3) ls (st.map (tr Y.2.2))) := by
    intro H1 locs1 hP1 _ hS1
    rw [fvl_set hkn hr, ← cel_obj (Y := Y) (S := (up2 S.1 a k v, S.2)) hk, wsf_set (fun d hd => cel_up2 hd)] at hP1
    exact h l Y hY p e s m args below meth c X hK ls H1 locs1 hL hP1 hS1
  rcases h4 with h4 | ⟨host, h4⟩
  · exact va_put X.1 X.2.1 X.2.2.2.2.2.1 (fun w hw => List.mem_cons_of_mem _ (z1 w hw)) t0 z2 z3 X.2.2.2.2.1 hK hP (wsf_D hY S) hS a hwa h1 k h2 (X.2.2.2.2.2.1 _ (List.mem_cons_of_mem _ h4)) (fun x9 h9 => by rw [h3] at h9; exact h9) w1 w2 hn hfit (by rw [List.length_map, List.length_range]; exact hkn) hd go
  · exact va_putN X.1 X.2.1 X.2.2.2.2.2.1 (fun w hw => List.mem_cons_of_mem _ (z1 w hw)) t0 z2 z3 X.2.2.2.2.1 hK hP (wsf_D hY S) hS a hwa h1 k h2 (va_Nw.use rfl (X.2.2.2.2.2.2.2 _ h4)) (fun x9 h9 => by rw [h3] at h9; exact h9) w1 w2 hn hfit (by rw [List.length_map, List.length_range]; exact hkn) hd go
theorem cel_int {Y : Lay} {S : St} {a : Nat} (h : kd a = 0) : cel Y S a = .inl (Y.2.1 0, ln a, .inl (S.1 a)) := by
  unfold cel
  rw [if_pos h]
theorem cel_boo {Y : Lay} {S : St} {a : Nat} (h : kd a = 1) : cel Y S a = .inl (Y.2.1 1, ln a, .inl (S.1 a)) := by
  unfold cel
  rw [if_neg (by omega), if_pos h]
theorem cel_grd {Y : Lay} {S : St} {a : Nat} (h : kd a = 2) : cel Y S a = .inl (Y.2.1 2, ln a, .inr (.inr (.inr (.inr (fun i => some (Y.2.2 (gbase a + i))))))) := by
  unfold cel
  rw [if_neg (by omega), if_neg (by omega), if_pos h]
theorem cel_ent {Y : Lay} {S : St} {a : Nat} (h : kd a = 3) : cel Y S a = .inl (Y.2.1 3, ln a, .inr (.inr (.inr (.inr (fun i => some (Y.2.2 (S.2 i))))))) := by
  unfold cel
  rw [if_neg (by omega), if_neg (by omega), if_neg (by omega), if_pos h]
/-- loads: the place is the number n -/
theorem w_iald {M : Mt} {pc : Nat} {L st : List Value} {S : St} {Z : Option Value → St → Prop} {a n : Nat} {i : Int32} (hd : decode M.2.1 pc = .ok (.iaload, 1)) (hi : i = nI n) (ha : a < 204) (hk : kd a = 0) (hn : n < ln a) (h : Wp M (pc + 1) L (.int (S.1 a n) :: st) S Z) : Wp M pc L (.int i :: .ref a :: st) S Z := by
  intro l Y hY p e s m args below meth c X hK ls H locs hL hP hS
  have hwa := (wsf_at (Y := Y) (S := S) ha)
  rw [cel_int hk] at hwa
  have hb := ln_small a
  have go := h l Y hY p e s m args below meth c X hK ls H locs hL hP hS
  subst hi
  refine va_iald X.1 X.2.1 hK hP a 0 hwa rfl (vp_in_nI hn (by omega)) hd ?_
  rw [nI_clamp (by omega)]
  exact go
theorem w_bald {M : Mt} {pc : Nat} {L st : List Value} {S : St} {Z : Option Value → St → Prop} {a n : Nat} {i : Int32} (hd : decode M.2.1 pc = .ok (.baload, 1)) (hi : i = nI n) (ha : a < 204) (hk : kd a = 1) (hn : n < ln a) (h : Wp M (pc + 1) L (.int (S.1 a n) :: st) S Z) : Wp M pc L (.int i :: .ref a :: st) S Z := by
  intro l Y hY p e s m args below meth c X hK ls H locs hL hP hS
  have hwa := (wsf_at (Y := Y) (S := S) ha)
  rw [cel_boo hk] at hwa
  have hb := ln_small a
  have go := h l Y hY p e s m args below meth c X hK ls H locs hL hP hS
  subst hi
  refine va_zald X.1 X.2.1 hK hP a 1 hwa rfl (vp_in_nI hn (by omega)) hd ?_
  rw [nI_clamp (by omega)]
  exact go
theorem w_aald {M : Mt} {pc : Nat} {L st : List Value} {S : St} {Z : Option Value → St → Prop} {a n : Nat} {i : Int32} (hd : decode M.2.1 pc = .ok (.aaload, 1)) (hi : i = nI n) (ha : a < 204) (hk : kd a = 2) (hn : n < ln a) (h : Wp M (pc + 1) L (.ref (gbase a + n) :: st) S Z) : Wp M pc L (.int i :: .ref a :: st) S Z := by
  intro l Y hY p e s m args below meth c X hK ls H locs hL hP hS
  have hwa := (wsf_at (Y := Y) (S := S) ha)
  rw [cel_grd hk] at hwa
  have hb := ln_small a
  have go := h l Y hY p e s m args below meth c X hK ls H locs hL hP hS
  subst hi
  have hin : vp_in (nI n) (ln a) := vp_in_nI hn (by omega)
  have ht : (ztys Y)[2]? = some (Y.2.1 2, .array .int) := rfl
  refine W.aald (v := .ref (Y.2.2 (gbase a + n))) (ty := .array .int) X.1 X.2.1 (hP a _ hwa) ((hK.2 2 _ ht).1 (ln a) (fun j => va_rf (some (Y.2.2 (gbase a + j))))) rfl (fun q => by cases q) (by show ¬ (nI n < 0 ∨ (arrV _ _ _).slots.size ≤ _); rw [arrV_size]; exact hin) (by show (arrV _ _ _).slots[_]? = _; rw [nI_clamp (by omega), arrV_read _ _ hn]; rfl) rfl rfl hd go
theorem w_eald {M : Mt} {pc : Nat} {L st : List Value} {S : St} {Z : Option Value → St → Prop} {a n : Nat} {i : Int32} (hd : decode M.2.1 pc = .ok (.aaload, 1)) (hi : i = nI n) (ha : a < 204) (hk : kd a = 3) (hn : n < ln a) (h : Wp M (pc + 1) L (.ref (S.2 n) :: st) S Z) : Wp M pc L (.int i :: .ref a :: st) S Z := by
  intro l Y hY p e s m args below meth c X hK ls H locs hL hP hS
  have hwa := (wsf_at (Y := Y) (S := S) ha)
  rw [cel_ent hk] at hwa
  have hb := ln_small a
  have go := h l Y hY p e s m args below meth c X hK ls H locs hL hP hS
  subst hi
  refine va_aldq X.1 X.2.1 hK hP a 3 hwa rfl (vp_in_nI hn (by omega)) hd ?_
  rw [nI_clamp (by omega)]
  exact go
theorem w_iast {M : Mt} {pc : Nat} {L st : List Value} {S : St} {Z : Option Value → St → Prop} {a n : Nat} {i v : Int32} (hd : decode M.2.1 pc = .ok (.iastore, 1)) (hi : i = nI n) (ha : a < 204) (hk : kd a = 0) (hn : n < ln a) (h : Wp M (pc + 1) L st (up2 S.1 a n v, S.2) Z) : Wp M pc L (.int v :: .int i :: .ref a :: st) S Z := by
  intro l Y hY p e s m args below meth c X hK ls H locs hL hP hS
  have hwa := (wsf_at (Y := Y) (S := S) ha)
  rw [cel_int hk] at hwa
  have hb := ln_small a
  subst hi
  refine va_iast X.1 X.2.1 hK hP (wsf_D hY S) hS a 0 hwa rfl (vp_in_nI hn (by omega)) hd ?_
  intro H1 locs1 hP1 _ hS1
  rw [nI_clamp (by omega), ← up2_upd, show (Sum.inl (Y.2.1 0, ln a, Sum.inl (up2 S.1 a n v a)) : va_E) = cel Y (up2 S.1 a n v, S.2) a from (cel_int (Y := Y) (S := (up2 S.1 a n v, S.2)) hk).symm, wsf_set (fun d hd => cel_up2 hd)] at hP1
  exact h l Y hY p e s m args below meth c X hK ls H1 locs1 hL hP1 hS1
theorem w_bast {M : Mt} {pc : Nat} {L st : List Value} {S : St} {Z : Option Value → St → Prop} {a n : Nat} {i v : Int32} (hd : decode M.2.1 pc = .ok (.bastore, 1)) (hi : i = nI n) (ha : a < 204) (hk : kd a = 1) (hn : n < ln a) (hv : v = 0 ∨ v = 1) (h : Wp M (pc + 1) L st (up2 S.1 a n v, S.2) Z) : Wp M pc L (.int v :: .int i :: .ref a :: st) S Z := by
  intro l Y hY p e s m args below meth c X hK ls H locs hL hP hS
  have hwa := (wsf_at (Y := Y) (S := S) ha)
  rw [cel_boo hk] at hwa
  have hb := ln_small a
  subst hi
  refine va_zast X.1 X.2.1 hK hP (wsf_D hY S) hS a 1 hwa rfl (vp_in_nI hn (by omega)) hd ?_
  intro H1 locs1 hP1 _ hS1
  have hv1 : vp_nar .boolean v = v := by rcases hv with rfl | rfl <;> decide +kernel
  rw [nI_clamp (by omega), hv1, ← up2_upd, show (Sum.inl (Y.2.1 1, ln a, Sum.inl (up2 S.1 a n v a)) : va_E) = cel Y (up2 S.1 a n v, S.2) a from (cel_boo (Y := Y) (S := (up2 S.1 a n v, S.2)) hk).symm, wsf_set (fun d hd => cel_up2 hd)] at hP1
  exact h l Y hY p e s m args below meth c X hK ls H1 locs1 hL hP1 hS1
def upT (f : Nat → Nat) (i v : Nat) : Nat → Nat := fun j => if j = i then v else f j
theorem cel_upT {Y : Lay} {S : St} {i v d : Nat} (h : d ≠ 19) : cel Y (S.1, upT S.2 i v) d = cel Y S d := by
  have h3 : kd d ≠ 3 := by
    unfold kd
    repeat' split
    all_goals omega
  unfold cel
  rw [if_neg h3, if_neg h3]
  rfl
theorem w_east {M : Mt} {pc : Nat} {L st : List Value} {S : St} {Z : Option Value → St → Prop} {n b : Nat} {i : Int32} (hd : decode M.2.1 pc = .ok (.aastore, 1)) (hi : i = nI n) (hn : n < 20) (hb1 : 124 ≤ b) (hb2 : b < 144) (h : Wp M (pc + 1) L st (S.1, upT S.2 n b) Z) : Wp M pc L (.ref b :: .int i :: .ref 19 :: st) S Z := by
  intro l Y hY p e s m args below meth c X hK ls H locs hL hP hS
  have hwa := (wsf_at (Y := Y) (S := S) (c := 19) (by decide))
  rw [cel_ent (by decide)] at hwa
  have hwb := (wsf_at (Y := Y) (S := S) (c := b) (by omega))
  have hkb : kd b = 4 + 9 := by
    unfold kd
    rw [if_neg (by omega), if_neg (by omega), if_neg (by omega), if_neg (by omega), if_pos ⟨hb1, hb2⟩]
  rw [cel_obj hkb] at hwb
  subst hi
  refine va_astq X.1 X.2.1 hK hP (wsf_D hY S) hS 19 3 b 9 hwa rfl hwb rfl (vp_in_nI (show n < ln 19 from hn) (by decide)) hd ?_
  intro H1 locs1 hP1 _ hS1
  rw [nI_clamp (by omega)] at hP1
  have e1 : va_up (fun i => some (Y.2.2 (S.2 i))) n (some (Y.2.2 b)) = fun i => some (Y.2.2 (upT S.2 n b i)) := by
    funext j
    unfold va_up upT
    by_cases hj : j = n
    · rw [if_pos hj, if_pos hj]
    · rw [if_neg hj, if_neg hj]
  rw [e1, show (Sum.inl (Y.2.1 3, ln 19, Sum.inr (Sum.inr (Sum.inr (Sum.inr (fun i => some (Y.2.2 (upT S.2 n b i))))))) : va_E) = cel Y (S.1, upT S.2 n b) 19 from (cel_ent (S := (S.1, upT S.2 n b)) (by decide)).symm, wsf_set (fun d hd => cel_upT hd)] at hP1
  exact h l Y hY p e s m args below meth c X hK ls H1 locs1 hL hP1 hS1
theorem good_in {M N : Mt} (h : Cond.code N.1 N.2.1 N.2.2.1 N.2.2.2.1 ∈ gtbl) : GoodIn (wsO M) (wsO N) := by
  intro w hw
  rcases List.mem_cons.mp hw with rfl | hw
  · exact ⟨List.mem_cons_of_mem _ h, good_of_word (List.mem_filter.mp h).2⟩
  · exact ⟨List.mem_cons_of_mem _ hw, good_of_word (List.mem_filter.mp hw).2⟩
theorem tr_map_cat {ad : Nat → Nat} : ∀ {r : List Value}, (∀ v ∈ r, v.category = 1) → ((r.map (tr ad)).map fun v => v.category).sum = r.length
  | [], _ => rfl
  | v :: r, h => by
    rw [List.map_cons, List.map_cons, List.sum_cons, tr_cat1, h v List.mem_cons_self, tr_map_cat (fun w hw => h w (List.mem_cons_of_mem _ hw)), List.length_cons]
    omega
/-- behind a call -/
theorem w_back {M : Mt} {pc : Nat} {L rest : List Value} {Z : Option Value → St → Prop} {l : Launch} {Y : Lay} (hY : okY Y) {p : Program} {e : Env} {s : State} {m : MethodId} {args : Array Value} {below : List Frame} {meth : Method} {c : Code} (X : Fx M p s m args meth c) (hK : va_K Y.1 zcl (ztys Y) s) {ls : Array Slot} {H : Heap} {locs : List Loc} (hL : LR Y.2.2 L M.2.2.1 ls) (hS : va_S (AA Y.2.2) s.heap H locs) {st0 : List Value} {a : Array Value}
    (hr : va_Run p l e (rmO M) s m args below meth c H locs 0 0 0 0 (F0 m pc ls st0) (rest.map (tr Y.2.2)) (QQ Y (fun r S' => Wp M (pc + 3) L (r.toList ++ rest) S' Z) a) (AA Y.2.2)) : W p l e (rmO M) s m args below meth c H locs 0 0 (MQ below (QQ Y Z) args s 0 0 (AA Y.2.2)) (F0 m pc ls st0) := by
  intro T hT X1
  obtain ⟨v, st₀, t, T', L1, h0, X', hL1, e1, e2, ⟨⟨r, S', hv, hw, hP1⟩, hz, hk⟩, st⟩ := hr T hT X1
  have hv : v = r.map (tr Y.2.2) := Outcome.returned.inj hv
  subst hv
  rw [h0] at hz hk
  have hS1 : va_S (AA Y.2.2) s.heap T'.heap (locs ++ L1) := ⟨Nat.le_trans hS.1 (by rw [e1]; exact hz), fun q h1 h2 => by rw [e1, hk q (Nat.lt_of_lt_of_le h1 hS.1) h2]; exact hS.2.1 q h1 h2, fun q hq => by
      rcases List.mem_append.mp hq with h | h
      · exact hS.2.2 q h
      · exact hL1 q h⟩
  obtain ⟨t2, a1, b1⟩ := hw l Y hY p e s m args below meth c X hK ls T'.heap (locs ++ L1) hL (by rw [e1]; exact hP1) hS1 T' rfl X'
  refine ⟨t2, st t2 ?_, b1⟩
  have e3 : (r.toList ++ rest).map (tr Y.2.2) = (r.map (tr Y.2.2)).toList ++ rest.map (tr Y.2.2) := by
    rw [List.map_append]
    cases r <;> rfl
  rw [e3] at a1
  exact a1
theorem w_callV {M N : Mt} {pc : Nat} {L st : List Value} {S : St} {Z : Option Value → St → Prop} {idx b n ci : Nat} {T : u_T} {nf : Nat} (As rest : List Value) (hd : decode M.2.1 pc = .ok (.invokevirtual idx, 3)) (hl : LK M.1.cls idx N.1) (hf : MF N) (hm : MV N) (hp : NP N n) (hR : N.2.2.2.2.1 + 1 ≤ M.2.2.2.2.1 ∧ 8 + (N.2.2.1 + 11) + N.2.2.2.2.2 ≤ M.2.2.2.2.2) (hn : As.length = n) (hst : st = As.reverse ++ .ref b :: rest) (hc : ∀ v ∈ rest, v.category = 1) (hrl : rest.length ≤ 8) (hb : b < 204) (hk : kd b = 4 + ci) (hcl : zcl[ci]? = some (N.1.cls, T, nf))
    (h : Ev N (.ref b :: As) S (fun r S' => Wp M (pc + 3) L (r.toList ++ rest) S' Z)) : Wp M pc L st S Z := by
  intro l Y hY p e s m args below meth c X hK ls H locs hL hP hS
  have hwb := (wsf_at (Y := Y) (S := S) hb)
  rw [cel_obj hk] at hwb
  have hrec := va_recv hK hP hcl hwb
  have hM := h l Y hY
  have ok := X.2.2.2.2.2.1
  have hpre : PreV s H N.1.cls (Y.2.2 b) (PPc Y (.ref b :: As) S) (As.map (tr Y.2.2)) := ⟨PPc_blind _ _ _, hrec, fun U hU hW => ⟨rfl, by rw [hU]; exact hP, va_K.moved hW.alike hK, NW.warm hW X.2.2.2.2.2.2.2⟩⟩
  have hstk : (F0 m pc ls (st.map (tr Y.2.2))).stack = (As.map (tr Y.2.2)).reverse ++ .ref (Y.2.2 b) :: rest.map (tr Y.2.2) := by
    show st.map (tr Y.2.2) = _
    rw [hst, List.map_append, List.map_reverse]
    rfl
  have hw8 : 2 * (F0 m pc ls (st.map (tr Y.2.2))).monitorRoom + ((rest.map (tr Y.2.2)).map fun v => v.category).sum ≤ 8 := lv_room (by rw [tr_map_cat hc]; exact hrl)
  have hlen : (As.map (tr Y.2.2)).length = n := by rw [List.length_map]; exact hn
  refine w_back (rest := rest) (a := (Value.ref (Y.2.2 b) :: As.map (tr Y.2.2)).toArray) hY X hK hL hS ?_
  rcases hl with hl | ⟨host, hl⟩
  · exact va_runV (cc := M.2.1) (nL := M.2.2.1) (Ts := wsO M) (own := M.1.cls) (As := As.map (tr Y.2.2)) (rest := rest.map (tr Y.2.2)) ⟨X.1, X.2.1, X.2.2.2.1, X.2.2.2.2.1, ok⟩ hM ⟨callB_of n ok (good_in hf.1) rfl rfl rfl (ok _ (List.mem_cons_of_mem _ hf.2.1)) (ok _ (List.mem_cons_of_mem _ hl)) ⟨hf.2.2.1, hf.2.2.2.1, hp⟩ hR, ok _ (List.mem_cons_of_mem _ hm.1), ok _ (List.mem_cons_of_mem _ hm.2)⟩ hpre rfl hlen hL.2.1 hstk hw8 hd ⟨Nat.le_refl _, Nat.le_refl _⟩
  · exact va_runVN (cc := M.2.1) (nL := M.2.2.1) (Ts := wsO M) (own := M.1.cls) (As := As.map (tr Y.2.2)) (rest := rest.map (tr Y.2.2)) ⟨X.1, X.2.1, X.2.2.2.1, X.2.2.2.2.1, ok⟩ hM ⟨va_cnB n ok (good_in hf.1) rfl rfl rfl (X.2.2.2.2.2.2.2 _ hl) (ok _ (List.mem_cons_of_mem _ hf.2.1)) ⟨hf.2.2.1, hf.2.2.2.1, hp⟩ hR, ok _ (List.mem_cons_of_mem _ hm.1), ok _ (List.mem_cons_of_mem _ hm.2)⟩ hpre rfl hlen hL.2.1 hstk hw8 hd ⟨Nat.le_refl _, Nat.le_refl _⟩
theorem w_callS {M N : Mt} {pc : Nat} {L st : List Value} {S : St} {Z : Option Value → St → Prop} {idx n : Nat} (As rest : List Value) (hd : decode M.2.1 pc = .ok (.invokestatic idx, 3)) (hl : LK M.1.cls idx N.1) (hf : MF N) (hm : MS N) (hp : NP N n) (hR : N.2.2.2.2.1 + 1 ≤ M.2.2.2.2.1 ∧ 8 + (N.2.2.1 + 11) + N.2.2.2.2.2 ≤ M.2.2.2.2.2) (hn : As.length = n) (hst : st = As.reverse ++ rest) (hc : ∀ v ∈ rest, v.category = 1) (hrl : rest.length ≤ 8)
    (h : Ev N As S (fun r S' => Wp M (pc + 3) L (r.toList ++ rest) S' Z)) : Wp M pc L st S Z := by
  intro l Y hY p e s m args below meth c X hK ls H locs hL hP hS
  have hM := h l Y hY
  have ok := X.2.2.2.2.2.1
  have hpre : PreS s H (PPc Y As S) (As.map (tr Y.2.2)) := ⟨PPc_blind _ _ _, fun U hU hW => ⟨rfl, by rw [hU]; exact hP, va_K.moved hW.alike hK, NW.warm hW X.2.2.2.2.2.2.2⟩⟩
  have hstk : (F0 m pc ls (st.map (tr Y.2.2))).stack = (As.map (tr Y.2.2)).reverse ++ rest.map (tr Y.2.2) := by
    show st.map (tr Y.2.2) = _
    rw [hst, List.map_append, List.map_reverse]
  have hw8 : 2 * (F0 m pc ls (st.map (tr Y.2.2))).monitorRoom + ((rest.map (tr Y.2.2)).map fun v => v.category).sum ≤ 8 := lv_room (by rw [tr_map_cat hc]; exact hrl)
  have hlen : (As.map (tr Y.2.2)).length = n := by rw [List.length_map]; exact hn
  refine w_back (rest := rest) (a := (As.map (tr Y.2.2)).toArray) hY X hK hL hS ?_
  rcases hl with hl | ⟨host, hl⟩
  · exact va_runS (cc := M.2.1) (nL := M.2.2.1) (Ts := wsO M) (own := M.1.cls) (As := As.map (tr Y.2.2)) (rest := rest.map (tr Y.2.2)) ⟨X.1, X.2.1, X.2.2.2.1, X.2.2.2.2.1, ok⟩ hM ⟨callB_of n ok (good_in hf.1) rfl rfl rfl (ok _ (List.mem_cons_of_mem _ hf.2.1)) (ok _ (List.mem_cons_of_mem _ hl)) ⟨hf.2.2.1, hf.2.2.2.1, hp⟩ hR, ok _ (List.mem_cons_of_mem _ hm)⟩ hpre rfl hlen hL.2.1 hstk hw8 hd ⟨Nat.le_refl _, Nat.le_refl _⟩
  · exact va_runSN (cc := M.2.1) (nL := M.2.2.1) (Ts := wsO M) (own := M.1.cls) (As := As.map (tr Y.2.2)) (rest := rest.map (tr Y.2.2)) ⟨X.1, X.2.1, X.2.2.2.1, X.2.2.2.2.1, ok⟩ hM ⟨va_cnB n ok (good_in hf.1) rfl rfl rfl (X.2.2.2.2.2.2.2 _ hl) (ok _ (List.mem_cons_of_mem _ hf.2.1)) ⟨hf.2.2.1, hf.2.2.2.1, hp⟩ hR, ok _ (List.mem_cons_of_mem _ hm), trivial⟩ hpre rfl hlen hL.2.1 hstk hw8 hd ⟨Nat.le_refl _, Nat.le_refl _⟩
