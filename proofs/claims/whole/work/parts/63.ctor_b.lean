section MK2
variable {M : Mt} {p : Program} {l : Launch} {e : Env} {R : Room} {s : State} {m : MethodId} {args : Array Value} {below : List Frame} {meth : Method} {c : Code} {H : Heap} {locs : List Loc} {kc ns : Nat} {Q : State → Prop} {pc : Nat} {ls : Array Slot} {rest : List Value} {L : List Value}
theorem c_iinc (X : CX M p s m args meth c) (hl : LR id L M.2.2.1 ls) {k : Nat} {n : Int} {y v : Int32} (hk : L[k]? = some (.int y)) (hv : y + Int32.ofInt n = v) (hd : decode M.2.1 pc = .ok (.iinc k n, 3)) (kk : ∀ ls' : Array Slot, LR id (L.set k (.int v)) M.2.2.1 ls' → W p l e R s m args below meth c H locs kc ns Q (F0 m (pc + 3) ls' rest)) : W p l e R s m args below meth c H locs kc ns Q (F0 m pc ls rest) := by
  have hk2 : k < L.length := (List.getElem?_eq_some_iff.mp hk).1
  obtain ⟨j, hj⟩ := List.getElem?_of_mem (lvo_int (ad := id) hk)
  exact lv_iinc X.1 X.2.1 hd hl.has hj hv (by rw [← hl.1]; exact hk2) rfl (fun ls' hL' => kk ls' (LR.of (Or.inl ⟨_, rfl⟩) hl hL' (by rw [← hl.1]; exact hk2)))
theorem c_istore_n (X : CX M p s m args meth c) (hl : LR id L M.2.2.1 ls) {k : Fin 4} {y : Int32} (hk : k.val < L.length) (hd : decode M.2.1 pc = .ok (.istore_n k, 1)) (kk : ∀ ls' : Array Slot, LR id (L.set k.val (.int y)) M.2.2.1 ls' → W p l e R s m args below meth c H locs kc ns Q (F0 m (pc + 1) ls' rest)) : W p l e R s m args below meth c H locs kc ns Q (F0 m pc ls (.int y :: rest)) :=
  lv_istore_n X.1 X.2.1 hd rfl hl.has (by rw [← hl.1]; exact hk) rfl (fun ls' hL' => kk ls' (LR.of (Or.inl ⟨_, rfl⟩) hl hL' (by rw [← hl.1]; exact hk)))
theorem c_astore_n (X : CX M p s m args meth c) (hl : LR id L M.2.2.1 ls) {k : Fin 4} {a : Nat} (hk : k.val < L.length) (hd : decode M.2.1 pc = .ok (.astore_n k, 1)) (kk : ∀ ls' : Array Slot, LR id (L.set k.val (.ref a)) M.2.2.1 ls' → W p l e R s m args below meth c H locs kc ns Q (F0 m (pc + 1) ls' rest)) : W p l e R s m args below meth c H locs kc ns Q (F0 m pc ls (.ref a :: rest)) :=
  lv_astore_n X.1 X.2.1 hd rfl hl.has (by rw [← hl.1]; exact hk) rfl (fun ls' hL' => kk ls' (LR.of (Or.inr ⟨_, rfl⟩) hl hL' (by rw [← hl.1]; exact hk)))
end MK2
def w_es (cs : Nat → ClassId) (r x y z : Nat → Nat) : va_W := (List.range 20).flatMap (fun j => w_e cs (r j) (x j) (y j) (z j))
def w_b (cs : Nat → ClassId) (h a : Nat) (r x y z : Nat → Nat) : va_W := ([(h, .inr (5, [.ref a, .int 0]))] ++ [(a, grd (cs 3) 20 r)]) ++ w_es cs r x y z
def P_b (cs : Nat → ClassId) (h : Nat) (w : va_W) : Prop := ∃ (a : Nat) (r x y z : Nat → Nat), w = w_b cs h a r x y z
abbrev Q4 : Type := Nat × Nat × Nat × Nat
def w_l (cs : Nat → ClassId) (es : List Q4) : va_W := es.flatMap (fun t => w_e cs t.1 t.2.1 t.2.2.1 t.2.2.2)
theorem w_l_20 (cs : Nat → ClassId) (es : List Q4) (h : es.length = 20) : w_l cs es = w_es cs (fun j => (es.getD j (0, 0, 0, 0)).1) (fun j => (es.getD j (0, 0, 0, 0)).2.1) (fun j => (es.getD j (0, 0, 0, 0)).2.2.1) (fun j => (es.getD j (0, 0, 0, 0)).2.2.2) := by
  have e : es = (List.range 20).map (fun j => es.getD j (0, 0, 0, 0)) := by
    apply List.ext_getElem?
    intro k
    rw [List.getElem?_map]
    by_cases hk : k < 20
    · rw [List.getElem?_range hk]
      show _ = some (es.getD k (0, 0, 0, 0))
      rw [List.getD_eq_getElem?_getD, List.getElem?_eq_getElem (by omega)]
      rfl
    · rw [List.getElem?_eq_none (by omega), List.getElem?_eq_none (by rw [List.length_range]; omega)]
      rfl
  unfold w_l w_es
  conv => lhs; rw [e]
  rw [List.flatMap_map]
set_option maxRecDepth 100000 in
set_option maxHeartbeats 4000000 in
theorem i_b_init : Cn M_b_init 5 [.null, .int 0] 81 360 P_b := by
  refine Cn.of MI_b_init (by decide) ?_
  intro l D cs h0 A p e s m args below meth c X hnm hG hA ls hl hP hD
  have hS : va_S A s.heap s.heap [] := va_S.rf
  refine lv_aload_n X.1 X.2.1 d_b_init_0 rfl (hl.2.2.2.2 0 h0 rfl) ?_
  refine c_obj X LO_b hl.2.1 d_b_init_1 ⟨by decide, by decide⟩ ?_
  refine lv_aload_n X.1 X.2.1 d_b_init_4 rfl (hl.2.2.2.2 0 h0 rfl) ?_
  refine lv_bipush (v := nI 20) X.1 X.2.1 d_b_init_5 (by decide +kernel) ?_
  refine c_newq (N := 20) X hG hP hD hS hA CK_b_9 (by omega) (by show _ ≤ 81; omega) (by show _ ≤ 360; omega) d_b_init_7 (fun q1 H hP hD hS => ?_)
  refine W.widen (k := 1) (n := 20) (by omega) (by omega) ?_
  have hP : va_P D zcl ([(h0, .inr (5, [.null, .int 0]))] ++ [(q1, .inl (cs 3, 20, .inr (.inr (.inr (.inr (fun _ => none))))))]) H := hP
  have hD : va_D A ([(h0, .inr (5, [.null, .int 0]))] ++ [(q1, .inl (cs 3, 20, .inr (.inr (.inr (.inr (fun _ => none))))))]) := hD
  refine c_putF X hnm hG hP hD hS FL_b_11 (fun C T N h => by cases h; exact ⟨rfl, rfl, tb 159 (by decide +kernel) rfl, .array (.object "QuantisedLists$Entry"), by decide +kernel, fun b => ⟨rfl, rfl⟩⟩) 0 rfl (Nat.le_of_ble_eq_true rfl) d_b_init_10 (fun H locs hP hD hS => ?_)
  have hP : va_P D zcl ([(h0, .inr (5, [.ref q1, .int 0]))] ++ [(q1, .inl (cs 3, 20, .inr (.inr (.inr (.inr (fun _ => none))))))]) H := hP
  have hD : va_D A ([(h0, .inr (5, [.ref q1, .int 0]))] ++ [(q1, .inl (cs 3, 20, .inr (.inr (.inr (.inr (fun _ => none))))))]) := hD
  refine lv_iconst (v := nI 0) X.1 X.2.1 d_b_init_13 (by decide +kernel) ?_
  have hloop : ∀ i, i ≤ 20 → ∀ (es : List Q4) (f : Nat → Option Nat) (ls : Array Slot) (H : Heap) (locs : List Loc), es.length = i → (∀ j, j < i → f j = some ((es.getD j (0, 0, 0, 0)).1)) → LR id [.ref h0, .int (nI i)] 2 ls → va_P D zcl (([(h0, .inr (5, [.ref q1, .int 0]))] ++ [(q1, .inl (cs 3, 20, .inr (.inr (.inr (.inr f)))))]) ++ w_l cs es) H → va_D A (([(h0, .inr (5, [.ref q1, .int 0]))] ++ [(q1, .inl (cs 3, 20, .inr (.inr (.inr (.inr f)))))]) ++ w_l cs es) → va_S A s.heap H locs → W p l e (rmC M_b_init 81 360) s m args below meth c H locs (1 + 4 * i) (20 + 17 * i) (MQ below (QC D A (P_b cs h0)) args s 81 360 A) (F0 m 15 ls []) := by
    refine loopUp 20 (fun i hk9 hn9 => ?_)
    intro es f ls H locs hes hf hl hP hD hS
    refine lv_iload_n X.1 X.2.1 d_b_init_15 rfl (hl.2.2.2.1 1 (nI i) rfl) ?_
    refine lv_bipush (v := nI 20) X.1 X.2.1 d_b_init_16 (by decide +kernel) ?_
    refine lv_icmp_ge X.1 X.2.1 d_b_init_18 (tgt := 40) (by decide) (fun hq => ?_) (fun hq => ?_)
    · rw [nI_leI (by omega) (by omega)] at hq
      have hi : i = 20 := by omega
      subst hi
      refine c_end X rfl (ws := w_b cs h0 q1 (fun j => (es.getD j (0, 0, 0, 0)).1) (fun j => (es.getD j (0, 0, 0, 0)).2.1) (fun j => (es.getD j (0, 0, 0, 0)).2.2.1) (fun j => (es.getD j (0, 0, 0, 0)).2.2.2)) ?_ ?_ hS ⟨q1, (fun j => (es.getD j (0, 0, 0, 0)).1), (fun j => (es.getD j (0, 0, 0, 0)).2.1), (fun j => (es.getD j (0, 0, 0, 0)).2.2.1), (fun j => (es.getD j (0, 0, 0, 0)).2.2.2), rfl⟩ d_b_init_40 rfl rfl
      · unfold w_b
        rw [← w_l_20 cs es hes]
        exact P_swap hP (fun h => at_refs h (fun j hj => hf j hj))
      · unfold w_b
        rw [← w_l_20 cs es hes]
        exact D_swap hD
    · rw [nI_leI (by omega) (by omega)] at hq
      refine lv_aload_n X.1 X.2.1 d_b_init_21 rfl (hl.2.2.2.2 0 h0 rfl) ?_
      refine c_getR X hG hP FL_b_11 (fun C T N h => by cases h; exact tb 159 (by decide +kernel) rfl) 0 rfl (v := .ref q1) rfl d_b_init_22 ?_
      refine lv_iload_n X.1 X.2.1 d_b_init_25 rfl (hl.2.2.2.1 1 (nI i) rfl) ?_
      refine c_new (ci := 9) (fs := [.null, .null, .null, .int 0, .int 0]) X hG hP hD hS hA CK_b_9 IN_9 II_9 rfl zty9 zok9 (by decide +kernel) (by show _ ≤ 81; omega) (by show _ ≤ 360; omega) d_b_init_26 (fun q H hP hD hS => ?_)
      refine lv_dup X.1 X.2.1 d_b_init_29 rfl ?_
      refine c_call i_e_init MI_e_init X hG LK_b_17 ⟨by decide, by decide⟩ hP hD hS hA hl.2.1 (Nat.le_of_ble_eq_true rfl) d_b_init_30 (by show _ ≤ 81; omega) (by show _ ≤ 360; omega) (fun we H locs hpe hP hD hS => ?_)
      obtain ⟨x, y, z, rfl⟩ := hpe
      have hpos : ∀ W0 : va_W, (W0 ++ w_e cs q x y z)[W0.length]? = some (q, .inr (9, [.ref x, .ref y, .ref z, .int 0, .int 0])) := fun W0 => by
        rw [List.getElem?_append_right (Nat.le_refl _), Nat.sub_self]
        rfl
      refine c_astq X hG hP hD hS 1 _ (f := f) (i := i) rfl (hpos _) (by omega) (by omega) d_b_init_33 (fun H locs hP hD hS => ?_)
      have hP : va_P D zcl ((([(h0, .inr (5, [.ref q1, .int 0]))] ++ [(q1, .inl (cs 3, 20, .inr (.inr (.inr (.inr (va_up f i (some q)))))))]) ++ w_l cs es) ++ w_e cs q x y z) H := hP
      have hD : va_D A ((([(h0, .inr (5, [.ref q1, .int 0]))] ++ [(q1, .inl (cs 3, 20, .inr (.inr (.inr (.inr (va_up f i (some q)))))))]) ++ w_l cs es) ++ w_e cs q x y z) := hD
      have ew : w_l cs es ++ w_e cs q x y z = w_l cs (es ++ [(q, x, y, z)]) := by
        unfold w_l
        rw [List.flatMap_append]
        simp
      rw [List.append_assoc, ew] at hP hD
      refine c_iinc X hl (k := 1) rfl (nI_inc i) d_b_init_34 (fun ls' hl' => ?_)
      refine lv_goto X.1 X.2.1 d_b_init_37 (tgt := 15) (by decide) ?_
      refine W.widen (k := 1 + 4 * (i + 1)) (n := 20 + 17 * (i + 1)) (by omega) (by omega) ?_
      refine hn9 (by omega) (es ++ [(q, x, y, z)]) (va_up f i (some q)) ls' H locs (by rw [List.length_append, hes]; rfl) (fun j hj => ?_) hl' hP hD hS
      rw [List.getD_eq_getElem?_getD]
      by_cases hji : j = i
      · subst hji
        rw [← hes, List.getElem?_append_right (Nat.le_refl _), Nat.sub_self]
        show va_up f es.length (some q) es.length = _
        unfold va_up
        rw [if_pos rfl]
        rfl
      · rw [List.getElem?_append_left (by omega), ← List.getD_eq_getElem?_getD, ← hf j (by omega)]
        unfold va_up
        rw [if_neg hji]
  refine c_istore_n X hl (k := 1) (Nat.le_of_ble_eq_true rfl) d_b_init_14 (fun ls' hl' => ?_)
  exact hloop 0 (by omega) [] (fun _ => none) ls' H locs rfl (fun j hj => absurd hj (by omega)) hl' (by show va_P D zcl (_ ++ []) H; rw [List.append_nil]; exact hP) (by show va_D A (_ ++ []); rw [List.append_nil]; exact hD) hS
