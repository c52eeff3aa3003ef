/-! The constructors' contracts. -/
def w_t (cs : Nat → ClassId) (h a : Nat) (f : Nat → Int32) : va_W := [(h, .inr (1, [.ref a]))] ++ [(a, .inl (cs 0, 4, .inl f))]
def P_t (cs : Nat → ClassId) (h : Nat) (w : va_W) : Prop := ∃ (a : Nat) (f : Nat → Int32), w = w_t cs h a f ∧ ∀ k, k < 4 → f k = nI (k + 1)
def w_s (cs : Nat → ClassId) (h a : Nat) (r : Nat → Nat) : va_W := ([(h, .inr (2, [.ref a, .int 0]))] ++ [(a, grd (cs 2) 24 r)]) ++ rws (cs 0) 24 4 r
def P_s (cs : Nat → ClassId) (h : Nat) (w : va_W) : Prop := ∃ (a : Nat) (r : Nat → Nat), w = w_s cs h a r
def w_c (cs : Nat → ClassId) (h : Nat) (a : Nat → Nat) (r1 r2 r3 : Nat → Nat) : va_W := ((((((([(h, .inr (3, [.ref (a 0), .ref (a 1), .ref (a 2), .ref (a 3), .ref (a 4), .int 0, .int 0, .int 0, .int 0]))] ++ [(a 0, grd (cs 2) 24 r1)]) ++ rws (cs 0) 24 4 r1) ++ [(a 1, grd (cs 2) 4 r2)]) ++ rws (cs 0) 4 4 r2) ++ [(a 2, grd (cs 2) 4 r3)]) ++ rws (cs 0) 4 4 r3) ++ [(a 3, zrs (cs 0) 4)]) ++ [(a 4, zrs (cs 0) 4)]
def P_c (cs : Nat → ClassId) (h : Nat) (w : va_W) : Prop := ∃ (a r1 r2 r3 : Nat → Nat), w = w_c cs h a r1 r2 r3
def w_z (cs : Nat → ClassId) (h : Nat) (a : Nat → Nat) (r1 r2 : Nat → Nat) : va_W := (((([(h, .inr (4, [.ref (a 0), .ref (a 1), .ref (a 2), .int 0, .int 0, .int 0, .int 0]))] ++ [(a 0, grd (cs 2) 4 r1)]) ++ rws (cs 0) 4 4 r1) ++ [(a 1, grd (cs 2) 16 r2)]) ++ rws (cs 0) 16 2 r2) ++ [(a 2, zrs (cs 0) 4)]
def P_z (cs : Nat → ClassId) (h : Nat) (w : va_W) : Prop := ∃ (a r1 r2 : Nat → Nat), w = w_z cs h a r1 r2
def w_e (cs : Nat → ClassId) (h x y z : Nat) : va_W := (([(h, .inr (9, [.ref x, .ref y, .ref z, .int 0, .int 0]))] ++ [(x, zrs (cs 0) 4)]) ++ [(y, zrs (cs 0) 4)]) ++ [(z, zrs (cs 0) 4)]
def P_e (cs : Nat → ClassId) (h : Nat) (w : va_W) : Prop := ∃ x y z : Nat, w = w_e cs h x y z
def w_f (cs : Nat → ClassId) (h : Nat) (a : Nat → Nat) : va_W := (((([(h, .inr (6, [.ref (a 0), .ref (a 1), .ref (a 2), .ref (a 3), .ref (a 4), .int (nI 1), .int (nI 0), .int 0, .int 0]))] ++ [(a 0, zrs (cs 0) 4)]) ++ [(a 1, zrs (cs 0) 4)]) ++ [(a 2, zrs (cs 0) 20)]) ++ [(a 3, zrs (cs 0) 20)]) ++ [(a 4, zrs (cs 0) 20)]
def P_f (cs : Nat → ClassId) (h : Nat) (w : va_W) : Prop := ∃ a : Nat → Nat, w = w_f cs h a
def w_y (cs : Nat → ClassId) (h a : Nat) : va_W := [(h, .inr (7, [.ref a, .int 0]))] ++ [(a, zrs (cs 0) 250)]
def P_y (cs : Nat → ClassId) (h : Nat) (w : va_W) : Prop := ∃ a : Nat, w = w_y cs h a
set_option maxRecDepth 100000 in
set_option maxHeartbeats 4000000 in
theorem i_t_init : Cn M_t_init 1 [.null] 1 4 P_t := by
  refine Cn.of MI_t_init (by decide) ?_
  intro l D cs h0 A p e s m args below meth c X hnm hG hA ls hl hP hD
  have hS : va_S A s.heap s.heap [] := va_S.rf
  refine lv_aload_n X.1 X.2.1 d_t_init_0 rfl (hl.2.2.2.2 0 h0 rfl) ?_
  refine c_obj X LO_t hl.2.1 d_t_init_1 ⟨by decide, by decide⟩ ?_
  refine lv_aload_n X.1 X.2.1 d_t_init_4 rfl (hl.2.2.2.2 0 h0 rfl) ?_
  refine lv_iconst (v := nI 4) X.1 X.2.1 d_t_init_5 (by decide +kernel) ?_
  refine c_newI (N := 4) X hG hP hD hS hA (by omega) (by show _ ≤ 1; omega) (by show _ ≤ 4; omega) d_t_init_6 (fun q1 H hP hD hS => ?_)
  refine W.widen (k := 1) (n := 4) (by omega) (by omega) ?_
  have hP : va_P D zcl ([(h0, .inr (1, [.null]))] ++ [(q1, zrs (cs 0) 4)]) H := hP
  have hD : va_D A ([(h0, .inr (1, [.null]))] ++ [(q1, zrs (cs 0) 4)]) := hD
  refine lv_dup X.1 X.2.1 d_t_init_8 rfl ?_
  refine lv_iconst (v := nI 0) X.1 X.2.1 d_t_init_9 (by decide +kernel) ?_
  refine lv_iconst (v := nI 1) X.1 X.2.1 d_t_init_10 (by decide +kernel) ?_
  refine c_iast (i := 0) (f := (fun _ => 0)) X hG hP hD hS 1 rfl (by omega) (by omega) d_t_init_11 (fun H locs hP hD hS => ?_)
  have hP : va_P D zcl ([(h0, .inr (1, [.null]))] ++ [(q1, .inl (cs 0, 4, .inl (upd (fun _ => 0) 0 (nI 1))))]) H := hP
  have hD : va_D A ([(h0, .inr (1, [.null]))] ++ [(q1, .inl (cs 0, 4, .inl (upd (fun _ => 0) 0 (nI 1))))]) := hD
  refine lv_dup X.1 X.2.1 d_t_init_12 rfl ?_
  refine lv_iconst (v := nI 1) X.1 X.2.1 d_t_init_13 (by decide +kernel) ?_
  refine lv_iconst (v := nI 2) X.1 X.2.1 d_t_init_14 (by decide +kernel) ?_
  refine c_iast (i := 1) (f := (upd (fun _ => 0) 0 (nI 1))) X hG hP hD hS 1 rfl (by omega) (by omega) d_t_init_15 (fun H locs hP hD hS => ?_)
  have hP : va_P D zcl ([(h0, .inr (1, [.null]))] ++ [(q1, .inl (cs 0, 4, .inl (upd (upd (fun _ => 0) 0 (nI 1)) 1 (nI 2))))]) H := hP
  have hD : va_D A ([(h0, .inr (1, [.null]))] ++ [(q1, .inl (cs 0, 4, .inl (upd (upd (fun _ => 0) 0 (nI 1)) 1 (nI 2))))]) := hD
  refine lv_dup X.1 X.2.1 d_t_init_16 rfl ?_
  refine lv_iconst (v := nI 2) X.1 X.2.1 d_t_init_17 (by decide +kernel) ?_
  refine lv_iconst (v := nI 3) X.1 X.2.1 d_t_init_18 (by decide +kernel) ?_
  refine c_iast (i := 2) (f := (upd (upd (fun _ => 0) 0 (nI 1)) 1 (nI 2))) X hG hP hD hS 1 rfl (by omega) (by omega) d_t_init_19 (fun H locs hP hD hS => ?_)
  have hP : va_P D zcl ([(h0, .inr (1, [.null]))] ++ [(q1, .inl (cs 0, 4, .inl (upd (upd (upd (fun _ => 0) 0 (nI 1)) 1 (nI 2)) 2 (nI 3))))]) H := hP
  have hD : va_D A ([(h0, .inr (1, [.null]))] ++ [(q1, .inl (cs 0, 4, .inl (upd (upd (upd (fun _ => 0) 0 (nI 1)) 1 (nI 2)) 2 (nI 3))))]) := hD
  refine lv_dup X.1 X.2.1 d_t_init_20 rfl ?_
  refine lv_iconst (v := nI 3) X.1 X.2.1 d_t_init_21 (by decide +kernel) ?_
  refine lv_iconst (v := nI 4) X.1 X.2.1 d_t_init_22 (by decide +kernel) ?_
  refine c_iast (i := 3) (f := (upd (upd (upd (fun _ => 0) 0 (nI 1)) 1 (nI 2)) 2 (nI 3))) X hG hP hD hS 1 rfl (by omega) (by omega) d_t_init_23 (fun H locs hP hD hS => ?_)
  have hP : va_P D zcl ([(h0, .inr (1, [.null]))] ++ [(q1, .inl (cs 0, 4, .inl (upd (upd (upd (upd (fun _ => 0) 0 (nI 1)) 1 (nI 2)) 2 (nI 3)) 3 (nI 4))))]) H := hP
  have hD : va_D A ([(h0, .inr (1, [.null]))] ++ [(q1, .inl (cs 0, 4, .inl (upd (upd (upd (upd (fun _ => 0) 0 (nI 1)) 1 (nI 2)) 2 (nI 3)) 3 (nI 4))))]) := hD
  refine c_putF X hnm hG hP hD hS FL_t_9 (fun C T N h => by cases h; exact ⟨rfl, rfl, tb 26 (by decide +kernel) rfl, .array .int, by decide +kernel, fun b => ⟨rfl, rfl⟩⟩) 0 rfl (Nat.le_of_ble_eq_true rfl) d_t_init_24 (fun H locs hP hD hS => ?_)
  have hP : va_P D zcl ([(h0, .inr (1, [.ref q1]))] ++ [(q1, .inl (cs 0, 4, .inl (upd (upd (upd (upd (fun _ => 0) 0 (nI 1)) 1 (nI 2)) 2 (nI 3)) 3 (nI 4))))]) H := hP
  have hD : va_D A ([(h0, .inr (1, [.ref q1]))] ++ [(q1, .inl (cs 0, 4, .inl (upd (upd (upd (upd (fun _ => 0) 0 (nI 1)) 1 (nI 2)) 2 (nI 3)) 3 (nI 4))))]) := hD
  exact c_end X rfl hP hD hS ⟨q1, _, rfl, fun k hk => by
    match k, hk with
    | 0, _ => rfl
    | 1, _ => rfl
    | 2, _ => rfl
    | 3, _ => rfl⟩ d_t_init_27 rfl rfl
set_option maxRecDepth 100000 in
set_option maxHeartbeats 4000000 in
theorem i_s_init : Cn M_s_init 2 [.null, .int 0] 25 120 P_s := by
  refine Cn.of MI_s_init (by decide) ?_
  intro l D cs h0 A p e s m args below meth c X hnm hG hA ls hl hP hD
  have hS : va_S A s.heap s.heap [] := va_S.rf
  refine lv_aload_n X.1 X.2.1 d_s_init_0 rfl (hl.2.2.2.2 0 h0 rfl) ?_
  refine c_obj X LO_s hl.2.1 d_s_init_1 ⟨by decide, by decide⟩ ?_
  refine lv_aload_n X.1 X.2.1 d_s_init_4 rfl (hl.2.2.2.2 0 h0 rfl) ?_
  refine lv_bipush (v := nI 24) X.1 X.2.1 d_s_init_5 (by decide +kernel) ?_
  refine lv_iconst (v := nI 4) X.1 X.2.1 d_s_init_7 (by decide +kernel) ?_
  refine c_mna (N := 24) (K := 4) X hG hP hD hS hA CK_s_9 (by omega) (by omega) (by show _ ≤ 25; omega) (by show _ ≤ 120; omega) d_s_init_8 (fun q1 r1 H hP hD hS => ?_)
  refine W.widen (k := 25) (n := 120) (by omega) (by omega) ?_
  have hP : va_P D zcl (([(h0, .inr (2, [.null, .int 0]))] ++ [(q1, grd (cs 2) 24 r1)]) ++ rws (cs 0) 24 4 r1) H := hP
  have hD : va_D A (([(h0, .inr (2, [.null, .int 0]))] ++ [(q1, grd (cs 2) 24 r1)]) ++ rws (cs 0) 24 4 r1) := hD
  refine c_putF X hnm hG hP hD hS FL_s_11 (fun C T N h => by cases h; exact ⟨rfl, rfl, tb 40 (by decide +kernel) rfl, .array (.array .int), by decide +kernel, fun b => ⟨rfl, rfl⟩⟩) 0 rfl (Nat.le_of_ble_eq_true rfl) d_s_init_12 (fun H locs hP hD hS => ?_)
  have hP : va_P D zcl (([(h0, .inr (2, [.ref q1, .int 0]))] ++ [(q1, grd (cs 2) 24 r1)]) ++ rws (cs 0) 24 4 r1) H := hP
  have hD : va_D A (([(h0, .inr (2, [.ref q1, .int 0]))] ++ [(q1, grd (cs 2) 24 r1)]) ++ rws (cs 0) 24 4 r1) := hD
  exact c_end X rfl hP hD hS ⟨q1, r1, rfl⟩ d_s_init_15 rfl rfl
set_option maxRecDepth 100000 in
set_option maxHeartbeats 4000000 in
theorem i_c_init : Cn M_c_init 3 [.null, .null, .null, .null, .null, .int 0, .int 0, .int 0, .int 0] 37 168 P_c := by
  refine Cn.of MI_c_init (by decide) ?_
  intro l D cs h0 A p e s m args below meth c X hnm hG hA ls hl hP hD
  have hS : va_S A s.heap s.heap [] := va_S.rf
  refine lv_aload_n X.1 X.2.1 d_c_init_0 rfl (hl.2.2.2.2 0 h0 rfl) ?_
  refine c_obj X LO_c hl.2.1 d_c_init_1 ⟨by decide, by decide⟩ ?_
  refine lv_aload_n X.1 X.2.1 d_c_init_4 rfl (hl.2.2.2.2 0 h0 rfl) ?_
  refine lv_bipush (v := nI 24) X.1 X.2.1 d_c_init_5 (by decide +kernel) ?_
  refine lv_iconst (v := nI 4) X.1 X.2.1 d_c_init_7 (by decide +kernel) ?_
  refine c_mna (N := 24) (K := 4) X hG hP hD hS hA CK_c_9 (by omega) (by omega) (by show _ ≤ 37; omega) (by show _ ≤ 168; omega) d_c_init_8 (fun q1 r1 H hP hD hS => ?_)
  refine W.widen (k := 25) (n := 120) (by omega) (by omega) ?_
  have hP : va_P D zcl (([(h0, .inr (3, [.null, .null, .null, .null, .null, .int 0, .int 0, .int 0, .int 0]))] ++ [(q1, grd (cs 2) 24 r1)]) ++ rws (cs 0) 24 4 r1) H := hP
  have hD : va_D A (([(h0, .inr (3, [.null, .null, .null, .null, .null, .int 0, .int 0, .int 0, .int 0]))] ++ [(q1, grd (cs 2) 24 r1)]) ++ rws (cs 0) 24 4 r1) := hD
  refine c_putF X hnm hG hP hD hS FL_c_11 (fun C T N h => by cases h; exact ⟨rfl, rfl, tb 55 (by decide +kernel) rfl, .array (.array .int), by decide +kernel, fun b => ⟨rfl, rfl⟩⟩) 0 rfl (Nat.le_of_ble_eq_true rfl) d_c_init_12 (fun H locs hP hD hS => ?_)
  have hP : va_P D zcl (([(h0, .inr (3, [.ref q1, .null, .null, .null, .null, .int 0, .int 0, .int 0, .int 0]))] ++ [(q1, grd (cs 2) 24 r1)]) ++ rws (cs 0) 24 4 r1) H := hP
  have hD : va_D A (([(h0, .inr (3, [.ref q1, .null, .null, .null, .null, .int 0, .int 0, .int 0, .int 0]))] ++ [(q1, grd (cs 2) 24 r1)]) ++ rws (cs 0) 24 4 r1) := hD
  refine lv_aload_n X.1 X.2.1 d_c_init_15 rfl (hl.2.2.2.2 0 h0 rfl) ?_
  refine lv_iconst (v := nI 4) X.1 X.2.1 d_c_init_16 (by decide +kernel) ?_
  refine lv_iconst (v := nI 4) X.1 X.2.1 d_c_init_17 (by decide +kernel) ?_
  refine c_mna (N := 4) (K := 4) X hG hP hD hS hA CK_c_9 (by omega) (by omega) (by show _ ≤ 37; omega) (by show _ ≤ 168; omega) d_c_init_18 (fun q2 r2 H hP hD hS => ?_)
  refine W.widen (k := 30) (n := 140) (by omega) (by omega) ?_
  have hP : va_P D zcl (((([(h0, .inr (3, [.ref q1, .null, .null, .null, .null, .int 0, .int 0, .int 0, .int 0]))] ++ [(q1, grd (cs 2) 24 r1)]) ++ rws (cs 0) 24 4 r1) ++ [(q2, grd (cs 2) 4 r2)]) ++ rws (cs 0) 4 4 r2) H := hP
  have hD : va_D A (((([(h0, .inr (3, [.ref q1, .null, .null, .null, .null, .int 0, .int 0, .int 0, .int 0]))] ++ [(q1, grd (cs 2) 24 r1)]) ++ rws (cs 0) 24 4 r1) ++ [(q2, grd (cs 2) 4 r2)]) ++ rws (cs 0) 4 4 r2) := hD
  refine c_putF X hnm hG hP hD hS FL_c_16 (fun C T N h => by cases h; exact ⟨rfl, rfl, tb 57 (by decide +kernel) rfl, .array (.array .int), by decide +kernel, fun b => ⟨rfl, rfl⟩⟩) 0 rfl (Nat.le_of_ble_eq_true rfl) d_c_init_22 (fun H locs hP hD hS => ?_)
  have hP : va_P D zcl (((([(h0, .inr (3, [.ref q1, .ref q2, .null, .null, .null, .int 0, .int 0, .int 0, .int 0]))] ++ [(q1, grd (cs 2) 24 r1)]) ++ rws (cs 0) 24 4 r1) ++ [(q2, grd (cs 2) 4 r2)]) ++ rws (cs 0) 4 4 r2) H := hP
  have hD : va_D A (((([(h0, .inr (3, [.ref q1, .ref q2, .null, .null, .null, .int 0, .int 0, .int 0, .int 0]))] ++ [(q1, grd (cs 2) 24 r1)]) ++ rws (cs 0) 24 4 r1) ++ [(q2, grd (cs 2) 4 r2)]) ++ rws (cs 0) 4 4 r2) := hD
  refine lv_aload_n X.1 X.2.1 d_c_init_25 rfl (hl.2.2.2.2 0 h0 rfl) ?_
  refine lv_iconst (v := nI 4) X.1 X.2.1 d_c_init_26 (by decide +kernel) ?_
  refine lv_iconst (v := nI 4) X.1 X.2.1 d_c_init_27 (by decide +kernel) ?_
  refine c_mna (N := 4) (K := 4) X hG hP hD hS hA CK_c_9 (by omega) (by omega) (by show _ ≤ 37; omega) (by show _ ≤ 168; omega) d_c_init_28 (fun q3 r3 H hP hD hS => ?_)
  refine W.widen (k := 35) (n := 160) (by omega) (by omega) ?_
  have hP : va_P D zcl (((((([(h0, .inr (3, [.ref q1, .ref q2, .null, .null, .null, .int 0, .int 0, .int 0, .int 0]))] ++ [(q1, grd (cs 2) 24 r1)]) ++ rws (cs 0) 24 4 r1) ++ [(q2, grd (cs 2) 4 r2)]) ++ rws (cs 0) 4 4 r2) ++ [(q3, grd (cs 2) 4 r3)]) ++ rws (cs 0) 4 4 r3) H := hP
  have hD : va_D A (((((([(h0, .inr (3, [.ref q1, .ref q2, .null, .null, .null, .int 0, .int 0, .int 0, .int 0]))] ++ [(q1, grd (cs 2) 24 r1)]) ++ rws (cs 0) 24 4 r1) ++ [(q2, grd (cs 2) 4 r2)]) ++ rws (cs 0) 4 4 r2) ++ [(q3, grd (cs 2) 4 r3)]) ++ rws (cs 0) 4 4 r3) := hD
  refine c_putF X hnm hG hP hD hS FL_c_19 (fun C T N h => by cases h; exact ⟨rfl, rfl, tb 58 (by decide +kernel) rfl, .array (.array .int), by decide +kernel, fun b => ⟨rfl, rfl⟩⟩) 0 rfl (Nat.le_of_ble_eq_true rfl) d_c_init_32 (fun H locs hP hD hS => ?_)
  have hP : va_P D zcl (((((([(h0, .inr (3, [.ref q1, .ref q2, .ref q3, .null, .null, .int 0, .int 0, .int 0, .int 0]))] ++ [(q1, grd (cs 2) 24 r1)]) ++ rws (cs 0) 24 4 r1) ++ [(q2, grd (cs 2) 4 r2)]) ++ rws (cs 0) 4 4 r2) ++ [(q3, grd (cs 2) 4 r3)]) ++ rws (cs 0) 4 4 r3) H := hP
  have hD : va_D A (((((([(h0, .inr (3, [.ref q1, .ref q2, .ref q3, .null, .null, .int 0, .int 0, .int 0, .int 0]))] ++ [(q1, grd (cs 2) 24 r1)]) ++ rws (cs 0) 24 4 r1) ++ [(q2, grd (cs 2) 4 r2)]) ++ rws (cs 0) 4 4 r2) ++ [(q3, grd (cs 2) 4 r3)]) ++ rws (cs 0) 4 4 r3) := hD
  refine lv_aload_n X.1 X.2.1 d_c_init_35 rfl (hl.2.2.2.2 0 h0 rfl) ?_
  refine lv_iconst (v := nI 4) X.1 X.2.1 d_c_init_36 (by decide +kernel) ?_
  refine c_newI (N := 4) X hG hP hD hS hA (by omega) (by show _ ≤ 37; omega) (by show _ ≤ 168; omega) d_c_init_37 (fun q4 H hP hD hS => ?_)
  refine W.widen (k := 36) (n := 164) (by omega) (by omega) ?_
  have hP : va_P D zcl ((((((([(h0, .inr (3, [.ref q1, .ref q2, .ref q3, .null, .null, .int 0, .int 0, .int 0, .int 0]))] ++ [(q1, grd (cs 2) 24 r1)]) ++ rws (cs 0) 24 4 r1) ++ [(q2, grd (cs 2) 4 r2)]) ++ rws (cs 0) 4 4 r2) ++ [(q3, grd (cs 2) 4 r3)]) ++ rws (cs 0) 4 4 r3) ++ [(q4, zrs (cs 0) 4)]) H := hP
  have hD : va_D A ((((((([(h0, .inr (3, [.ref q1, .ref q2, .ref q3, .null, .null, .int 0, .int 0, .int 0, .int 0]))] ++ [(q1, grd (cs 2) 24 r1)]) ++ rws (cs 0) 24 4 r1) ++ [(q2, grd (cs 2) 4 r2)]) ++ rws (cs 0) 4 4 r2) ++ [(q3, grd (cs 2) 4 r3)]) ++ rws (cs 0) 4 4 r3) ++ [(q4, zrs (cs 0) 4)]) := hD
  refine c_putF X hnm hG hP hD hS FL_c_22 (fun C T N h => by cases h; exact ⟨rfl, rfl, tb 59 (by decide +kernel) rfl, .array .int, by decide +kernel, fun b => ⟨rfl, rfl⟩⟩) 0 rfl (Nat.le_of_ble_eq_true rfl) d_c_init_39 (fun H locs hP hD hS => ?_)
  have hP : va_P D zcl ((((((([(h0, .inr (3, [.ref q1, .ref q2, .ref q3, .ref q4, .null, .int 0, .int 0, .int 0, .int 0]))] ++ [(q1, grd (cs 2) 24 r1)]) ++ rws (cs 0) 24 4 r1) ++ [(q2, grd (cs 2) 4 r2)]) ++ rws (cs 0) 4 4 r2) ++ [(q3, grd (cs 2) 4 r3)]) ++ rws (cs 0) 4 4 r3) ++ [(q4, zrs (cs 0) 4)]) H := hP
  have hD : va_D A ((((((([(h0, .inr (3, [.ref q1, .ref q2, .ref q3, .ref q4, .null, .int 0, .int 0, .int 0, .int 0]))] ++ [(q1, grd (cs 2) 24 r1)]) ++ rws (cs 0) 24 4 r1) ++ [(q2, grd (cs 2) 4 r2)]) ++ rws (cs 0) 4 4 r2) ++ [(q3, grd (cs 2) 4 r3)]) ++ rws (cs 0) 4 4 r3) ++ [(q4, zrs (cs 0) 4)]) := hD
  refine lv_aload_n X.1 X.2.1 d_c_init_42 rfl (hl.2.2.2.2 0 h0 rfl) ?_
  refine lv_iconst (v := nI 4) X.1 X.2.1 d_c_init_43 (by decide +kernel) ?_
  refine c_newI (N := 4) X hG hP hD hS hA (by omega) (by show _ ≤ 37; omega) (by show _ ≤ 168; omega) d_c_init_44 (fun q5 H hP hD hS => ?_)
  refine W.widen (k := 37) (n := 168) (by omega) (by omega) ?_
  have hP : va_P D zcl (((((((([(h0, .inr (3, [.ref q1, .ref q2, .ref q3, .ref q4, .null, .int 0, .int 0, .int 0, .int 0]))] ++ [(q1, grd (cs 2) 24 r1)]) ++ rws (cs 0) 24 4 r1) ++ [(q2, grd (cs 2) 4 r2)]) ++ rws (cs 0) 4 4 r2) ++ [(q3, grd (cs 2) 4 r3)]) ++ rws (cs 0) 4 4 r3) ++ [(q4, zrs (cs 0) 4)]) ++ [(q5, zrs (cs 0) 4)]) H := hP
  have hD : va_D A (((((((([(h0, .inr (3, [.ref q1, .ref q2, .ref q3, .ref q4, .null, .int 0, .int 0, .int 0, .int 0]))] ++ [(q1, grd (cs 2) 24 r1)]) ++ rws (cs 0) 24 4 r1) ++ [(q2, grd (cs 2) 4 r2)]) ++ rws (cs 0) 4 4 r2) ++ [(q3, grd (cs 2) 4 r3)]) ++ rws (cs 0) 4 4 r3) ++ [(q4, zrs (cs 0) 4)]) ++ [(q5, zrs (cs 0) 4)]) := hD
  refine c_putF X hnm hG hP hD hS FL_c_26 (fun C T N h => by cases h; exact ⟨rfl, rfl, tb 60 (by decide +kernel) rfl, .array .int, by decide +kernel, fun b => ⟨rfl, rfl⟩⟩) 0 rfl (Nat.le_of_ble_eq_true rfl) d_c_init_46 (fun H locs hP hD hS => ?_)
  have hP : va_P D zcl (((((((([(h0, .inr (3, [.ref q1, .ref q2, .ref q3, .ref q4, .ref q5, .int 0, .int 0, .int 0, .int 0]))] ++ [(q1, grd (cs 2) 24 r1)]) ++ rws (cs 0) 24 4 r1) ++ [(q2, grd (cs 2) 4 r2)]) ++ rws (cs 0) 4 4 r2) ++ [(q3, grd (cs 2) 4 r3)]) ++ rws (cs 0) 4 4 r3) ++ [(q4, zrs (cs 0) 4)]) ++ [(q5, zrs (cs 0) 4)]) H := hP
  have hD : va_D A (((((((([(h0, .inr (3, [.ref q1, .ref q2, .ref q3, .ref q4, .ref q5, .int 0, .int 0, .int 0, .int 0]))] ++ [(q1, grd (cs 2) 24 r1)]) ++ rws (cs 0) 24 4 r1) ++ [(q2, grd (cs 2) 4 r2)]) ++ rws (cs 0) 4 4 r2) ++ [(q3, grd (cs 2) 4 r3)]) ++ rws (cs 0) 4 4 r3) ++ [(q4, zrs (cs 0) 4)]) ++ [(q5, zrs (cs 0) 4)]) := hD
  exact c_end X rfl hP hD hS ⟨(fun i => [q1, q2, q3, q4, q5].getD i 0), r1, r2, r3, rfl⟩ d_c_init_49 rfl rfl
set_option maxRecDepth 100000 in
set_option maxHeartbeats 4000000 in
theorem i_z_init : Cn M_z_init 4 [.null, .null, .null, .int 0, .int 0, .int 0, .int 0] 23 72 P_z := by
  refine Cn.of MI_z_init (by decide) ?_
  intro l D cs h0 A p e s m args below meth c X hnm hG hA ls hl hP hD
  have hS : va_S A s.heap s.heap [] := va_S.rf
  refine lv_aload_n X.1 X.2.1 d_z_init_0 rfl (hl.2.2.2.2 0 h0 rfl) ?_
  refine c_obj X LO_z hl.2.1 d_z_init_1 ⟨by decide, by decide⟩ ?_
  refine lv_aload_n X.1 X.2.1 d_z_init_4 rfl (hl.2.2.2.2 0 h0 rfl) ?_
  refine lv_iconst (v := nI 4) X.1 X.2.1 d_z_init_5 (by decide +kernel) ?_
  refine lv_iconst (v := nI 4) X.1 X.2.1 d_z_init_6 (by decide +kernel) ?_
  refine c_mna (N := 4) (K := 4) X hG hP hD hS hA CK_z_9 (by omega) (by omega) (by show _ ≤ 23; omega) (by show _ ≤ 72; omega) d_z_init_7 (fun q1 r1 H hP hD hS => ?_)
  refine W.widen (k := 5) (n := 20) (by omega) (by omega) ?_
  have hP : va_P D zcl (([(h0, .inr (4, [.null, .null, .null, .int 0, .int 0, .int 0, .int 0]))] ++ [(q1, grd (cs 2) 4 r1)]) ++ rws (cs 0) 4 4 r1) H := hP
  have hD : va_D A (([(h0, .inr (4, [.null, .null, .null, .int 0, .int 0, .int 0, .int 0]))] ++ [(q1, grd (cs 2) 4 r1)]) ++ rws (cs 0) 4 4 r1) := hD
  refine c_putF X hnm hG hP hD hS FL_z_11 (fun C T N h => by cases h; exact ⟨rfl, rfl, tb 92 (by decide +kernel) rfl, .array (.array .int), by decide +kernel, fun b => ⟨rfl, rfl⟩⟩) 0 rfl (Nat.le_of_ble_eq_true rfl) d_z_init_11 (fun H locs hP hD hS => ?_)
  have hP : va_P D zcl (([(h0, .inr (4, [.ref q1, .null, .null, .int 0, .int 0, .int 0, .int 0]))] ++ [(q1, grd (cs 2) 4 r1)]) ++ rws (cs 0) 4 4 r1) H := hP
  have hD : va_D A (([(h0, .inr (4, [.ref q1, .null, .null, .int 0, .int 0, .int 0, .int 0]))] ++ [(q1, grd (cs 2) 4 r1)]) ++ rws (cs 0) 4 4 r1) := hD
  refine lv_aload_n X.1 X.2.1 d_z_init_14 rfl (hl.2.2.2.2 0 h0 rfl) ?_
  refine lv_bipush (v := nI 16) X.1 X.2.1 d_z_init_15 (by decide +kernel) ?_
  refine lv_iconst (v := nI 2) X.1 X.2.1 d_z_init_17 (by decide +kernel) ?_
  refine c_mna (N := 16) (K := 2) X hG hP hD hS hA CK_z_9 (by omega) (by omega) (by show _ ≤ 23; omega) (by show _ ≤ 72; omega) d_z_init_18 (fun q2 r2 H hP hD hS => ?_)
  refine W.widen (k := 22) (n := 68) (by omega) (by omega) ?_
  have hP : va_P D zcl (((([(h0, .inr (4, [.ref q1, .null, .null, .int 0, .int 0, .int 0, .int 0]))] ++ [(q1, grd (cs 2) 4 r1)]) ++ rws (cs 0) 4 4 r1) ++ [(q2, grd (cs 2) 16 r2)]) ++ rws (cs 0) 16 2 r2) H := hP
  have hD : va_D A (((([(h0, .inr (4, [.ref q1, .null, .null, .int 0, .int 0, .int 0, .int 0]))] ++ [(q1, grd (cs 2) 4 r1)]) ++ rws (cs 0) 4 4 r1) ++ [(q2, grd (cs 2) 16 r2)]) ++ rws (cs 0) 16 2 r2) := hD
  refine c_putF X hnm hG hP hD hS FL_z_16 (fun C T N h => by cases h; exact ⟨rfl, rfl, tb 94 (by decide +kernel) rfl, .array (.array .int), by decide +kernel, fun b => ⟨rfl, rfl⟩⟩) 0 rfl (Nat.le_of_ble_eq_true rfl) d_z_init_22 (fun H locs hP hD hS => ?_)
  have hP : va_P D zcl (((([(h0, .inr (4, [.ref q1, .ref q2, .null, .int 0, .int 0, .int 0, .int 0]))] ++ [(q1, grd (cs 2) 4 r1)]) ++ rws (cs 0) 4 4 r1) ++ [(q2, grd (cs 2) 16 r2)]) ++ rws (cs 0) 16 2 r2) H := hP
  have hD : va_D A (((([(h0, .inr (4, [.ref q1, .ref q2, .null, .int 0, .int 0, .int 0, .int 0]))] ++ [(q1, grd (cs 2) 4 r1)]) ++ rws (cs 0) 4 4 r1) ++ [(q2, grd (cs 2) 16 r2)]) ++ rws (cs 0) 16 2 r2) := hD
  refine lv_aload_n X.1 X.2.1 d_z_init_25 rfl (hl.2.2.2.2 0 h0 rfl) ?_
  refine lv_iconst (v := nI 4) X.1 X.2.1 d_z_init_26 (by decide +kernel) ?_
  refine c_newI (N := 4) X hG hP hD hS hA (by omega) (by show _ ≤ 23; omega) (by show _ ≤ 72; omega) d_z_init_27 (fun q3 H hP hD hS => ?_)
  refine W.widen (k := 23) (n := 72) (by omega) (by omega) ?_
  have hP : va_P D zcl ((((([(h0, .inr (4, [.ref q1, .ref q2, .null, .int 0, .int 0, .int 0, .int 0]))] ++ [(q1, grd (cs 2) 4 r1)]) ++ rws (cs 0) 4 4 r1) ++ [(q2, grd (cs 2) 16 r2)]) ++ rws (cs 0) 16 2 r2) ++ [(q3, zrs (cs 0) 4)]) H := hP
  have hD : va_D A ((((([(h0, .inr (4, [.ref q1, .ref q2, .null, .int 0, .int 0, .int 0, .int 0]))] ++ [(q1, grd (cs 2) 4 r1)]) ++ rws (cs 0) 4 4 r1) ++ [(q2, grd (cs 2) 16 r2)]) ++ rws (cs 0) 16 2 r2) ++ [(q3, zrs (cs 0) 4)]) := hD
  refine c_putF X hnm hG hP hD hS FL_z_19 (fun C T N h => by cases h; exact ⟨rfl, rfl, tb 96 (by decide +kernel) rfl, .array .int, by decide +kernel, fun b => ⟨rfl, rfl⟩⟩) 0 rfl (Nat.le_of_ble_eq_true rfl) d_z_init_29 (fun H locs hP hD hS => ?_)
  have hP : va_P D zcl ((((([(h0, .inr (4, [.ref q1, .ref q2, .ref q3, .int 0, .int 0, .int 0, .int 0]))] ++ [(q1, grd (cs 2) 4 r1)]) ++ rws (cs 0) 4 4 r1) ++ [(q2, grd (cs 2) 16 r2)]) ++ rws (cs 0) 16 2 r2) ++ [(q3, zrs (cs 0) 4)]) H := hP
  have hD : va_D A ((((([(h0, .inr (4, [.ref q1, .ref q2, .ref q3, .int 0, .int 0, .int 0, .int 0]))] ++ [(q1, grd (cs 2) 4 r1)]) ++ rws (cs 0) 4 4 r1) ++ [(q2, grd (cs 2) 16 r2)]) ++ rws (cs 0) 16 2 r2) ++ [(q3, zrs (cs 0) 4)]) := hD
  exact c_end X rfl hP hD hS ⟨(fun i => [q1, q2, q3].getD i 0), r1, r2, rfl⟩ d_z_init_32 rfl rfl
set_option maxRecDepth 100000 in
set_option maxHeartbeats 4000000 in
theorem i_e_init : Cn M_e_init 9 [.null, .null, .null, .int 0, .int 0] 3 12 P_e := by
  refine Cn.of MI_e_init (by decide) ?_
  intro l D cs h0 A p e s m args below meth c X hnm hG hA ls hl hP hD
  have hS : va_S A s.heap s.heap [] := va_S.rf
  refine lv_aload_n X.1 X.2.1 d_e_init_0 rfl (hl.2.2.2.2 0 h0 rfl) ?_
  refine c_obj X LO_e hl.2.1 d_e_init_1 ⟨by decide, by decide⟩ ?_
  refine lv_aload_n X.1 X.2.1 d_e_init_4 rfl (hl.2.2.2.2 0 h0 rfl) ?_
  refine lv_iconst (v := nI 4) X.1 X.2.1 d_e_init_5 (by decide +kernel) ?_
  refine c_newI (N := 4) X hG hP hD hS hA (by omega) (by show _ ≤ 3; omega) (by show _ ≤ 12; omega) d_e_init_6 (fun q1 H hP hD hS => ?_)
  refine W.widen (k := 1) (n := 4) (by omega) (by omega) ?_
  have hP : va_P D zcl ([(h0, .inr (9, [.null, .null, .null, .int 0, .int 0]))] ++ [(q1, zrs (cs 0) 4)]) H := hP
  have hD : va_D A ([(h0, .inr (9, [.null, .null, .null, .int 0, .int 0]))] ++ [(q1, zrs (cs 0) 4)]) := hD
  refine c_putF X hnm hG hP hD hS FL_e_9 (fun C T N h => by cases h; exact ⟨rfl, rfl, tb 133 (by decide +kernel) rfl, .array .int, by decide +kernel, fun b => ⟨rfl, rfl⟩⟩) 0 rfl (Nat.le_of_ble_eq_true rfl) d_e_init_8 (fun H locs hP hD hS => ?_)
  have hP : va_P D zcl ([(h0, .inr (9, [.ref q1, .null, .null, .int 0, .int 0]))] ++ [(q1, zrs (cs 0) 4)]) H := hP
  have hD : va_D A ([(h0, .inr (9, [.ref q1, .null, .null, .int 0, .int 0]))] ++ [(q1, zrs (cs 0) 4)]) := hD
  refine lv_aload_n X.1 X.2.1 d_e_init_11 rfl (hl.2.2.2.2 0 h0 rfl) ?_
  refine lv_iconst (v := nI 4) X.1 X.2.1 d_e_init_12 (by decide +kernel) ?_
  refine c_newI (N := 4) X hG hP hD hS hA (by omega) (by show _ ≤ 3; omega) (by show _ ≤ 12; omega) d_e_init_13 (fun q2 H hP hD hS => ?_)
  refine W.widen (k := 2) (n := 8) (by omega) (by omega) ?_
  have hP : va_P D zcl (([(h0, .inr (9, [.ref q1, .null, .null, .int 0, .int 0]))] ++ [(q1, zrs (cs 0) 4)]) ++ [(q2, zrs (cs 0) 4)]) H := hP
  have hD : va_D A (([(h0, .inr (9, [.ref q1, .null, .null, .int 0, .int 0]))] ++ [(q1, zrs (cs 0) 4)]) ++ [(q2, zrs (cs 0) 4)]) := hD
  refine c_putF X hnm hG hP hD hS FL_e_15 (fun C T N h => by cases h; exact ⟨rfl, rfl, tb 135 (by decide +kernel) rfl, .array .int, by decide +kernel, fun b => ⟨rfl, rfl⟩⟩) 0 rfl (Nat.le_of_ble_eq_true rfl) d_e_init_15 (fun H locs hP hD hS => ?_)
  have hP : va_P D zcl (([(h0, .inr (9, [.ref q1, .ref q2, .null, .int 0, .int 0]))] ++ [(q1, zrs (cs 0) 4)]) ++ [(q2, zrs (cs 0) 4)]) H := hP
  have hD : va_D A (([(h0, .inr (9, [.ref q1, .ref q2, .null, .int 0, .int 0]))] ++ [(q1, zrs (cs 0) 4)]) ++ [(q2, zrs (cs 0) 4)]) := hD
  refine lv_aload_n X.1 X.2.1 d_e_init_18 rfl (hl.2.2.2.2 0 h0 rfl) ?_
  refine lv_iconst (v := nI 4) X.1 X.2.1 d_e_init_19 (by decide +kernel) ?_
  refine c_newI (N := 4) X hG hP hD hS hA (by omega) (by show _ ≤ 3; omega) (by show _ ≤ 12; omega) d_e_init_20 (fun q3 H hP hD hS => ?_)
  refine W.widen (k := 3) (n := 12) (by omega) (by omega) ?_
  have hP : va_P D zcl ((([(h0, .inr (9, [.ref q1, .ref q2, .null, .int 0, .int 0]))] ++ [(q1, zrs (cs 0) 4)]) ++ [(q2, zrs (cs 0) 4)]) ++ [(q3, zrs (cs 0) 4)]) H := hP
  have hD : va_D A ((([(h0, .inr (9, [.ref q1, .ref q2, .null, .int 0, .int 0]))] ++ [(q1, zrs (cs 0) 4)]) ++ [(q2, zrs (cs 0) 4)]) ++ [(q3, zrs (cs 0) 4)]) := hD
  refine c_putF X hnm hG hP hD hS FL_e_18 (fun C T N h => by cases h; exact ⟨rfl, rfl, tb 139 (by decide +kernel) rfl, .array .int, by decide +kernel, fun b => ⟨rfl, rfl⟩⟩) 0 rfl (Nat.le_of_ble_eq_true rfl) d_e_init_22 (fun H locs hP hD hS => ?_)
  have hP : va_P D zcl ((([(h0, .inr (9, [.ref q1, .ref q2, .ref q3, .int 0, .int 0]))] ++ [(q1, zrs (cs 0) 4)]) ++ [(q2, zrs (cs 0) 4)]) ++ [(q3, zrs (cs 0) 4)]) H := hP
  have hD : va_D A ((([(h0, .inr (9, [.ref q1, .ref q2, .ref q3, .int 0, .int 0]))] ++ [(q1, zrs (cs 0) 4)]) ++ [(q2, zrs (cs 0) 4)]) ++ [(q3, zrs (cs 0) 4)]) := hD
  exact c_end X rfl hP hD hS ⟨q1, q2, q3, rfl⟩ d_e_init_25 rfl rfl
set_option maxRecDepth 100000 in
set_option maxHeartbeats 4000000 in
theorem i_f_init : Cn M_f_init 6 [.null, .null, .null, .null, .null, .int 0, .int 0, .int 0, .int 0] 5 68 P_f := by
  refine Cn.of MI_f_init (by decide) ?_
  intro l D cs h0 A p e s m args below meth c X hnm hG hA ls hl hP hD
  have hS : va_S A s.heap s.heap [] := va_S.rf
  refine lv_aload_n X.1 X.2.1 d_f_init_0 rfl (hl.2.2.2.2 0 h0 rfl) ?_
  refine c_obj X LO_f hl.2.1 d_f_init_1 ⟨by decide, by decide⟩ ?_
  refine lv_aload_n X.1 X.2.1 d_f_init_4 rfl (hl.2.2.2.2 0 h0 rfl) ?_
  refine lv_iconst (v := nI 4) X.1 X.2.1 d_f_init_5 (by decide +kernel) ?_
  refine c_newI (N := 4) X hG hP hD hS hA (by omega) (by show _ ≤ 5; omega) (by show _ ≤ 68; omega) d_f_init_6 (fun q1 H hP hD hS => ?_)
  refine W.widen (k := 1) (n := 4) (by omega) (by omega) ?_
  have hP : va_P D zcl ([(h0, .inr (6, [.null, .null, .null, .null, .null, .int 0, .int 0, .int 0, .int 0]))] ++ [(q1, zrs (cs 0) 4)]) H := hP
  have hD : va_D A ([(h0, .inr (6, [.null, .null, .null, .null, .null, .int 0, .int 0, .int 0, .int 0]))] ++ [(q1, zrs (cs 0) 4)]) := hD
  refine c_putF X hnm hG hP hD hS FL_f_9 (fun C T N h => by cases h; exact ⟨rfl, rfl, tb 176 (by decide +kernel) rfl, .array .int, by decide +kernel, fun b => ⟨rfl, rfl⟩⟩) 0 rfl (Nat.le_of_ble_eq_true rfl) d_f_init_8 (fun H locs hP hD hS => ?_)
  have hP : va_P D zcl ([(h0, .inr (6, [.ref q1, .null, .null, .null, .null, .int 0, .int 0, .int 0, .int 0]))] ++ [(q1, zrs (cs 0) 4)]) H := hP
  have hD : va_D A ([(h0, .inr (6, [.ref q1, .null, .null, .null, .null, .int 0, .int 0, .int 0, .int 0]))] ++ [(q1, zrs (cs 0) 4)]) := hD
  refine lv_aload_n X.1 X.2.1 d_f_init_11 rfl (hl.2.2.2.2 0 h0 rfl) ?_
  refine lv_iconst (v := nI 4) X.1 X.2.1 d_f_init_12 (by decide +kernel) ?_
  refine c_newI (N := 4) X hG hP hD hS hA (by omega) (by show _ ≤ 5; omega) (by show _ ≤ 68; omega) d_f_init_13 (fun q2 H hP hD hS => ?_)
  refine W.widen (k := 2) (n := 8) (by omega) (by omega) ?_
  have hP : va_P D zcl (([(h0, .inr (6, [.ref q1, .null, .null, .null, .null, .int 0, .int 0, .int 0, .int 0]))] ++ [(q1, zrs (cs 0) 4)]) ++ [(q2, zrs (cs 0) 4)]) H := hP
  have hD : va_D A (([(h0, .inr (6, [.ref q1, .null, .null, .null, .null, .int 0, .int 0, .int 0, .int 0]))] ++ [(q1, zrs (cs 0) 4)]) ++ [(q2, zrs (cs 0) 4)]) := hD
  refine c_putF X hnm hG hP hD hS FL_f_15 (fun C T N h => by cases h; exact ⟨rfl, rfl, tb 178 (by decide +kernel) rfl, .array .int, by decide +kernel, fun b => ⟨rfl, rfl⟩⟩) 0 rfl (Nat.le_of_ble_eq_true rfl) d_f_init_15 (fun H locs hP hD hS => ?_)
  have hP : va_P D zcl (([(h0, .inr (6, [.ref q1, .ref q2, .null, .null, .null, .int 0, .int 0, .int 0, .int 0]))] ++ [(q1, zrs (cs 0) 4)]) ++ [(q2, zrs (cs 0) 4)]) H := hP
  have hD : va_D A (([(h0, .inr (6, [.ref q1, .ref q2, .null, .null, .null, .int 0, .int 0, .int 0, .int 0]))] ++ [(q1, zrs (cs 0) 4)]) ++ [(q2, zrs (cs 0) 4)]) := hD
  refine lv_aload_n X.1 X.2.1 d_f_init_18 rfl (hl.2.2.2.2 0 h0 rfl) ?_
  refine lv_bipush (v := nI 20) X.1 X.2.1 d_f_init_19 (by decide +kernel) ?_
  refine c_newI (N := 20) X hG hP hD hS hA (by omega) (by show _ ≤ 5; omega) (by show _ ≤ 68; omega) d_f_init_21 (fun q3 H hP hD hS => ?_)
  refine W.widen (k := 3) (n := 28) (by omega) (by omega) ?_
  have hP : va_P D zcl ((([(h0, .inr (6, [.ref q1, .ref q2, .null, .null, .null, .int 0, .int 0, .int 0, .int 0]))] ++ [(q1, zrs (cs 0) 4)]) ++ [(q2, zrs (cs 0) 4)]) ++ [(q3, zrs (cs 0) 20)]) H := hP
  have hD : va_D A ((([(h0, .inr (6, [.ref q1, .ref q2, .null, .null, .null, .int 0, .int 0, .int 0, .int 0]))] ++ [(q1, zrs (cs 0) 4)]) ++ [(q2, zrs (cs 0) 4)]) ++ [(q3, zrs (cs 0) 20)]) := hD
  refine c_putF X hnm hG hP hD hS FL_f_18 (fun C T N h => by cases h; exact ⟨rfl, rfl, tb 180 (by decide +kernel) rfl, .array .int, by decide +kernel, fun b => ⟨rfl, rfl⟩⟩) 0 rfl (Nat.le_of_ble_eq_true rfl) d_f_init_23 (fun H locs hP hD hS => ?_)
  have hP : va_P D zcl ((([(h0, .inr (6, [.ref q1, .ref q2, .ref q3, .null, .null, .int 0, .int 0, .int 0, .int 0]))] ++ [(q1, zrs (cs 0) 4)]) ++ [(q2, zrs (cs 0) 4)]) ++ [(q3, zrs (cs 0) 20)]) H := hP
  have hD : va_D A ((([(h0, .inr (6, [.ref q1, .ref q2, .ref q3, .null, .null, .int 0, .int 0, .int 0, .int 0]))] ++ [(q1, zrs (cs 0) 4)]) ++ [(q2, zrs (cs 0) 4)]) ++ [(q3, zrs (cs 0) 20)]) := hD
  refine lv_aload_n X.1 X.2.1 d_f_init_26 rfl (hl.2.2.2.2 0 h0 rfl) ?_
  refine lv_bipush (v := nI 20) X.1 X.2.1 d_f_init_27 (by decide +kernel) ?_
  refine c_newI (N := 20) X hG hP hD hS hA (by omega) (by show _ ≤ 5; omega) (by show _ ≤ 68; omega) d_f_init_29 (fun q4 H hP hD hS => ?_)
  refine W.widen (k := 4) (n := 48) (by omega) (by omega) ?_
  have hP : va_P D zcl (((([(h0, .inr (6, [.ref q1, .ref q2, .ref q3, .null, .null, .int 0, .int 0, .int 0, .int 0]))] ++ [(q1, zrs (cs 0) 4)]) ++ [(q2, zrs (cs 0) 4)]) ++ [(q3, zrs (cs 0) 20)]) ++ [(q4, zrs (cs 0) 20)]) H := hP
  have hD : va_D A (((([(h0, .inr (6, [.ref q1, .ref q2, .ref q3, .null, .null, .int 0, .int 0, .int 0, .int 0]))] ++ [(q1, zrs (cs 0) 4)]) ++ [(q2, zrs (cs 0) 4)]) ++ [(q3, zrs (cs 0) 20)]) ++ [(q4, zrs (cs 0) 20)]) := hD
  refine c_putF X hnm hG hP hD hS FL_f_21 (fun C T N h => by cases h; exact ⟨rfl, rfl, tb 181 (by decide +kernel) rfl, .array .int, by decide +kernel, fun b => ⟨rfl, rfl⟩⟩) 0 rfl (Nat.le_of_ble_eq_true rfl) d_f_init_31 (fun H locs hP hD hS => ?_)
  have hP : va_P D zcl (((([(h0, .inr (6, [.ref q1, .ref q2, .ref q3, .ref q4, .null, .int 0, .int 0, .int 0, .int 0]))] ++ [(q1, zrs (cs 0) 4)]) ++ [(q2, zrs (cs 0) 4)]) ++ [(q3, zrs (cs 0) 20)]) ++ [(q4, zrs (cs 0) 20)]) H := hP
  have hD : va_D A (((([(h0, .inr (6, [.ref q1, .ref q2, .ref q3, .ref q4, .null, .int 0, .int 0, .int 0, .int 0]))] ++ [(q1, zrs (cs 0) 4)]) ++ [(q2, zrs (cs 0) 4)]) ++ [(q3, zrs (cs 0) 20)]) ++ [(q4, zrs (cs 0) 20)]) := hD
  refine lv_aload_n X.1 X.2.1 d_f_init_34 rfl (hl.2.2.2.2 0 h0 rfl) ?_
  refine lv_bipush (v := nI 20) X.1 X.2.1 d_f_init_35 (by decide +kernel) ?_
  refine c_newI (N := 20) X hG hP hD hS hA (by omega) (by show _ ≤ 5; omega) (by show _ ≤ 68; omega) d_f_init_37 (fun q5 H hP hD hS => ?_)
  refine W.widen (k := 5) (n := 68) (by omega) (by omega) ?_
  have hP : va_P D zcl ((((([(h0, .inr (6, [.ref q1, .ref q2, .ref q3, .ref q4, .null, .int 0, .int 0, .int 0, .int 0]))] ++ [(q1, zrs (cs 0) 4)]) ++ [(q2, zrs (cs 0) 4)]) ++ [(q3, zrs (cs 0) 20)]) ++ [(q4, zrs (cs 0) 20)]) ++ [(q5, zrs (cs 0) 20)]) H := hP
  have hD : va_D A ((((([(h0, .inr (6, [.ref q1, .ref q2, .ref q3, .ref q4, .null, .int 0, .int 0, .int 0, .int 0]))] ++ [(q1, zrs (cs 0) 4)]) ++ [(q2, zrs (cs 0) 4)]) ++ [(q3, zrs (cs 0) 20)]) ++ [(q4, zrs (cs 0) 20)]) ++ [(q5, zrs (cs 0) 20)]) := hD
  refine c_putF X hnm hG hP hD hS FL_f_24 (fun C T N h => by cases h; exact ⟨rfl, rfl, tb 183 (by decide +kernel) rfl, .array .int, by decide +kernel, fun b => ⟨rfl, rfl⟩⟩) 0 rfl (Nat.le_of_ble_eq_true rfl) d_f_init_39 (fun H locs hP hD hS => ?_)
  have hP : va_P D zcl ((((([(h0, .inr (6, [.ref q1, .ref q2, .ref q3, .ref q4, .ref q5, .int 0, .int 0, .int 0, .int 0]))] ++ [(q1, zrs (cs 0) 4)]) ++ [(q2, zrs (cs 0) 4)]) ++ [(q3, zrs (cs 0) 20)]) ++ [(q4, zrs (cs 0) 20)]) ++ [(q5, zrs (cs 0) 20)]) H := hP
  have hD : va_D A ((((([(h0, .inr (6, [.ref q1, .ref q2, .ref q3, .ref q4, .ref q5, .int 0, .int 0, .int 0, .int 0]))] ++ [(q1, zrs (cs 0) 4)]) ++ [(q2, zrs (cs 0) 4)]) ++ [(q3, zrs (cs 0) 20)]) ++ [(q4, zrs (cs 0) 20)]) ++ [(q5, zrs (cs 0) 20)]) := hD
  refine lv_aload_n X.1 X.2.1 d_f_init_42 rfl (hl.2.2.2.2 0 h0 rfl) ?_
  refine lv_iconst (v := nI 1) X.1 X.2.1 d_f_init_43 (by decide +kernel) ?_
  refine c_putI X hG hP hD hS FL_f_27 (fun C T N h => by cases h; exact tb 185 (by decide +kernel) rfl) FW_6_5 0 rfl (Nat.le_of_ble_eq_true rfl) d_f_init_44 (fun H locs hP hD hS => ?_)
  have hP : va_P D zcl ((((([(h0, .inr (6, [.ref q1, .ref q2, .ref q3, .ref q4, .ref q5, .int (nI 1), .int 0, .int 0, .int 0]))] ++ [(q1, zrs (cs 0) 4)]) ++ [(q2, zrs (cs 0) 4)]) ++ [(q3, zrs (cs 0) 20)]) ++ [(q4, zrs (cs 0) 20)]) ++ [(q5, zrs (cs 0) 20)]) H := hP
  have hD : va_D A ((((([(h0, .inr (6, [.ref q1, .ref q2, .ref q3, .ref q4, .ref q5, .int (nI 1), .int 0, .int 0, .int 0]))] ++ [(q1, zrs (cs 0) 4)]) ++ [(q2, zrs (cs 0) 4)]) ++ [(q3, zrs (cs 0) 20)]) ++ [(q4, zrs (cs 0) 20)]) ++ [(q5, zrs (cs 0) 20)]) := hD
  refine lv_aload_n X.1 X.2.1 d_f_init_47 rfl (hl.2.2.2.2 0 h0 rfl) ?_
  refine lv_iconst (v := nI 0) X.1 X.2.1 d_f_init_48 (by decide +kernel) ?_
  refine c_putI X hG hP hD hS FL_f_31 (fun C T N h => by cases h; exact tb 187 (by decide +kernel) rfl) FW_6_6 0 rfl (Nat.le_of_ble_eq_true rfl) d_f_init_49 (fun H locs hP hD hS => ?_)
  have hP : va_P D zcl ((((([(h0, .inr (6, [.ref q1, .ref q2, .ref q3, .ref q4, .ref q5, .int (nI 1), .int (nI 0), .int 0, .int 0]))] ++ [(q1, zrs (cs 0) 4)]) ++ [(q2, zrs (cs 0) 4)]) ++ [(q3, zrs (cs 0) 20)]) ++ [(q4, zrs (cs 0) 20)]) ++ [(q5, zrs (cs 0) 20)]) H := hP
  have hD : va_D A ((((([(h0, .inr (6, [.ref q1, .ref q2, .ref q3, .ref q4, .ref q5, .int (nI 1), .int (nI 0), .int 0, .int 0]))] ++ [(q1, zrs (cs 0) 4)]) ++ [(q2, zrs (cs 0) 4)]) ++ [(q3, zrs (cs 0) 20)]) ++ [(q4, zrs (cs 0) 20)]) ++ [(q5, zrs (cs 0) 20)]) := hD
  exact c_end X rfl hP hD hS ⟨(fun i => [q1, q2, q3, q4, q5].getD i 0), rfl⟩ d_f_init_52 rfl rfl
set_option maxRecDepth 100000 in
set_option maxHeartbeats 4000000 in
theorem i_y_init : Cn M_y_init 7 [.null, .int 0] 1 250 P_y := by
  refine Cn.of MI_y_init (by decide) ?_
  intro l D cs h0 A p e s m args below meth c X hnm hG hA ls hl hP hD
  have hS : va_S A s.heap s.heap [] := va_S.rf
  refine lv_aload_n X.1 X.2.1 d_y_init_0 rfl (hl.2.2.2.2 0 h0 rfl) ?_
  refine c_obj X LO_y hl.2.1 d_y_init_1 ⟨by decide, by decide⟩ ?_
  refine lv_aload_n X.1 X.2.1 d_y_init_4 rfl (hl.2.2.2.2 0 h0 rfl) ?_
  refine lv_sipush (v := nI 250) X.1 X.2.1 d_y_init_5 (by decide +kernel) ?_
  refine c_newI (N := 250) X hG hP hD hS hA (by omega) (by show _ ≤ 1; omega) (by show _ ≤ 250; omega) d_y_init_8 (fun q1 H hP hD hS => ?_)
  refine W.widen (k := 1) (n := 250) (by omega) (by omega) ?_
  have hP : va_P D zcl ([(h0, .inr (7, [.null, .int 0]))] ++ [(q1, zrs (cs 0) 250)]) H := hP
  have hD : va_D A ([(h0, .inr (7, [.null, .int 0]))] ++ [(q1, zrs (cs 0) 250)]) := hD
  refine c_putF X hnm hG hP hD hS FL_y_11 (fun C T N h => by cases h; exact ⟨rfl, rfl, tb 218 (by decide +kernel) rfl, .array .int, by decide +kernel, fun b => ⟨rfl, rfl⟩⟩) 0 rfl (Nat.le_of_ble_eq_true rfl) d_y_init_10 (fun H locs hP hD hS => ?_)
  have hP : va_P D zcl ([(h0, .inr (7, [.ref q1, .int 0]))] ++ [(q1, zrs (cs 0) 250)]) H := hP
  have hD : va_D A ([(h0, .inr (7, [.ref q1, .int 0]))] ++ [(q1, zrs (cs 0) 250)]) := hD
  exact c_end X rfl hP hD hS ⟨q1, rfl⟩ d_y_init_13 rfl rfl
