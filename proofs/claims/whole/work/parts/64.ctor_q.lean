def P_q (cs : Nat → ClassId) (h : Nat) (w : va_W) : Prop := ∃ (g : Nat → Nat) (wt ws wc wz wb wf wy : va_W), P_t cs (g 1) wt ∧ P_s cs (g 2) ws ∧ P_c cs (g 3) wc ∧ P_z cs (g 4) wz ∧ P_b cs (g 5) wb ∧ P_f cs (g 6) wf ∧ P_y cs (g 7) wy ∧ w = (h, .inr (0, [.ref (g 1), .ref (g 2), .ref (g 3), .ref (g 4), .ref (g 5), .ref (g 6), .ref (g 7)])) :: ((((((wt ++ ws) ++ wc) ++ wz) ++ wb) ++ wf) ++ wy)
set_option maxRecDepth 100000 in
set_option maxHeartbeats 4000000 in
theorem i_q_init : Cn M_q_init 0 [.null, .null, .null, .null, .null, .null, .null] 180 1074 P_q := by
  refine Cn.of MI_q_init (by decide) ?_
  intro l D cs h0 A p e s m args below meth c X hnm hG hA ls hl hP hD
  have hS : va_S A s.heap s.heap [] := va_S.rf
  refine lv_aload_n X.1 X.2.1 d_q_init_0 rfl (hl.2.2.2.2 0 h0 rfl) ?_
  refine c_obj X LO_q hl.2.1 d_q_init_1 ⟨by decide, by decide⟩ ?_
  refine lv_aload_n X.1 X.2.1 d_q_init_4 rfl (hl.2.2.2.2 0 h0 rfl) ?_
  refine c_new (ci := 1) (fs := [.null]) X hG hP hD hS hA CK_q_7 IN_1 II_1 rfl zty1 zok1 (by decide +kernel) (by show _ ≤ 180; omega) (by show _ ≤ 1074; omega) d_q_init_5 (fun q1 H hP hD hS => ?_)
  refine W.widen (k := 1) (n := 1) (by omega) (by omega) ?_
  refine lv_dup X.1 X.2.1 d_q_init_8 rfl ?_
  refine c_call i_t_init MI_t_init X hG LK_q_9 ⟨by decide, by decide⟩ hP hD hS hA hl.2.1 (Nat.le_of_ble_eq_true rfl) d_q_init_9 (by show _ ≤ 180; omega) (by show _ ≤ 1074; omega) (fun wt H locs hp_t hP hD hS => ?_)
  refine W.widen (k := 2) (n := 5) (by omega) (by omega) ?_
  have hP : va_P D zcl ((h0, .inr (0, [.null, .null, .null, .null, .null, .null, .null])) :: wt) H := hP
  have hD : va_D A ((h0, .inr (0, [.null, .null, .null, .null, .null, .null, .null])) :: wt) := hD
  refine c_putF X hnm hG hP hD hS FL_q_10 (fun C T N h => by cases h; exact ⟨rfl, rfl, tb 227 (by decide +kernel) rfl, .object "QuantisedLists$Turn", by decide +kernel, fun b => ⟨rfl, rfl⟩⟩) 0 rfl (Nat.le_of_ble_eq_true rfl) d_q_init_12 (fun H locs hP hD hS => ?_)
  have hP : va_P D zcl ((h0, .inr (0, [.ref q1, .null, .null, .null, .null, .null, .null])) :: wt) H := hP
  have hD : va_D A ((h0, .inr (0, [.ref q1, .null, .null, .null, .null, .null, .null])) :: wt) := hD
  refine lv_aload_n X.1 X.2.1 d_q_init_15 rfl (hl.2.2.2.2 0 h0 rfl) ?_
  refine c_new (ci := 2) (fs := [.null, .int 0]) X hG hP hD hS hA CK_q_16 IN_2 II_2 rfl zty2 zok2 (by decide +kernel) (by show _ ≤ 180; omega) (by show _ ≤ 1074; omega) d_q_init_16 (fun q2 H hP hD hS => ?_)
  refine W.widen (k := 3) (n := 7) (by omega) (by omega) ?_
  refine lv_dup X.1 X.2.1 d_q_init_19 rfl ?_
  refine c_call i_s_init MI_s_init X hG LK_q_18 ⟨by decide, by decide⟩ hP hD hS hA hl.2.1 (Nat.le_of_ble_eq_true rfl) d_q_init_20 (by show _ ≤ 180; omega) (by show _ ≤ 1074; omega) (fun ws H locs hp_s hP hD hS => ?_)
  refine W.widen (k := 28) (n := 127) (by omega) (by omega) ?_
  have hP : va_P D zcl ((h0, .inr (0, [.ref q1, .null, .null, .null, .null, .null, .null])) :: (wt ++ ws)) H := hP
  have hD : va_D A ((h0, .inr (0, [.ref q1, .null, .null, .null, .null, .null, .null])) :: (wt ++ ws)) := hD
  refine c_putF X hnm hG hP hD hS FL_q_19 (fun C T N h => by cases h; exact ⟨rfl, rfl, tb 228 (by decide +kernel) rfl, .object "QuantisedLists$Samples", by decide +kernel, fun b => ⟨rfl, rfl⟩⟩) 0 rfl (Nat.le_of_ble_eq_true rfl) d_q_init_23 (fun H locs hP hD hS => ?_)
  have hP : va_P D zcl ((h0, .inr (0, [.ref q1, .ref q2, .null, .null, .null, .null, .null])) :: (wt ++ ws)) H := hP
  have hD : va_D A ((h0, .inr (0, [.ref q1, .ref q2, .null, .null, .null, .null, .null])) :: (wt ++ ws)) := hD
  refine lv_aload_n X.1 X.2.1 d_q_init_26 rfl (hl.2.2.2.2 0 h0 rfl) ?_
  refine c_new (ci := 3) (fs := [.null, .null, .null, .null, .null, .int 0, .int 0, .int 0, .int 0]) X hG hP hD hS hA CK_q_23 IN_3 II_3 rfl zty3 zok3 (by decide +kernel) (by show _ ≤ 180; omega) (by show _ ≤ 1074; omega) d_q_init_27 (fun q3 H hP hD hS => ?_)
  refine W.widen (k := 29) (n := 136) (by omega) (by omega) ?_
  refine lv_dup X.1 X.2.1 d_q_init_30 rfl ?_
  refine c_call i_c_init MI_c_init X hG LK_q_25 ⟨by decide, by decide⟩ hP hD hS hA hl.2.1 (Nat.le_of_ble_eq_true rfl) d_q_init_31 (by show _ ≤ 180; omega) (by show _ ≤ 1074; omega) (fun wc H locs hp_c hP hD hS => ?_)
  refine W.widen (k := 66) (n := 304) (by omega) (by omega) ?_
  have hP : va_P D zcl ((h0, .inr (0, [.ref q1, .ref q2, .null, .null, .null, .null, .null])) :: ((wt ++ ws) ++ wc)) H := hP
  have hD : va_D A ((h0, .inr (0, [.ref q1, .ref q2, .null, .null, .null, .null, .null])) :: ((wt ++ ws) ++ wc)) := hD
  refine c_putF X hnm hG hP hD hS FL_q_26 (fun C T N h => by cases h; exact ⟨rfl, rfl, tb 229 (by decide +kernel) rfl, .object "QuantisedLists$Clustering", by decide +kernel, fun b => ⟨rfl, rfl⟩⟩) 0 rfl (Nat.le_of_ble_eq_true rfl) d_q_init_34 (fun H locs hP hD hS => ?_)
  have hP : va_P D zcl ((h0, .inr (0, [.ref q1, .ref q2, .ref q3, .null, .null, .null, .null])) :: ((wt ++ ws) ++ wc)) H := hP
  have hD : va_D A ((h0, .inr (0, [.ref q1, .ref q2, .ref q3, .null, .null, .null, .null])) :: ((wt ++ ws) ++ wc)) := hD
  refine lv_aload_n X.1 X.2.1 d_q_init_37 rfl (hl.2.2.2.2 0 h0 rfl) ?_
  refine c_new (ci := 4) (fs := [.null, .null, .null, .int 0, .int 0, .int 0, .int 0]) X hG hP hD hS hA CK_q_30 IN_4 II_4 rfl zty4 zok4 (by decide +kernel) (by show _ ≤ 180; omega) (by show _ ≤ 1074; omega) d_q_init_38 (fun q4 H hP hD hS => ?_)
  refine W.widen (k := 67) (n := 311) (by omega) (by omega) ?_
  refine lv_dup X.1 X.2.1 d_q_init_41 rfl ?_
  refine c_call i_z_init MI_z_init X hG LK_q_32 ⟨by decide, by decide⟩ hP hD hS hA hl.2.1 (Nat.le_of_ble_eq_true rfl) d_q_init_42 (by show _ ≤ 180; omega) (by show _ ≤ 1074; omega) (fun wz H locs hp_z hP hD hS => ?_)
  refine W.widen (k := 90) (n := 383) (by omega) (by omega) ?_
  have hP : va_P D zcl ((h0, .inr (0, [.ref q1, .ref q2, .ref q3, .null, .null, .null, .null])) :: (((wt ++ ws) ++ wc) ++ wz)) H := hP
  have hD : va_D A ((h0, .inr (0, [.ref q1, .ref q2, .ref q3, .null, .null, .null, .null])) :: (((wt ++ ws) ++ wc) ++ wz)) := hD
  refine c_putF X hnm hG hP hD hS FL_q_33 (fun C T N h => by cases h; exact ⟨rfl, rfl, tb 230 (by decide +kernel) rfl, .object "QuantisedLists$Quantiser", by decide +kernel, fun b => ⟨rfl, rfl⟩⟩) 0 rfl (Nat.le_of_ble_eq_true rfl) d_q_init_45 (fun H locs hP hD hS => ?_)
  have hP : va_P D zcl ((h0, .inr (0, [.ref q1, .ref q2, .ref q3, .ref q4, .null, .null, .null])) :: (((wt ++ ws) ++ wc) ++ wz)) H := hP
  have hD : va_D A ((h0, .inr (0, [.ref q1, .ref q2, .ref q3, .ref q4, .null, .null, .null])) :: (((wt ++ ws) ++ wc) ++ wz)) := hD
  refine lv_aload_n X.1 X.2.1 d_q_init_48 rfl (hl.2.2.2.2 0 h0 rfl) ?_
  refine c_new (ci := 5) (fs := [.null, .int 0]) X hG hP hD hS hA CK_q_37 IN_5 II_5 rfl zty5 zok5 (by decide +kernel) (by show _ ≤ 180; omega) (by show _ ≤ 1074; omega) d_q_init_49 (fun q5 H hP hD hS => ?_)
  refine W.widen (k := 91) (n := 385) (by omega) (by omega) ?_
  refine lv_dup X.1 X.2.1 d_q_init_52 rfl ?_
  refine c_call i_b_init MI_b_init X hG LK_q_39 ⟨by decide, by decide⟩ hP hD hS hA hl.2.1 (Nat.le_of_ble_eq_true rfl) d_q_init_53 (by show _ ≤ 180; omega) (by show _ ≤ 1074; omega) (fun wb H locs hp_b hP hD hS => ?_)
  refine W.widen (k := 172) (n := 745) (by omega) (by omega) ?_
  have hP : va_P D zcl ((h0, .inr (0, [.ref q1, .ref q2, .ref q3, .ref q4, .null, .null, .null])) :: ((((wt ++ ws) ++ wc) ++ wz) ++ wb)) H := hP
  have hD : va_D A ((h0, .inr (0, [.ref q1, .ref q2, .ref q3, .ref q4, .null, .null, .null])) :: ((((wt ++ ws) ++ wc) ++ wz) ++ wb)) := hD
  refine c_putF X hnm hG hP hD hS FL_q_40 (fun C T N h => by cases h; exact ⟨rfl, rfl, tb 231 (by decide +kernel) rfl, .object "QuantisedLists$EntryTable", by decide +kernel, fun b => ⟨rfl, rfl⟩⟩) 0 rfl (Nat.le_of_ble_eq_true rfl) d_q_init_56 (fun H locs hP hD hS => ?_)
  have hP : va_P D zcl ((h0, .inr (0, [.ref q1, .ref q2, .ref q3, .ref q4, .ref q5, .null, .null])) :: ((((wt ++ ws) ++ wc) ++ wz) ++ wb)) H := hP
  have hD : va_D A ((h0, .inr (0, [.ref q1, .ref q2, .ref q3, .ref q4, .ref q5, .null, .null])) :: ((((wt ++ ws) ++ wc) ++ wz) ++ wb)) := hD
  refine lv_aload_n X.1 X.2.1 d_q_init_59 rfl (hl.2.2.2.2 0 h0 rfl) ?_
  refine c_new (ci := 6) (fs := [.null, .null, .null, .null, .null, .int 0, .int 0, .int 0, .int 0]) X hG hP hD hS hA CK_q_44 IN_6 II_6 rfl zty6 zok6 (by decide +kernel) (by show _ ≤ 180; omega) (by show _ ≤ 1074; omega) d_q_init_60 (fun q6 H hP hD hS => ?_)
  refine W.widen (k := 173) (n := 754) (by omega) (by omega) ?_
  refine lv_dup X.1 X.2.1 d_q_init_63 rfl ?_
  refine c_call i_f_init MI_f_init X hG LK_q_46 ⟨by decide, by decide⟩ hP hD hS hA hl.2.1 (Nat.le_of_ble_eq_true rfl) d_q_init_64 (by show _ ≤ 180; omega) (by show _ ≤ 1074; omega) (fun wf H locs hp_f hP hD hS => ?_)
  refine W.widen (k := 178) (n := 822) (by omega) (by omega) ?_
  have hP : va_P D zcl ((h0, .inr (0, [.ref q1, .ref q2, .ref q3, .ref q4, .ref q5, .null, .null])) :: (((((wt ++ ws) ++ wc) ++ wz) ++ wb) ++ wf)) H := hP
  have hD : va_D A ((h0, .inr (0, [.ref q1, .ref q2, .ref q3, .ref q4, .ref q5, .null, .null])) :: (((((wt ++ ws) ++ wc) ++ wz) ++ wb) ++ wf)) := hD
  refine c_putF X hnm hG hP hD hS FL_q_47 (fun C T N h => by cases h; exact ⟨rfl, rfl, tb 232 (by decide +kernel) rfl, .object "QuantisedLists$Finder", by decide +kernel, fun b => ⟨rfl, rfl⟩⟩) 0 rfl (Nat.le_of_ble_eq_true rfl) d_q_init_67 (fun H locs hP hD hS => ?_)
  have hP : va_P D zcl ((h0, .inr (0, [.ref q1, .ref q2, .ref q3, .ref q4, .ref q5, .ref q6, .null])) :: (((((wt ++ ws) ++ wc) ++ wz) ++ wb) ++ wf)) H := hP
  have hD : va_D A ((h0, .inr (0, [.ref q1, .ref q2, .ref q3, .ref q4, .ref q5, .ref q6, .null])) :: (((((wt ++ ws) ++ wc) ++ wz) ++ wb) ++ wf)) := hD
  refine lv_aload_n X.1 X.2.1 d_q_init_70 rfl (hl.2.2.2.2 0 h0 rfl) ?_
  refine c_new (ci := 7) (fs := [.null, .int 0]) X hG hP hD hS hA CK_q_51 IN_7 II_7 rfl zty7 zok7 (by decide +kernel) (by show _ ≤ 180; omega) (by show _ ≤ 1074; omega) d_q_init_71 (fun q7 H hP hD hS => ?_)
  refine W.widen (k := 179) (n := 824) (by omega) (by omega) ?_
  refine lv_dup X.1 X.2.1 d_q_init_74 rfl ?_
  refine c_call i_y_init MI_y_init X hG LK_q_53 ⟨by decide, by decide⟩ hP hD hS hA hl.2.1 (Nat.le_of_ble_eq_true rfl) d_q_init_75 (by show _ ≤ 180; omega) (by show _ ≤ 1074; omega) (fun wy H locs hp_y hP hD hS => ?_)
  refine W.widen (k := 180) (n := 1074) (by omega) (by omega) ?_
  have hP : va_P D zcl ((h0, .inr (0, [.ref q1, .ref q2, .ref q3, .ref q4, .ref q5, .ref q6, .null])) :: ((((((wt ++ ws) ++ wc) ++ wz) ++ wb) ++ wf) ++ wy)) H := hP
  have hD : va_D A ((h0, .inr (0, [.ref q1, .ref q2, .ref q3, .ref q4, .ref q5, .ref q6, .null])) :: ((((((wt ++ ws) ++ wc) ++ wz) ++ wb) ++ wf) ++ wy)) := hD
  refine c_putF X hnm hG hP hD hS FL_q_54 (fun C T N h => by cases h; exact ⟨rfl, rfl, tb 233 (by decide +kernel) rfl, .object "QuantisedLists$ByteFile", by decide +kernel, fun b => ⟨rfl, rfl⟩⟩) 0 rfl (Nat.le_of_ble_eq_true rfl) d_q_init_78 (fun H locs hP hD hS => ?_)
  have hP : va_P D zcl ((h0, .inr (0, [.ref q1, .ref q2, .ref q3, .ref q4, .ref q5, .ref q6, .ref q7])) :: ((((((wt ++ ws) ++ wc) ++ wz) ++ wb) ++ wf) ++ wy)) H := hP
  have hD : va_D A ((h0, .inr (0, [.ref q1, .ref q2, .ref q3, .ref q4, .ref q5, .ref q6, .ref q7])) :: ((((((wt ++ ws) ++ wc) ++ wz) ++ wb) ++ wf) ++ wy)) := hD
  exact c_end X rfl hP hD hS ⟨(fun i => [0, q1, q2, q3, q4, q5, q6, q7].getD i 0), wt, ws, wc, wz, wb, wf, wy, hp_t, hp_s, hp_c, hp_z, hp_b, hp_f, hp_y, rfl⟩ d_q_init_81 rfl rfl
