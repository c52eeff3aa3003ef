set_option maxRecDepth 100000 in
set_option maxHeartbeats 4000000 in
theorem c_j_abs (S : St) (v : Int32) : Ev M_j_abs [.int v] S (fun v9 S' => v9 = some (.int (absI v)) ∧ S' = S) := by
  refine Ev.of MF_j_abs (all_cat rfl) (Nat.le_of_ble_eq_true rfl) ?_
  show Wp M_j_abs 0 [.int v] [] _ _
  refine w_iload_n d_j_abs_0 rfl ?_
  refine w_if_ge 9 d_j_abs_1 (by decide) (fun h1 => ?_) (fun h1 => ?_)
  · refine w_iload_n d_j_abs_9 rfl ?_
    refine w_iret (st := []) rfl d_j_abs_10 ?_
    exact ⟨by unfold absI; rw [if_pos h1], rfl⟩
  · refine w_iload_n d_j_abs_4 rfl ?_
    refine w_ineg d_j_abs_5 ?_
    refine w_goto 10 d_j_abs_6 (by decide) ?_
    refine w_iret (st := []) rfl d_j_abs_10 ?_
    exact ⟨by unfold absI; rw [if_neg h1], rfl⟩
set_option maxRecDepth 100000 in
set_option maxHeartbeats 4000000 in
theorem c_j_min (S : St) (v w : Int32) : Ev M_j_min [.int v, .int w] S (fun v9 S' => v9 = some (.int (if w < v then w else v)) ∧ S' = S) := by
  refine Ev.of MF_j_min (all_cat rfl) (Nat.le_of_ble_eq_true rfl) ?_
  show Wp M_j_min 0 [.int v, .int w] [] _ _
  refine w_iload_n d_j_min_0 rfl ?_
  refine w_iload_n d_j_min_1 rfl ?_
  refine w_icmp_gt 9 d_j_min_2 (by decide) (fun h2 => ?_) (fun h2 => ?_)
  · refine w_iload_n d_j_min_9 rfl ?_
    refine w_iret (st := []) rfl d_j_min_10 ?_
    exact ⟨by rw [if_pos h2], rfl⟩
  · refine w_iload_n d_j_min_5 rfl ?_
    refine w_goto 10 d_j_min_6 (by decide) ?_
    refine w_iret (st := []) rfl d_j_min_10 ?_
    exact ⟨by rw [if_neg h2], rfl⟩
set_option maxRecDepth 100000 in
set_option maxHeartbeats 4000000 in
theorem c_j_max (S : St) (v w : Int32) : Ev M_j_max [.int v, .int w] S (fun v9 S' => v9 = some (.int (if v < w then w else v)) ∧ S' = S) := by
  refine Ev.of MF_j_max (all_cat rfl) (Nat.le_of_ble_eq_true rfl) ?_
  show Wp M_j_max 0 [.int v, .int w] [] _ _
  refine w_iload_n d_j_max_0 rfl ?_
  refine w_iload_n d_j_max_1 rfl ?_
  refine w_icmp_lt 9 d_j_max_2 (by decide) (fun h2 => ?_) (fun h2 => ?_)
  · refine w_iload_n d_j_max_9 rfl ?_
    refine w_iret (st := []) rfl d_j_max_10 ?_
    exact ⟨by rw [if_pos h2], rfl⟩
  · refine w_iload_n d_j_max_5 rfl ?_
    refine w_goto 10 d_j_max_6 (by decide) ?_
    refine w_iret (st := []) rfl d_j_max_10 ?_
    exact ⟨by rw [if_neg h2], rfl⟩
set_option maxRecDepth 100000 in
set_option maxHeartbeats 4000000 in
theorem c_j_floorDiv (S : St) (v w : Int32) (hw : ¬ w = 0) : Ev M_j_floorDiv [.int v, .int w] S (fun v9 S' => v9 = some (.int (fdv v w)) ∧ S' = S) := by
  refine Ev.of MF_j_floorDiv (all_cat rfl) (Nat.le_of_ble_eq_true rfl) ?_
  show Wp M_j_floorDiv 0 [.int v, .int w, .null] [] _ _
  refine w_iload_n d_j_floorDiv_0 rfl ?_
  refine w_iload_n d_j_floorDiv_1 rfl ?_
  refine w_idiv d_j_floorDiv_2 (hw) ?_
  refine w_istore_n d_j_floorDiv_3 (Nat.le_of_ble_eq_true rfl) ?_
  refine w_iload_n d_j_floorDiv_4 rfl ?_
  refine w_iload_n d_j_floorDiv_5 rfl ?_
  refine w_ixor d_j_floorDiv_6 ?_
  refine w_if_ge 21 d_j_floorDiv_7 (by decide) (fun h7 => ?_) (fun h7 => ?_)
  · refine w_iload_n d_j_floorDiv_21 rfl ?_
    refine w_iret (st := []) rfl d_j_floorDiv_22 ?_
    exact ⟨by unfold fdv; rw [if_neg (Int32.not_lt.mpr h7)], rfl⟩
  · refine w_iload_n d_j_floorDiv_10 rfl ?_
    refine w_iload_n d_j_floorDiv_11 rfl ?_
    refine w_imul d_j_floorDiv_12 ?_
    refine w_iload_n d_j_floorDiv_13 rfl ?_
    refine w_icmp_eq 21 d_j_floorDiv_14 (by decide) (fun h14 => ?_) (fun h14 => ?_)
    · refine w_iload_n d_j_floorDiv_21 rfl ?_
      refine w_iret (st := []) rfl d_j_floorDiv_22 ?_
      exact ⟨by unfold fdv; rw [if_pos (Int32.not_le.mp h7), if_pos h14], rfl⟩
    · refine w_iload_n d_j_floorDiv_17 rfl ?_
      refine w_iconst (v := nI 1) d_j_floorDiv_18 (by decide +kernel) ?_
      refine w_isub d_j_floorDiv_19 ?_
      refine w_iret (st := []) rfl d_j_floorDiv_20 ?_
      exact ⟨by unfold fdv; rw [if_pos (Int32.not_le.mp h7), if_neg h14], rfl⟩
set_option maxRecDepth 100000 in
set_option maxHeartbeats 4000000 in
theorem c_t_isStep (S : St) (v : Int32) : Ev M_t_isStep [.int v] S (fun v9 S' => v9 = some (.int (bI (decide (¬ v = 0 ∧ (-4 ≤ v ∧ v ≤ nI 4))))) ∧ S' = S) := by
  refine Ev.of MF_t_isStep (all_cat rfl) (Nat.le_of_ble_eq_true rfl) ?_
  show Wp M_t_isStep 0 [.int v] [] _ _
  refine w_iload_n d_t_isStep_0 rfl ?_
  refine w_if_eq 18 d_t_isStep_1 (by decide) (fun h1 => ?_) (fun h1 => ?_)
  · refine w_iconst (v := nI 0) d_t_isStep_18 (by decide +kernel) ?_
    refine w_zret (st := []) rfl d_t_isStep_19 (by decide) ?_
    exact ⟨rb0 (decide_eq_false (fun q => q.1 h1)), rfl⟩
  · refine w_iload_n d_t_isStep_4 rfl ?_
    refine w_bipush (v := -4) d_t_isStep_5 (by decide +kernel) ?_
    refine w_iconst (v := nI 4) d_t_isStep_7 (by decide +kernel) ?_
    refine w_callS3 (N := M_q_isWithin) d_t_isStep_8 LK_t_23 MF_q_isWithin MS_q_isWithin NP_q_isWithin (by decide) rfl (Nat.le_of_ble_eq_true rfl) ?_
    refine Ev.det (c_q_isWithin _ _ _ _) ?_
    refine w_if_eqB 18 d_t_isStep_11 (by decide) (fun h11 => ?_) (fun h11 => ?_)
    · refine w_iconst (v := nI 0) d_t_isStep_18 (by decide +kernel) ?_
      refine w_zret (st := []) rfl d_t_isStep_19 (by decide) ?_
      exact ⟨rb0 (decide_eq_false (fun q => of_decide_eq_false h11 q.2)), rfl⟩
    · refine w_iconst (v := nI 1) d_t_isStep_14 (by decide +kernel) ?_
      refine w_goto 19 d_t_isStep_15 (by decide) ?_
      refine w_zret (st := []) rfl d_t_isStep_19 (by decide) ?_
      exact ⟨rb1 (decide_eq_true ⟨h1, of_decide_eq_true h11⟩), rfl⟩
set_option maxRecDepth 100000 in
set_option maxHeartbeats 4000000 in
theorem c_t_axisBit (S : St) (v : Int32) : Ev M_t_axisBit [.int v] S (fun v9 S' => v9 = some (.int (nI 1 <<< (absI v &&& 31))) ∧ S' = S) := by
  refine Ev.of MF_t_axisBit (all_cat rfl) (Nat.le_of_ble_eq_true rfl) ?_
  show Wp M_t_axisBit 0 [.int v] [] _ _
  refine w_iconst (v := nI 1) d_t_axisBit_0 (by decide +kernel) ?_
  refine w_iload_n d_t_axisBit_1 rfl ?_
  refine w_callS1 (N := M_j_abs) d_t_axisBit_2 LK_t_27 MF_j_abs MS_j_abs NP_j_abs (by decide) rfl (Nat.le_of_ble_eq_true rfl) ?_
  refine Ev.det (c_j_abs _ _) ?_
  refine w_ishl d_t_axisBit_5 ?_
  refine w_iret (st := []) rfl d_t_axisBit_6 ?_
  exact ⟨rfl, rfl⟩
theorem step_cases {v : Int32} (h : ¬ v = 0 ∧ (-4 ≤ v ∧ v ≤ nI 4)) : v = 1 ∨ v = 2 ∨ v = 3 ∨ v = 4 ∨ v = -1 ∨ v = -2 ∨ v = -3 ∨ v = -4 := by
  obtain ⟨h0, h1, h2⟩ := h
  rw [Int32.le_iff_toInt_le] at h1 h2
  have a1 : (-4 : Int32).toInt = -4 := by decide
  have a2 : (nI 4 : Int32).toInt = 4 := by decide
  rw [a1] at h1
  rw [a2] at h2
  have h3 : v.toInt ≠ 0 := fun q => h0 (Int32.toInt_inj.mp (by rw [q]; decide))
  have h4 : v.toInt = 1 ∨ v.toInt = 2 ∨ v.toInt = 3 ∨ v.toInt = 4 ∨ v.toInt = -1 ∨ v.toInt = -2 ∨ v.toInt = -3 ∨ v.toInt = -4 := by omega
  rcases h4 with q | q | q | q | q | q | q | q
  · exact Or.inl (Int32.toInt_inj.mp (by rw [q]; decide))
  · exact Or.inr (Or.inl (Int32.toInt_inj.mp (by rw [q]; decide)))
  · exact Or.inr (Or.inr (Or.inl (Int32.toInt_inj.mp (by rw [q]; decide))))
  · exact Or.inr (Or.inr (Or.inr (Or.inl (Int32.toInt_inj.mp (by rw [q]; decide)))))
  · exact Or.inr (Or.inr (Or.inr (Or.inr (Or.inl (Int32.toInt_inj.mp (by rw [q]; decide))))))
  · exact Or.inr (Or.inr (Or.inr (Or.inr (Or.inr (Or.inl (Int32.toInt_inj.mp (by rw [q]; decide)))))))
  · exact Or.inr (Or.inr (Or.inr (Or.inr (Or.inr (Or.inr (Or.inl (Int32.toInt_inj.mp (by rw [q]; decide))))))))
  · exact Or.inr (Or.inr (Or.inr (Or.inr (Or.inr (Or.inr (Or.inr (Int32.toInt_inj.mp (by rw [q]; decide))))))))
theorem bitOf_step {v : Int32} (h : ¬ v = 0 ∧ (-4 ≤ v ∧ v ≤ nI 4)) : bitOf v = nI 1 <<< (absI v &&& 31) := by
  rcases step_cases h with rfl | rfl | rfl | rfl | rfl | rfl | rfl | rfl <;> decide +kernel
theorem bitOf_no {v : Int32} (h : ¬ (¬ v = 0 ∧ (-4 ≤ v ∧ v ≤ nI 4))) : bitOf v = 0 := by
  unfold bitOf
  have e4 : (nI 4 : Int32) = 4 := by decide
  rw [e4] at h
  have k1 : ¬ (1 ≤ v ∧ v ≤ 4) := fun q => h ⟨fun z => by rw [z] at q; exact absurd q.1 (by decide), Int32.le_trans (by decide) q.1, q.2⟩
  have k2 : ¬ (v ≤ -1 ∧ -4 ≤ v) := fun q => h ⟨fun z => by rw [z] at q; exact absurd q.1 (by decide), q.2, Int32.le_trans q.1 (by decide)⟩
  rw [if_neg k1, if_neg k2]
theorem bitOf_5 (v : Int32) : bitOf v = 0 ∨ bitOf v = 2 ∨ bitOf v = 4 ∨ bitOf v = 8 ∨ bitOf v = 16 := by
  by_cases h : ¬ v = 0 ∧ (-4 ≤ v ∧ v ≤ nI 4)
  · rcases step_cases h with rfl | rfl | rfl | rfl | rfl | rfl | rfl | rfl <;> decide +kernel
  · exact Or.inl (bitOf_no h)
theorem or3 : ∀ a ∈ ([0, 2, 4, 8, 16] : List Int32), ∀ b ∈ ([0, 2, 4, 8, 16] : List Int32), ∀ c ∈ ([0, 2, 4, 8, 16] : List Int32), ¬ (0 ||| a ||| b ||| c = 30) ∧ ¬ (a ||| 0 ||| b ||| c = 30) ∧ ¬ (a ||| b ||| 0 ||| c = 30) ∧ ¬ (a ||| b ||| c ||| 0 = 30) := by decide +kernel
theorem bitOf_mem (v : Int32) : bitOf v ∈ ([0, 2, 4, 8, 16] : List Int32) := by
  rcases bitOf_5 v with h | h | h | h | h <;> rw [h] <;> decide
theorem turn_steps {a b c d : Int32} (h : turnOK a b c d = true) : (¬ a = 0 ∧ (-4 ≤ a ∧ a ≤ nI 4)) ∧ (¬ b = 0 ∧ (-4 ≤ b ∧ b ≤ nI 4)) ∧ (¬ c = 0 ∧ (-4 ≤ c ∧ c ≤ nI 4)) ∧ (¬ d = 0 ∧ (-4 ≤ d ∧ d ≤ nI 4)) := by
  have h := of_decide_eq_true h
  refine ⟨?_, ?_, ?_, ?_⟩
  · exact Decidable.byContradiction (fun q => by rw [bitOf_no q] at h; exact (or3 _ (bitOf_mem b) _ (bitOf_mem c) _ (bitOf_mem d)).1 h)
  · exact Decidable.byContradiction (fun q => by rw [bitOf_no q] at h; exact (or3 _ (bitOf_mem a) _ (bitOf_mem c) _ (bitOf_mem d)).2.1 h)
  · exact Decidable.byContradiction (fun q => by rw [bitOf_no q] at h; exact (or3 _ (bitOf_mem a) _ (bitOf_mem b) _ (bitOf_mem d)).2.2.1 h)
  · exact Decidable.byContradiction (fun q => by rw [bitOf_no q] at h; exact (or3 _ (bitOf_mem a) _ (bitOf_mem b) _ (bitOf_mem c)).2.2.2 h)
theorem step_ok {v : Int32} (h : ¬ v = 0 ∧ (-4 ≤ v ∧ v ≤ nI 4)) : okStep v := by
  rcases step_cases h with rfl | rfl | rfl | rfl | rfl | rfl | rfl | rfl
  · exact ⟨0, by decide, Or.inl (by decide)⟩
  · exact ⟨1, by decide, Or.inl (by decide)⟩
  · exact ⟨2, by decide, Or.inl (by decide)⟩
  · exact ⟨3, by decide, Or.inl (by decide)⟩
  · exact ⟨0, by decide, Or.inr (by decide)⟩
  · exact ⟨1, by decide, Or.inr (by decide)⟩
  · exact ⟨2, by decide, Or.inr (by decide)⟩
  · exact ⟨3, by decide, Or.inr (by decide)⟩
set_option maxRecDepth 100000 in
set_option maxHeartbeats 4000000 in
theorem c_t_allows (S : St) (a b c d : Int32) : Ev M_t_allows [.int a, .int b, .int c, .int d] S (fun v9 S' => v9 = some (.int (bI (turnOK a b c d))) ∧ S' = S) := by
  refine Ev.of MF_t_allows (all_cat rfl) (Nat.le_of_ble_eq_true rfl) ?_
  show Wp M_t_allows 0 [.int a, .int b, .int c, .int d] [] _ _
  refine w_iload_n d_t_allows_0 rfl ?_
  refine w_callS1 (N := M_t_isStep) d_t_allows_1 LK_t_15 MF_t_isStep MS_t_isStep NP_t_isStep (by decide) rfl (Nat.le_of_ble_eq_true rfl) ?_
  refine Ev.det (c_t_isStep _ _) ?_
  refine w_if_eqB 28 d_t_allows_4 (by decide) (fun h4 => ?_) (fun h4 => ?_)
  · refine w_iconst (v := nI 0) d_t_allows_28 (by decide +kernel) ?_
    refine w_zret (st := []) rfl d_t_allows_29 (by decide) ?_
    exact ⟨rb0 (Bool.eq_false_iff.mpr (fun q => of_decide_eq_false h4 (turn_steps q).1)), rfl⟩
  · refine w_iload_n d_t_allows_7 rfl ?_
    refine w_callS1 (N := M_t_isStep) d_t_allows_8 LK_t_15 MF_t_isStep MS_t_isStep NP_t_isStep (by decide) rfl (Nat.le_of_ble_eq_true rfl) ?_
    refine Ev.det (c_t_isStep _ _) ?_
    refine w_if_eqB 28 d_t_allows_11 (by decide) (fun h11 => ?_) (fun h11 => ?_)
    · refine w_iconst (v := nI 0) d_t_allows_28 (by decide +kernel) ?_
      refine w_zret (st := []) rfl d_t_allows_29 (by decide) ?_
      exact ⟨rb0 (Bool.eq_false_iff.mpr (fun q => of_decide_eq_false h11 (turn_steps q).2.1)), rfl⟩
    · refine w_iload_n d_t_allows_14 rfl ?_
      refine w_callS1 (N := M_t_isStep) d_t_allows_15 LK_t_15 MF_t_isStep MS_t_isStep NP_t_isStep (by decide) rfl (Nat.le_of_ble_eq_true rfl) ?_
      refine Ev.det (c_t_isStep _ _) ?_
      refine w_if_eqB 28 d_t_allows_18 (by decide) (fun h18 => ?_) (fun h18 => ?_)
      · refine w_iconst (v := nI 0) d_t_allows_28 (by decide +kernel) ?_
        refine w_zret (st := []) rfl d_t_allows_29 (by decide) ?_
        exact ⟨rb0 (Bool.eq_false_iff.mpr (fun q => of_decide_eq_false h18 (turn_steps q).2.2.1)), rfl⟩
      · refine w_iload_n d_t_allows_21 rfl ?_
        refine w_callS1 (N := M_t_isStep) d_t_allows_22 LK_t_15 MF_t_isStep MS_t_isStep NP_t_isStep (by decide) rfl (Nat.le_of_ble_eq_true rfl) ?_
        refine Ev.det (c_t_isStep _ _) ?_
        refine w_if_neB 30 d_t_allows_25 (by decide) (fun h25 => ?_) (fun h25 => ?_)
        · refine w_iload_n d_t_allows_30 rfl ?_
          refine w_callS1 (N := M_t_axisBit) d_t_allows_31 LK_t_19 MF_t_axisBit MS_t_axisBit NP_t_axisBit (by decide) rfl (Nat.le_of_ble_eq_true rfl) ?_
          refine Ev.det (c_t_axisBit _ _) ?_
          refine w_iload_n d_t_allows_34 rfl ?_
          refine w_callS1 (N := M_t_axisBit) d_t_allows_35 LK_t_19 MF_t_axisBit MS_t_axisBit NP_t_axisBit (by decide) rfl (Nat.le_of_ble_eq_true rfl) ?_
          refine Ev.det (c_t_axisBit _ _) ?_
          refine w_ior d_t_allows_38 ?_
          refine w_iload_n d_t_allows_39 rfl ?_
          refine w_callS1 (N := M_t_axisBit) d_t_allows_40 LK_t_19 MF_t_axisBit MS_t_axisBit NP_t_axisBit (by decide) rfl (Nat.le_of_ble_eq_true rfl) ?_
          refine Ev.det (c_t_axisBit _ _) ?_
          refine w_ior d_t_allows_43 ?_
          refine w_iload_n d_t_allows_44 rfl ?_
          refine w_callS1 (N := M_t_axisBit) d_t_allows_45 LK_t_19 MF_t_axisBit MS_t_axisBit NP_t_axisBit (by decide) rfl (Nat.le_of_ble_eq_true rfl) ?_
          refine Ev.det (c_t_axisBit _ _) ?_
          refine w_ior d_t_allows_48 ?_
          show Wp _ 49 _ _ _ _
          refine w_bipush (v := nI 30) d_t_allows_49 (by decide +kernel) ?_
          refine w_icmp_ne 58 d_t_allows_51 (by decide) (fun h51 => ?_) (fun h51 => ?_)
          · refine w_iconst (v := nI 0) d_t_allows_58 (by decide +kernel) ?_
            refine w_zret (st := []) rfl d_t_allows_59 (by decide) ?_
            refine ⟨?_, rfl⟩
            refine rb0 ?_
            unfold turnOK
            rw [bitOf_step (of_decide_eq_true h4), bitOf_step (of_decide_eq_true h11), bitOf_step (of_decide_eq_true h18), bitOf_step (of_decide_eq_true h25)]
            exact decide_eq_false h51
          · refine w_iconst (v := nI 1) d_t_allows_54 (by decide +kernel) ?_
            refine w_goto 59 d_t_allows_55 (by decide) ?_
            refine w_zret (st := []) rfl d_t_allows_59 (by decide) ?_
            refine ⟨?_, rfl⟩
            refine rb1 ?_
            unfold turnOK
            rw [bitOf_step (of_decide_eq_true h4), bitOf_step (of_decide_eq_true h11), bitOf_step (of_decide_eq_true h18), bitOf_step (of_decide_eq_true h25)]
            exact decide_eq_true h51
        · refine w_iconst (v := nI 0) d_t_allows_28 (by decide +kernel) ?_
          refine w_zret (st := []) rfl d_t_allows_29 (by decide) ?_
          exact ⟨rb0 (Bool.eq_false_iff.mpr (fun q => of_decide_eq_false h25 (turn_steps q).2.2.2)), rfl⟩
set_option maxRecDepth 100000 in
set_option maxHeartbeats 4000000 in
theorem c_t_become (S : St) (a b c d : Int32) : Ev M_t_become [.ref 1, .int a, .int b, .int c, .int d] S (fun v9 S' => v9 = none ∧ S' = setRow S 9 (pt a b c d) 4) := by
  refine Ev.of MF_t_become (all_cat rfl) (Nat.le_of_ble_eq_true rfl) ?_
  show Wp M_t_become 0 [.ref 1, .int a, .int b, .int c, .int d] [] _ _
  refine w_aload_n d_t_become_0 rfl ?_
  refine w_getR d_t_become_1 FL_t_9 (by decide) (rfl) (rfl) ?_
  refine w_iload_n d_t_become_4 rfl ?_
  refine w_iload_n d_t_become_5 rfl ?_
  refine w_iload_n d_t_become_6 rfl ?_
  refine w_iload d_t_become_7 rfl ?_
  refine w_callS5 (N := M_q_setPoint) d_t_become_9 LK_t_32 MF_q_setPoint MS_q_setPoint NP_q_setPoint (by decide) rfl (Nat.le_of_ble_eq_true rfl) ?_
  refine Ev.det (c_q_setPoint _ _ _ _ _ _ (by decide) (by decide) (by decide)) ?_
  refine w_ret (st := []) rfl d_t_become_12 ?_
  exact ⟨rfl, rfl⟩
set_option maxRecDepth 100000 in
set_option maxHeartbeats 4000000 in
theorem c_t_apply (S : St) (g u : Nat) (hg1 : g < 204) (hg2 : kd g = 0) (hg3 : ln g = 4) (hu1 : u < 204) (hu2 : kd u = 0) (hu3 : ln u = 4) (hgu : g ≠ u) (h9 : 9 ≠ u) (ho : ∀ k, k < 4 → okStep (S.1 9 k)) : Ev M_t_apply [.ref 1, .ref g, .ref u] S (fun v9 S' => v9 = none ∧ S' = setRow S u (fun k => tval (S.1 9 k) (S.1 g)) 4) := by
  refine Ev.of MF_t_apply (all_cat rfl) (Nat.le_of_ble_eq_true rfl) ?_
  show Wp M_t_apply 0 [.ref 1, .ref g, .ref u, .null, .null] [] _ _
  have hk0 : ∀ k, k ≤ 4 → ∀ (S1 : St) (x4 : Value), S1 = setRow S u (fun k => tval (S.1 9 k) (S.1 g)) k → Wp M_t_apply 2 [.ref 1, .ref g, .ref u, .int (nI k), x4] [] S1 (fun v9 S' => v9 = none ∧ S' = setRow S u (fun k => tval (S.1 9 k) (S.1 g)) 4) := by
    refine loopUp (4) (fun k hk9 hn => ?_)
    intro S1 x4 hS
    have e9 : S1.1 9 k = S.1 9 k := by rw [hS, setRow_ne h9]
    have eg : S1.1 g = S.1 g := by rw [hS, setRow_row hgu]
    refine w_iload_n d_t_apply_2 rfl ?_
    refine w_iconst (v := nI 4) d_t_apply_3 (by decide +kernel) ?_
    refine w_icmp_geN 48 d_t_apply_4 (by decide) (by omega) (by omega) (fun h4 => ?_) (fun h4 => ?_)
    · refine w_ret (st := []) rfl d_t_apply_48 ?_
      obtain rfl : k = 4 := by omega
      exact ⟨rfl, hS⟩
    · refine w_aload_n d_t_apply_7 rfl ?_
      refine w_aload_n d_t_apply_8 rfl ?_
      refine w_getR d_t_apply_9 FL_t_9 (by decide) (rfl) (rfl) ?_
      refine w_iload_n d_t_apply_12 rfl ?_
      refine w_ialdNV (v := ((S.1 9 k))) d_t_apply_13 (by decide) (rfl) (show k < 4 from (by omega)) (e9) ?_
      refine w_callS1 (N := M_j_abs) d_t_apply_14 LK_t_27 MF_j_abs MS_j_abs NP_j_abs (by decide) rfl (Nat.le_of_ble_eq_true rfl) ?_
      refine Ev.det (c_j_abs _ _) ?_
      refine w_iconst (v := nI 1) d_t_apply_17 (by decide +kernel) ?_
      refine w_isub d_t_apply_18 ?_
      refine w_iald (n := ax (S.1 9 k)) d_t_apply_19 ((okStep_ax (ho k h4)).1) (hg1) (hg2) (by have := (okStep_ax (ho k h4)).2; omega) ?_
      refine w_istore d_t_apply_20 (Nat.le_of_ble_eq_true rfl) ?_
      refine w_aload_n d_t_apply_22 rfl ?_
      show Wp _ 23 _ _ _ _
      refine w_iload_n d_t_apply_23 rfl ?_
      refine w_aload_n d_t_apply_24 rfl ?_
      refine w_getR d_t_apply_25 FL_t_9 (by decide) (rfl) (rfl) ?_
      refine w_iload_n d_t_apply_28 rfl ?_
      refine w_ialdNV (v := ((S.1 9 k))) d_t_apply_29 (by decide) (rfl) (show k < 4 from (by omega)) (e9) ?_
      refine w_if_ge 39 d_t_apply_30 (by decide) (fun h30 => ?_) (fun h30 => ?_)
      · refine w_iload d_t_apply_39 rfl ?_
        refine w_iastNP d_t_apply_41 (hu1) (hu2) (show k < ln u by rw [hu3]; omega) ?_
        refine w_iincN d_t_apply_42 rfl ?_
        refine w_goto 2 d_t_apply_45 (by decide) ?_
        refine hn h4 _ _ ?_
        subst hS
        refine setRow_s ?_
        show _ = tval (S.1 9 k) (S.1 g)
        rw [eg]
        unfold tval
        rw [if_neg (Int32.not_lt.mpr h30)]
      · refine w_iload d_t_apply_33 rfl ?_
        refine w_ineg d_t_apply_35 ?_
        refine w_goto 41 d_t_apply_36 (by decide) ?_
        refine w_iastNP d_t_apply_41 (hu1) (hu2) (show k < ln u by rw [hu3]; omega) ?_
        refine w_iincN d_t_apply_42 rfl ?_
        refine w_goto 2 d_t_apply_45 (by decide) ?_
        refine hn h4 _ _ ?_
        subst hS
        refine setRow_s ?_
        show _ = tval (S.1 9 k) (S.1 g)
        rw [eg]
        unfold tval
        rw [if_pos (Int32.not_le.mp h30)]
  refine w_iconst (v := nI 0) d_t_apply_0 (by decide +kernel) ?_
  refine w_istore_n d_t_apply_1 (Nat.le_of_ble_eq_true rfl) ?_
  exact hk0 0 (by omega) _ _ (setRow_0 _ _ _).symm
