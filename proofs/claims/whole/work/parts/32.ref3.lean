set_option maxRecDepth 100000 in
set_option maxHeartbeats 4000000 in
theorem c_m_centre (S : St) (v w : Int32) (hl : ¬ S.1 8 3 = 0 → ∃ nl, S.1 8 5 = nI nl ∧ nl ≤ 4) : Ev M_m_centre [.ref 8, .int v, .int w] S (fun v9 S' => v9 = some (.int (if (¬ S.1 8 3 = 0 ∧ (nI 0 ≤ v ∧ v ≤ S.1 8 5 - nI 1)) ∧ (nI 0 ≤ w ∧ w ≤ nI 3) then S.1 28 (4 * v.toNatClampNeg + w.toNatClampNeg) else -1000)) ∧ S' = S) := by
  refine Ev.of MF_m_centre (all_cat rfl) (Nat.le_of_ble_eq_true rfl) ?_
  show Wp M_m_centre 0 [.ref 8, .int v, .int w] [] _ _
  refine w_aload_n d_m_centre_0 rfl ?_
  refine w_getI d_m_centre_1 FL_m_92 (by decide) (rfl) (rfl) ?_
  refine w_if_eq 43 d_m_centre_4 (by decide) (fun h4 => ?_) (fun h4 => ?_)
  · refine w_sipush (v := -1000) d_m_centre_43 (by decide +kernel) ?_
    refine w_iret (st := []) rfl d_m_centre_46 ?_
    exact ⟨by rw [if_neg (fun q => q.1.1 h4)], rfl⟩
  · refine w_iload_n d_m_centre_7 rfl ?_
    refine w_iconst (v := nI 0) d_m_centre_8 (by decide +kernel) ?_
    refine w_aload_n d_m_centre_9 rfl ?_
    refine w_getI d_m_centre_10 FL_m_134 (by decide) (rfl) (rfl) ?_
    refine w_iconst (v := nI 1) d_m_centre_13 (by decide +kernel) ?_
    refine w_isub d_m_centre_14 ?_
    refine w_callS3 (N := M_m_within) d_m_centre_15 LK_m_85 MF_m_within MS_m_within NP_m_within (by decide) rfl (Nat.le_of_ble_eq_true rfl) ?_
    refine Ev.det (c_m_within _ _ _ _) ?_
    refine w_if_eqB 43 d_m_centre_18 (by decide) (fun h18 => ?_) (fun h18 => ?_)
    · refine w_sipush (v := -1000) d_m_centre_43 (by decide +kernel) ?_
      refine w_iret (st := []) rfl d_m_centre_46 ?_
      exact ⟨by rw [if_neg (fun q => of_decide_eq_false h18 q.1.2)], rfl⟩
    · refine w_iload_n d_m_centre_21 rfl ?_
      refine w_iconst (v := nI 0) d_m_centre_22 (by decide +kernel) ?_
      refine w_iconst (v := nI 3) d_m_centre_23 (by decide +kernel) ?_
      refine w_callS3 (N := M_m_within) d_m_centre_24 LK_m_85 MF_m_within MS_m_within NP_m_within (by decide) rfl (Nat.le_of_ble_eq_true rfl) ?_
      refine Ev.det (c_m_within _ _ _ _) ?_
      refine w_if_eqB 43 d_m_centre_27 (by decide) (fun h27 => ?_) (fun h27 => ?_)
      · refine w_sipush (v := -1000) d_m_centre_43 (by decide +kernel) ?_
        refine w_iret (st := []) rfl d_m_centre_46 ?_
        exact ⟨by rw [if_neg (fun q => of_decide_eq_false h27 q.2)], rfl⟩
      · have h18 := of_decide_eq_true h18
        have h27 := of_decide_eq_true h27
        obtain ⟨nl, hl1, hl2⟩ := hl h4
        obtain ⟨i, hi, rfl⟩ := in_idx (by omega) (hl1 ▸ h18)
        obtain ⟨j, -, hj, rfl⟩ := nI_in2 h27 (by decide) (by decide)
        refine w_aload_n d_m_centre_30 rfl ?_
        refine w_getR d_m_centre_31 FL_m_16 (by decide) (rfl) (rfl) ?_
        refine w_iconst (v := nI 4) d_m_centre_34 (by decide +kernel) ?_
        refine w_iload_n d_m_centre_35 rfl ?_
        refine w_imulN d_m_centre_36 ?_
        refine w_iload_n d_m_centre_37 rfl ?_
        refine w_iaddN d_m_centre_38 ?_
        refine w_ialdN d_m_centre_39 (by decide) (rfl) (show (4 * i) + j < 16 from (by omega)) ?_
        refine w_goto 46 d_m_centre_40 (by decide) ?_
        refine w_iret (st := []) rfl d_m_centre_46 ?_
        exact ⟨by rw [if_pos ⟨⟨h4, h18⟩, h27⟩, nI_clamp (by omega), nI_clamp (by omega)], rfl⟩
set_option maxRecDepth 100000 in
set_option maxHeartbeats 4000000 in
theorem c_m_word (S : St) (v w z : Int32) (hl : ¬ S.1 8 3 = 0 → ∃ nc, S.1 8 6 = nI nc ∧ nc ≤ 4) : Ev M_m_word [.ref 8, .int v, .int w, .int z] S (fun v9 S' => v9 = some (.int (if (¬ S.1 8 3 = 0 ∧ (nI 0 ≤ v ∧ v ≤ nI (parts (S.1 8 4)) - nI 1) ∧ (nI 0 ≤ w ∧ w ≤ S.1 8 6 - nI 1)) ∧ (nI 0 ≤ z ∧ z ≤ nI (msz (S.1 8 4)) - nI 1) then S.1 29 (8 * v.toNatClampNeg + 2 * w.toNatClampNeg + z.toNatClampNeg) else -1000)) ∧ S' = S) := by
  refine Ev.of MF_m_word (all_cat rfl) (Nat.le_of_ble_eq_true rfl) ?_
  show Wp M_m_word 0 [.ref 8, .int v, .int w, .int z, .null] [] _ _
  refine w_aload_n d_m_word_0 rfl ?_
  refine w_getI d_m_word_1 FL_m_92 (by decide) (rfl) (rfl) ?_
  refine w_if_eq 53 d_m_word_4 (by decide) (fun h4 => ?_) (fun h4 => ?_)
  · refine w_iconst (v := nI 0) d_m_word_53 (by decide +kernel) ?_
    refine w_istore d_m_word_54 (Nat.le_of_ble_eq_true rfl) ?_
    refine w_iload d_m_word_56 rfl ?_
    refine w_if_eqN 79 d_m_word_58 (by decide) (by omega) (fun h58 => ?_) (fun h58 => ?_)
    · refine w_sipush (v := -1000) d_m_word_79 (by decide +kernel) ?_
      refine w_iret (st := []) rfl d_m_word_82 ?_
      exact ⟨by rw [if_neg (fun q => q.1.1 h4)], rfl⟩
    · exact absurd h58 (by decide)
  · refine w_iload_n d_m_word_7 rfl ?_
    refine w_iconst (v := nI 0) d_m_word_8 (by decide +kernel) ?_
    refine w_aload_n d_m_word_9 rfl ?_
    refine w_callV0 (N := M_m_parts) d_m_word_10 LK_m_144 MF_m_parts MV_m_parts NP_m_parts (by decide) (by decide) (rfl) rfl rfl (Nat.le_of_ble_eq_true rfl) ?_
    refine Ev.det (c_m_parts S _ rfl) ?_
    refine w_iconst (v := nI 1) d_m_word_13 (by decide +kernel) ?_
    refine w_isub d_m_word_14 ?_
    refine w_callS3 (N := M_m_within) d_m_word_15 LK_m_85 MF_m_within MS_m_within NP_m_within (by decide) rfl (Nat.le_of_ble_eq_true rfl) ?_
    refine Ev.det (c_m_within _ _ _ _) ?_
    refine w_if_eqB 53 d_m_word_18 (by decide) (fun h18 => ?_) (fun h18 => ?_)
    · refine w_iconst (v := nI 0) d_m_word_53 (by decide +kernel) ?_
      refine w_istore d_m_word_54 (Nat.le_of_ble_eq_true rfl) ?_
      refine w_iload d_m_word_56 rfl ?_
      refine w_if_eqN 79 d_m_word_58 (by decide) (by omega) (fun h58 => ?_) (fun h58 => ?_)
      · refine w_sipush (v := -1000) d_m_word_79 (by decide +kernel) ?_
        refine w_iret (st := []) rfl d_m_word_82 ?_
        exact ⟨by rw [if_neg (fun q => of_decide_eq_false h18 q.1.2.1)], rfl⟩
      · exact absurd h58 (by decide)
    · refine w_iload_n d_m_word_21 rfl ?_
      refine w_iconst (v := nI 0) d_m_word_22 (by decide +kernel) ?_
      refine w_aload_n d_m_word_23 rfl ?_
      refine w_getI d_m_word_24 FL_m_137 (by decide) (rfl) (rfl) ?_
      refine w_iconst (v := nI 1) d_m_word_27 (by decide +kernel) ?_
      refine w_isub d_m_word_28 ?_
      refine w_callS3 (N := M_m_within) d_m_word_29 LK_m_85 MF_m_within MS_m_within NP_m_within (by decide) rfl (Nat.le_of_ble_eq_true rfl) ?_
      refine Ev.det (c_m_within _ _ _ _) ?_
      refine w_if_eqB 53 d_m_word_32 (by decide) (fun h32 => ?_) (fun h32 => ?_)
      · refine w_iconst (v := nI 0) d_m_word_53 (by decide +kernel) ?_
        refine w_istore d_m_word_54 (Nat.le_of_ble_eq_true rfl) ?_
        refine w_iload d_m_word_56 rfl ?_
        refine w_if_eqN 79 d_m_word_58 (by decide) (by omega) (fun h58 => ?_) (fun h58 => ?_)
        · refine w_sipush (v := -1000) d_m_word_79 (by decide +kernel) ?_
          refine w_iret (st := []) rfl d_m_word_82 ?_
          exact ⟨by rw [if_neg (fun q => of_decide_eq_false h32 q.1.2.2)], rfl⟩
        · exact absurd h58 (by decide)
      · refine w_iload_n d_m_word_35 rfl ?_
        refine w_iconst (v := nI 0) d_m_word_36 (by decide +kernel) ?_
        refine w_aload_n d_m_word_37 rfl ?_
        refine w_callV0 (N := M_m_size) d_m_word_38 LK_m_164 MF_m_size MV_m_size NP_m_size (by decide) (by decide) (rfl) rfl rfl (Nat.le_of_ble_eq_true rfl) ?_
        refine Ev.det (c_m_size S _ rfl) ?_
        refine w_iconst (v := nI 1) d_m_word_41 (by decide +kernel) ?_
        refine w_isub d_m_word_42 ?_
        refine w_callS3 (N := M_m_within) d_m_word_43 LK_m_85 MF_m_within MS_m_within NP_m_within (by decide) rfl (Nat.le_of_ble_eq_true rfl) ?_
        refine Ev.det (c_m_within _ _ _ _) ?_
        refine w_if_eqB 53 d_m_word_46 (by decide) (fun h46 => ?_) (fun h46 => ?_)
        · refine w_iconst (v := nI 0) d_m_word_53 (by decide +kernel) ?_
          refine w_istore d_m_word_54 (Nat.le_of_ble_eq_true rfl) ?_
          refine w_iload d_m_word_56 rfl ?_
          refine w_if_eqN 79 d_m_word_58 (by decide) (by omega) (fun h58 => ?_) (fun h58 => ?_)
          · refine w_sipush (v := -1000) d_m_word_79 (by decide +kernel) ?_
            refine w_iret (st := []) rfl d_m_word_82 ?_
            exact ⟨by rw [if_neg (fun q => of_decide_eq_false h46 q.2)], rfl⟩
          · exact absurd h58 (by decide)
        · have h18 := of_decide_eq_true h18
          have h32 := of_decide_eq_true h32
          have h46 := of_decide_eq_true h46
          obtain ⟨nc, hl1, hl2⟩ := hl h4
          have hpl := parts_le (S.1 8 4)
          have hwl : msz (S.1 8 4) ≤ 2 := by unfold msz; split <;> omega
          obtain ⟨i, hi, rfl⟩ := in_idx (by omega) h18
          obtain ⟨j, hj, rfl⟩ := in_idx (by omega) (hl1 ▸ h32)
          obtain ⟨k, hk, rfl⟩ := in_idx (by omega) h46
          refine w_iconst (v := nI 1) d_m_word_49 (by decide +kernel) ?_
          refine w_goto 54 d_m_word_50 (by decide) ?_
          refine w_istore d_m_word_54 (Nat.le_of_ble_eq_true rfl) ?_
          refine w_iload d_m_word_56 rfl ?_
          refine w_if_eqN 79 d_m_word_58 (by decide) (by omega) (fun h58 => ?_) (fun h58 => ?_)
          · exact absurd h58 (by decide)
          · refine w_aload_n d_m_word_61 rfl ?_
            refine w_getR d_m_word_62 FL_m_19 (by decide) (rfl) (rfl) ?_
            refine w_bipush (v := nI 8) d_m_word_65 (by decide +kernel) ?_
            refine w_iload_n d_m_word_67 rfl ?_
            refine w_imulN d_m_word_68 ?_
            refine w_iconst (v := nI 2) d_m_word_69 (by decide +kernel) ?_
            refine w_iload_n d_m_word_70 rfl ?_
            refine w_imulN d_m_word_71 ?_
            refine w_iaddN d_m_word_72 ?_
            refine w_iload_n d_m_word_73 rfl ?_
            refine w_iaddN d_m_word_74 ?_
            show Wp _ 75 _ _ _ _
            refine w_ialdN d_m_word_75 (by decide) (rfl) (show ((8 * i) + (2 * j)) + k < 32 from (by omega)) ?_
            refine w_goto 82 d_m_word_76 (by decide) ?_
            refine w_iret (st := []) rfl d_m_word_82 ?_
            exact ⟨by rw [if_pos ⟨⟨h4, h18, h32⟩, h46⟩, nI_clamp (by omega), nI_clamp (by omega), nI_clamp (by omega)], rfl⟩
set_option maxRecDepth 100000 in
set_option maxHeartbeats 4000000 in
theorem c_m_effort (S : St) (v w : Int32) : Ev M_m_effort [.ref 8, .int v, .int w] S (fun v9 S' => v9 = some (.int (bI (decide ((nI 1 ≤ v ∧ v ≤ nI 4) ∧ (nI 0 ≤ w ∧ w ≤ nI 3))))) ∧ S' = (if (nI 1 ≤ v ∧ v ≤ nI 4) ∧ (nI 0 ≤ w ∧ w ≤ nI 3) then put (put S 8 12 v) 8 13 w else S)) := by
  refine Ev.of MF_m_effort (all_cat rfl) (Nat.le_of_ble_eq_true rfl) ?_
  show Wp M_m_effort 0 [.ref 8, .int v, .int w] [] _ _
  refine w_iload_n d_m_effort_0 rfl ?_
  refine w_iconst (v := nI 1) d_m_effort_1 (by decide +kernel) ?_
  refine w_iconst (v := nI 4) d_m_effort_2 (by decide +kernel) ?_
  refine w_callS3 (N := M_m_within) d_m_effort_3 LK_m_85 MF_m_within MS_m_within NP_m_within (by decide) rfl (Nat.le_of_ble_eq_true rfl) ?_
  refine Ev.det (c_m_within _ _ _ _) ?_
  refine w_if_eqB 18 d_m_effort_6 (by decide) (fun h6 => ?_) (fun h6 => ?_)
  · refine w_iconst (v := nI 0) d_m_effort_18 (by decide +kernel) ?_
    refine w_zret (st := []) rfl d_m_effort_19 (by decide) ?_
    exact ⟨rb0 (decide_eq_false (fun q => of_decide_eq_false h6 q.1)), by rw [if_neg (fun q => of_decide_eq_false h6 q.1)]⟩
  · refine w_iload_n d_m_effort_9 rfl ?_
    refine w_iconst (v := nI 0) d_m_effort_10 (by decide +kernel) ?_
    refine w_iconst (v := nI 3) d_m_effort_11 (by decide +kernel) ?_
    refine w_callS3 (N := M_m_within) d_m_effort_12 LK_m_85 MF_m_within MS_m_within NP_m_within (by decide) rfl (Nat.le_of_ble_eq_true rfl) ?_
    refine Ev.det (c_m_within _ _ _ _) ?_
    refine w_if_neB 20 d_m_effort_15 (by decide) (fun h15 => ?_) (fun h15 => ?_)
    · refine w_aload_n d_m_effort_20 rfl ?_
      refine w_iload_n d_m_effort_21 rfl ?_
      refine w_putIP d_m_effort_22 FL_m_77 FW_8_12 (by decide) (rfl) (rfl) ?_
      refine w_aload_n d_m_effort_25 rfl ?_
      refine w_iload_n d_m_effort_26 rfl ?_
      refine w_putIP d_m_effort_27 FL_m_182 FW_8_13 (by decide) (rfl) (rfl) ?_
      refine w_iconst (v := nI 1) d_m_effort_30 (by decide +kernel) ?_
      refine w_zret (st := []) rfl d_m_effort_31 (by decide) ?_
      exact ⟨rb1 (decide_eq_true ⟨of_decide_eq_true h6, of_decide_eq_true h15⟩), by rw [if_pos ⟨of_decide_eq_true h6, of_decide_eq_true h15⟩]⟩
    · refine w_iconst (v := nI 0) d_m_effort_18 (by decide +kernel) ?_
      refine w_zret (st := []) rfl d_m_effort_19 (by decide) ?_
      exact ⟨rb0 (decide_eq_false (fun q => of_decide_eq_false h15 q.2)), by rw [if_neg (fun q => of_decide_eq_false h15 q.2)]⟩
set_option maxRecDepth 100000 in
set_option maxHeartbeats 4000000 in
theorem c_m_hit (S : St) (v : Int32) (rs : Nat) (hr : S.1 8 16 = nI rs) (hr8 : rs ≤ 8) : Ev M_m_hit [.ref 8, .int v] S (fun v9 S' => v9 = some (.int (if nI 0 ≤ v ∧ v ≤ S.1 8 16 - nI 1 then S.1 32 v.toNatClampNeg else -1)) ∧ S' = S) := by
  refine Ev.of MF_m_hit (all_cat rfl) (Nat.le_of_ble_eq_true rfl) ?_
  show Wp M_m_hit 0 [.ref 8, .int v] [] _ _
  refine w_iload_n d_m_hit_0 rfl ?_
  refine w_iconst (v := nI 0) d_m_hit_1 (by decide +kernel) ?_
  refine w_aload_n d_m_hit_2 rfl ?_
  refine w_getI d_m_hit_3 FL_m_191 (by decide) (rfl) (rfl) ?_
  refine w_iconst (v := nI 1) d_m_hit_6 (by decide +kernel) ?_
  refine w_isub d_m_hit_7 ?_
  refine w_callS3 (N := M_m_within) d_m_hit_8 LK_m_85 MF_m_within MS_m_within NP_m_within (by decide) rfl (Nat.le_of_ble_eq_true rfl) ?_
  refine Ev.det (c_m_within _ _ _ _) ?_
  refine w_if_eqB 23 d_m_hit_11 (by decide) (fun h11 => ?_) (fun h11 => ?_)
  · refine w_iconst (v := -1) d_m_hit_23 (by decide +kernel) ?_
    refine w_iret (st := []) rfl d_m_hit_24 ?_
    exact ⟨by rw [if_neg (of_decide_eq_false h11)], rfl⟩
  · have h11 := of_decide_eq_true h11
    obtain ⟨i, hi, rfl⟩ := in_idx (by omega) (hr ▸ h11)
    refine w_aload_n d_m_hit_14 rfl ?_
    refine w_getR d_m_hit_15 FL_m_29 (by decide) (rfl) (rfl) ?_
    refine w_iload_n d_m_hit_18 rfl ?_
    refine w_ialdN d_m_hit_19 (by decide) (rfl) (show i < 8 from (by omega)) ?_
    refine w_goto 24 d_m_hit_20 (by decide) ?_
    refine w_iret (st := []) rfl d_m_hit_24 ?_
    exact ⟨by rw [if_pos h11, nI_clamp (by omega)], rfl⟩
set_option maxRecDepth 100000 in
set_option maxHeartbeats 4000000 in
theorem c_m_far (S : St) (v : Int32) (rs : Nat) (hr : S.1 8 16 = nI rs) (hr8 : rs ≤ 8) : Ev M_m_far [.ref 8, .int v] S (fun v9 S' => v9 = some (.int (if nI 0 ≤ v ∧ v ≤ S.1 8 16 - nI 1 then S.1 33 v.toNatClampNeg else -1)) ∧ S' = S) := by
  refine Ev.of MF_m_far (all_cat rfl) (Nat.le_of_ble_eq_true rfl) ?_
  show Wp M_m_far 0 [.ref 8, .int v] [] _ _
  refine w_iload_n d_m_far_0 rfl ?_
  refine w_iconst (v := nI 0) d_m_far_1 (by decide +kernel) ?_
  refine w_aload_n d_m_far_2 rfl ?_
  refine w_getI d_m_far_3 FL_m_191 (by decide) (rfl) (rfl) ?_
  refine w_iconst (v := nI 1) d_m_far_6 (by decide +kernel) ?_
  refine w_isub d_m_far_7 ?_
  refine w_callS3 (N := M_m_within) d_m_far_8 LK_m_85 MF_m_within MS_m_within NP_m_within (by decide) rfl (Nat.le_of_ble_eq_true rfl) ?_
  refine Ev.det (c_m_within _ _ _ _) ?_
  refine w_if_eqB 23 d_m_far_11 (by decide) (fun h11 => ?_) (fun h11 => ?_)
  · refine w_iconst (v := -1) d_m_far_23 (by decide +kernel) ?_
    refine w_iret (st := []) rfl d_m_far_24 ?_
    exact ⟨by rw [if_neg (of_decide_eq_false h11)], rfl⟩
  · have h11 := of_decide_eq_true h11
    obtain ⟨i, hi, rfl⟩ := in_idx (by omega) (hr ▸ h11)
    refine w_aload_n d_m_far_14 rfl ?_
    refine w_getR d_m_far_15 FL_m_32 (by decide) (rfl) (rfl) ?_
    refine w_iload_n d_m_far_18 rfl ?_
    refine w_ialdN d_m_far_19 (by decide) (rfl) (show i < 8 from (by omega)) ?_
    refine w_goto 24 d_m_far_20 (by decide) ?_
    refine w_iret (st := []) rfl d_m_far_24 ?_
    exact ⟨by rw [if_pos h11, nI_clamp (by omega)], rfl⟩
set_option maxRecDepth 100000 in
set_option maxHeartbeats 4000000 in
theorem c_m_scanned (S : St) : Ev M_m_scanned [.ref 8] S (fun v9 S' => v9 = some (.int (S.1 8 17)) ∧ S' = S) := by
  refine Ev.of MF_m_scanned (all_cat rfl) (Nat.le_of_ble_eq_true rfl) ?_
  show Wp M_m_scanned 0 [.ref 8] [] _ _
  refine w_aload_n d_m_scanned_0 rfl ?_
  refine w_getI d_m_scanned_1 FL_m_185 (by decide) (rfl) (rfl) ?_
  refine w_iret (st := []) rfl d_m_scanned_4 ?_
  exact ⟨rfl, rfl⟩
set_option maxRecDepth 100000 in
set_option maxHeartbeats 4000000 in
theorem c_m_alter (S : St) (v w : Int32) (n : Nat) (hn : S.1 8 19 = nI n) (hn2 : n ≤ 250) : Ev M_m_alter [.ref 8, .int v, .int w] S (fun v9 S' => v9 = some (.int (bI (decide ((nI 0 ≤ v ∧ v ≤ nI n) ∧ ¬ v = nI 250 ∧ (nI 0 ≤ w ∧ w ≤ nI 255))))) ∧ S' = (if (nI 0 ≤ v ∧ v ≤ nI n) ∧ ¬ v = nI 250 ∧ (nI 0 ≤ w ∧ w ≤ nI 255) then (if v.toNatClampNeg = n then put (put S 34 v.toNatClampNeg w) 8 19 (nI (n + 1)) else put (put S 34 v.toNatClampNeg w) 8 19 (nI n)) else S)) := by
  refine Ev.of MF_m_alter (all_cat rfl) (Nat.le_of_ble_eq_true rfl) ?_
  show Wp M_m_alter 0 [.ref 8, .int v, .int w] [] _ _
  refine w_iload_n d_m_alter_0 rfl ?_
  refine w_iconst (v := nI 0) d_m_alter_1 (by decide +kernel) ?_
  refine w_aload_n d_m_alter_2 rfl ?_
  refine w_getIV (v := (nI n)) d_m_alter_3 FL_m_203 (by decide) (rfl) (rfl) (hn) ?_
  refine w_callS3 (N := M_m_within) d_m_alter_6 LK_m_85 MF_m_within MS_m_within NP_m_within (by decide) rfl (Nat.le_of_ble_eq_true rfl) ?_
  refine Ev.det (c_m_within _ _ _ _) ?_
  refine w_if_eqB 30 d_m_alter_9 (by decide) (fun h9 => ?_) (fun h9 => ?_)
  · refine w_iconst (v := nI 0) d_m_alter_30 (by decide +kernel) ?_
    refine w_zret (st := []) rfl d_m_alter_31 (by decide) ?_
    exact ⟨rb0 (decide_eq_false (fun q => of_decide_eq_false h9 q.1)), by rw [if_neg (fun q => of_decide_eq_false h9 q.1)]⟩
  · refine w_iload_n d_m_alter_12 rfl ?_
    refine w_sipush (v := nI 250) d_m_alter_13 (by decide +kernel) ?_
    refine w_icmp_eq 30 d_m_alter_16 (by decide) (fun h16 => ?_) (fun h16 => ?_)
    · refine w_iconst (v := nI 0) d_m_alter_30 (by decide +kernel) ?_
      refine w_zret (st := []) rfl d_m_alter_31 (by decide) ?_
      exact ⟨rb0 (decide_eq_false (fun q => q.2.1 h16)), by rw [if_neg (fun q => q.2.1 h16)]⟩
    · refine w_iload_n d_m_alter_19 rfl ?_
      refine w_iconst (v := nI 0) d_m_alter_20 (by decide +kernel) ?_
      refine w_sipush (v := nI 255) d_m_alter_21 (by decide +kernel) ?_
      refine w_callS3 (N := M_m_within) d_m_alter_24 LK_m_85 MF_m_within MS_m_within NP_m_within (by decide) rfl (Nat.le_of_ble_eq_true rfl) ?_
      refine Ev.det (c_m_within _ _ _ _) ?_
      refine w_if_neB 32 d_m_alter_27 (by decide) (fun h27 => ?_) (fun h27 => ?_)
      · have h9 := of_decide_eq_true h9
        have h27 := of_decide_eq_true h27
        obtain ⟨i, -, hi, rfl⟩ := nI_in2 h9 (by decide) (by omega)
        have hi2 : i < 250 := by rw [nI_eq (by omega) (by decide)] at h16; omega
        refine w_aload_n d_m_alter_32 rfl ?_
        refine w_getR d_m_alter_33 FL_m_35 (by decide) (rfl) (rfl) ?_
        refine w_iload_n d_m_alter_36 rfl ?_
        refine w_iload_n d_m_alter_37 rfl ?_
        refine w_iastNP d_m_alter_38 (by decide) (rfl) (show i < 250 from (by omega)) ?_
        refine w_aload_n d_m_alter_39 rfl ?_
        refine w_iload_n d_m_alter_40 rfl ?_
        refine w_aload_n d_m_alter_41 rfl ?_
        refine w_getIV (v := (nI n)) d_m_alter_42 FL_m_203 (by decide) (rfl) (rfl) (by rw [put_ne (by omega)]; exact hn) ?_
        refine w_icmp_neN 57 d_m_alter_45 (by decide) (by omega) (by omega) (fun h45 => ?_) (fun h45 => ?_)
        · refine w_aload_n d_m_alter_57 rfl ?_
          refine w_getIV (v := (nI n)) d_m_alter_58 FL_m_203 (by decide) (rfl) (rfl) (by rw [put_ne (by omega)]; exact hn) ?_
          refine w_putIP d_m_alter_61 FL_m_203 FW_8_19 (by decide) (rfl) (rfl) ?_
          refine w_iconst (v := nI 1) d_m_alter_64 (by decide +kernel) ?_
          refine w_zret (st := []) rfl d_m_alter_65 (by decide) ?_
          exact ⟨rb1 (decide_eq_true ⟨h9, h16, h27⟩), by rw [if_pos ⟨h9, h16, h27⟩, nI_clamp (by omega), if_neg h45]⟩
        · refine w_aload_n d_m_alter_48 rfl ?_
          refine w_getIV (v := (nI n)) d_m_alter_49 FL_m_203 (by decide) (rfl) (rfl) (by rw [put_ne (by omega)]; exact hn) ?_
          refine w_iconst (v := nI 1) d_m_alter_52 (by decide +kernel) ?_
          refine w_iaddN d_m_alter_53 ?_
          refine w_goto 61 d_m_alter_54 (by decide) ?_
          refine w_putIP d_m_alter_61 FL_m_203 FW_8_19 (by decide) (rfl) (rfl) ?_
          refine w_iconst (v := nI 1) d_m_alter_64 (by decide +kernel) ?_
          refine w_zret (st := []) rfl d_m_alter_65 (by decide) ?_
          exact ⟨rb1 (decide_eq_true ⟨h9, h16, h27⟩), by rw [if_pos ⟨h9, h16, h27⟩, nI_clamp (by omega), if_pos h45]⟩
      · refine w_iconst (v := nI 0) d_m_alter_30 (by decide +kernel) ?_
        refine w_zret (st := []) rfl d_m_alter_31 (by decide) ?_
        exact ⟨rb0 (decide_eq_false (fun q => of_decide_eq_false h27 q.2.2)), by rw [if_neg (fun q => of_decide_eq_false h27 q.2.2)]⟩
set_option maxRecDepth 100000 in
set_option maxHeartbeats 4000000 in
theorem c_m_cut (S : St) (v : Int32) (n : Nat) (hn : S.1 8 19 = nI n) : Ev M_m_cut [.ref 8, .int v] S (fun v9 S' => v9 = some (.int (bI (decide (nI 0 ≤ v ∧ v ≤ nI n)))) ∧ S' = (if nI 0 ≤ v ∧ v ≤ nI n then put S 8 19 v else S)) := by
  refine Ev.of MF_m_cut (all_cat rfl) (Nat.le_of_ble_eq_true rfl) ?_
  show Wp M_m_cut 0 [.ref 8, .int v] [] _ _
  refine w_iload_n d_m_cut_0 rfl ?_
  refine w_iconst (v := nI 0) d_m_cut_1 (by decide +kernel) ?_
  refine w_aload_n d_m_cut_2 rfl ?_
  refine w_getIV (v := (nI n)) d_m_cut_3 FL_m_203 (by decide) (rfl) (rfl) (hn) ?_
  refine w_callS3 (N := M_m_within) d_m_cut_6 LK_m_85 MF_m_within MS_m_within NP_m_within (by decide) rfl (Nat.le_of_ble_eq_true rfl) ?_
  refine Ev.det (c_m_within _ _ _ _) ?_
  refine w_if_neB 14 d_m_cut_9 (by decide) (fun h9 => ?_) (fun h9 => ?_)
  · refine w_aload_n d_m_cut_14 rfl ?_
    refine w_iload_n d_m_cut_15 rfl ?_
    refine w_putIP d_m_cut_16 FL_m_203 FW_8_19 (by decide) (rfl) (rfl) ?_
    refine w_iconst (v := nI 1) d_m_cut_19 (by decide +kernel) ?_
    refine w_zret (st := []) rfl d_m_cut_20 (by decide) ?_
    exact ⟨rb1 h9, by rw [if_pos (of_decide_eq_true h9)]⟩
  · refine w_iconst (v := nI 0) d_m_cut_12 (by decide +kernel) ?_
    refine w_zret (st := []) rfl d_m_cut_13 (by decide) ?_
    exact ⟨rb0 h9, by rw [if_neg (of_decide_eq_false h9)]⟩
set_option maxRecDepth 100000 in
set_option maxHeartbeats 4000000 in
theorem c_m_byteAt (S : St) (v : Int32) (n : Nat) (hn : S.1 8 19 = nI n) (hn2 : n ≤ 250) : Ev M_m_byteAt [.ref 8, .int v] S (fun v9 S' => v9 = some (.int (if nI 0 ≤ v ∧ v ≤ nI n - nI 1 then S.1 34 v.toNatClampNeg else -1)) ∧ S' = S) := by
  refine Ev.of MF_m_byteAt (all_cat rfl) (Nat.le_of_ble_eq_true rfl) ?_
  show Wp M_m_byteAt 0 [.ref 8, .int v] [] _ _
  refine w_iload_n d_m_byteAt_0 rfl ?_
  refine w_iconst (v := nI 0) d_m_byteAt_1 (by decide +kernel) ?_
  refine w_aload_n d_m_byteAt_2 rfl ?_
  refine w_getIV (v := (nI n)) d_m_byteAt_3 FL_m_203 (by decide) (rfl) (rfl) (hn) ?_
  refine w_iconst (v := nI 1) d_m_byteAt_6 (by decide +kernel) ?_
  refine w_isub d_m_byteAt_7 ?_
  refine w_callS3 (N := M_m_within) d_m_byteAt_8 LK_m_85 MF_m_within MS_m_within NP_m_within (by decide) rfl (Nat.le_of_ble_eq_true rfl) ?_
  refine Ev.det (c_m_within _ _ _ _) ?_
  refine w_if_eqB 23 d_m_byteAt_11 (by decide) (fun h11 => ?_) (fun h11 => ?_)
  · refine w_iconst (v := -1) d_m_byteAt_23 (by decide +kernel) ?_
    refine w_iret (st := []) rfl d_m_byteAt_24 ?_
    exact ⟨by rw [if_neg (of_decide_eq_false h11)], rfl⟩
  · have h11 := of_decide_eq_true h11
    obtain ⟨i, hi, rfl⟩ := in_idx (by omega) h11
    refine w_aload_n d_m_byteAt_14 rfl ?_
    refine w_getR d_m_byteAt_15 FL_m_35 (by decide) (rfl) (rfl) ?_
    refine w_iload_n d_m_byteAt_18 rfl ?_
    refine w_ialdN d_m_byteAt_19 (by decide) (rfl) (show i < 250 from (by omega)) ?_
    refine w_goto 24 d_m_byteAt_20 (by decide) ?_
    refine w_iret (st := []) rfl d_m_byteAt_24 ?_
    exact ⟨by rw [if_pos h11, nI_clamp (by omega)], rfl⟩
/-- what the reference's point registers may hold after a call -/
def FrG (S S' : St) : Prop := S'.2 = S.2 ∧ ∀ a i, ¬ (a = 35 ∨ a = 36 ∨ a = 37) → S'.1 a i = S.1 a i
theorem FrG.rf (S : St) : FrG S S := ⟨rfl, fun _ _ _ => rfl⟩
theorem FrG.tr {S S1 S2 : St} (h : FrG S S1) (h2 : FrG S1 S2) : FrG S S2 := ⟨h2.1.trans h.1, fun a i q => (h2.2 a i q).trans (h.2 a i q)⟩
theorem tE_fr (S : St) (id : Nat) : FrG S (tE S id) := ⟨rfl, fun a i q => tE_ne (by omega) (by omega)⟩
theorem FrG.fn {S S1 : St} (h : FrG S S1) {a : Nat} (ha : ¬ (a = 35 ∨ a = 36 ∨ a = 37)) : S1.1 a = S.1 a := by funext i; exact h.2 a i ha
theorem mtv_keep {S S1 : St} (h : FrG S S1) (id : Nat) : mtv S1 id = mtv S id := by unfold mtv; rw [h.fn (a := 26) (by decide), h.fn (a := 31) (by decide)]
theorem lsM_keep {S S1 : St} (h : FrG S S1) (nl : Nat) (x : Nat → Int32) : lsM S1 nl x = lsM S nl x := lsM_congr (fun i => h.2 28 i (by decide)) (fun _ _ => rfl)
def enP (S : St) (nl : Nat) (v : Int32) (q : Nat) : Bool := decide (¬ S.1 30 q = 0 ∧ nI (lsM S nl (mtv S q)) = v)
set_option maxRecDepth 100000 in
set_option maxHeartbeats 4000000 in
theorem c_m_entries (S : St) (v : Int32) (nl : Nat) (hl : ¬ S.1 8 3 = 0 → S.1 8 5 = nI nl ∧ 0 < nl ∧ nl ≤ 4) (ho : ∀ k, k < 4 → okStep (S.1 26 k)) : Ev M_m_entries [.ref 8, .int v] S (fun v9 S' => v9 = some (.int (if ¬ S.1 8 3 = 0 ∧ (nI 0 ≤ v ∧ v ≤ S.1 8 5 - nI 1) then nI (cntB (enP S nl v) 1000) else -1)) ∧ FrG S S') := by
  refine Ev.of MF_m_entries (all_cat rfl) (Nat.le_of_ble_eq_true rfl) ?_
  show Wp M_m_entries 0 [.ref 8, .int v, .null, .null] [] _ _
  have hk0 : (¬ S.1 8 3 = 0 ∧ (nI 0 ≤ v ∧ v ≤ S.1 8 5 - nI 1)) → S.1 8 5 = nI nl → 0 < nl → nl ≤ 4 → ∀ q, q ≤ 1000 → ∀ (S1 : St) (b : Nat), FrG S S1 → b = cntB (enP S nl v) q → Wp M_m_entries 27 [.ref 8, .int v, .int (nI b), .int (nI q)] [] S1 (fun v9 S' => v9 = some (.int (if ¬ S.1 8 3 = 0 ∧ (nI 0 ≤ v ∧ v ≤ S.1 8 5 - nI 1) then nI (cntB (enP S nl v) 1000) else -1)) ∧ FrG S S') := by
    intro hcd hl hl1 hl4
    refine loopUp 1000 (fun q hk9 hn9 => ?_)
    intro S1 b h1 hb
    have hbq := cntB_le (enP S nl v) q
    refine w_iload_n d_m_entries_27 rfl ?_
    refine w_sipush (v := nI 1000) d_m_entries_28 (by decide +kernel) ?_
    refine w_icmp_geN 70 d_m_entries_31 (by decide) (by omega) (by omega) (fun h31 => ?_) (fun h31 => ?_)
    · refine w_iload_n d_m_entries_70 rfl ?_
      refine w_iret (st := []) rfl d_m_entries_71 ?_
      obtain rfl : q = 1000 := by omega
      exact ⟨by rw [if_pos hcd, hb], h1⟩
    · refine w_aload_n d_m_entries_34 rfl ?_
      refine w_getR d_m_entries_35 FL_m_22 (by decide) (rfl) (rfl) ?_
      refine w_iload_n d_m_entries_38 rfl ?_
      refine w_baldNV (v := ((S.1 30 q))) d_m_entries_39 (by decide) (rfl) (show q < 1000 from (by omega)) (h1.2 30 q (by decide)) ?_
      refine w_if_eq 64 d_m_entries_40 (by decide) (fun h40 => ?_) (fun h40 => ?_)
      · refine w_iincN d_m_entries_64 rfl ?_
        refine w_goto 27 d_m_entries_67 (by decide) ?_
        exact hn9 h31 _ _ h1 (by rw [cntB_s0 (decide_eq_false (fun z => z.1 h40))]; exact hb)
      · refine w_aload_n d_m_entries_43 rfl ?_
        refine w_iload_n d_m_entries_44 rfl ?_
        refine w_callV1 (N := M_m_turnEntry) d_m_entries_45 LK_m_176 MF_m_turnEntry MV_m_turnEntry NP_m_turnEntry (by decide) (by decide) (rfl) rfl rfl (Nat.le_of_ble_eq_true rfl) ?_
        refine Ev.det (c_m_turnEntry S1 q h31 (fun k hk => by rw [h1.2 26 k (by decide)]; exact ho k hk)) ?_
        refine w_iload_n d_m_entries_48 rfl ?_
        refine w_aload_n d_m_entries_49 rfl ?_
        refine w_callV0 (N := M_m_listNow) d_m_entries_50 LK_m_170 MF_m_listNow MV_m_listNow NP_m_listNow (by decide) (by decide) (rfl) rfl rfl (Nat.le_of_ble_eq_true rfl) ?_
        refine Ev.det (c_m_listNow (tE S1 q) nl (by rw [tE_ne (by decide) (by decide), h1.2 8 5 (by decide)]; exact hl) hl1 hl4) ?_
        rw [lsM_congr (S' := S1) (x' := mtv S1 q) (fun i => tE_ne (by decide) (by decide)) (fun k hk => tE_at hk), mtv_keep h1, lsM_keep h1]
        refine w_iload_n d_m_entries_53 rfl ?_
        refine w_icmp_ne 61 d_m_entries_54 (by decide) (fun h54 => ?_) (fun h54 => ?_)
        · refine w_iconst (v := nI 0) d_m_entries_61 (by decide +kernel) ?_
          refine w_iaddN d_m_entries_62 ?_
          refine w_istore_n d_m_entries_63 (Nat.le_of_ble_eq_true rfl) ?_
          refine w_iincN d_m_entries_64 rfl ?_
          refine w_goto 27 d_m_entries_67 (by decide) ?_
          exact hn9 h31 _ _ (h1.tr (tE_fr _ _)) (by rw [cntB_s0 (decide_eq_false (fun z => h54 z.2)), hb]; rfl)
        · refine w_iconst (v := nI 1) d_m_entries_57 (by decide +kernel) ?_
          refine w_goto 62 d_m_entries_58 (by decide) ?_
          refine w_iaddN d_m_entries_62 ?_
          refine w_istore_n d_m_entries_63 (Nat.le_of_ble_eq_true rfl) ?_
          refine w_iincN d_m_entries_64 rfl ?_
          refine w_goto 27 d_m_entries_67 (by decide) ?_
          exact hn9 h31 _ _ (h1.tr (tE_fr _ _)) (by rw [cntB_s1 (decide_eq_true ⟨h40, h54⟩), hb])
  refine w_aload_n d_m_entries_0 rfl ?_
  refine w_getI d_m_entries_1 FL_m_92 (by decide) (rfl) (rfl) ?_
  refine w_if_eq 21 d_m_entries_4 (by decide) (fun h4 => ?_) (fun h4 => ?_)
  · refine w_iconst (v := -1) d_m_entries_21 (by decide +kernel) ?_
    refine w_iret (st := []) rfl d_m_entries_22 ?_
    exact ⟨by rw [if_neg (fun q => q.1 h4)], FrG.rf S⟩
  · refine w_iload_n d_m_entries_7 rfl ?_
    refine w_iconst (v := nI 0) d_m_entries_8 (by decide +kernel) ?_
    refine w_aload_n d_m_entries_9 rfl ?_
    refine w_getI d_m_entries_10 FL_m_134 (by decide) (rfl) (rfl) ?_
    refine w_iconst (v := nI 1) d_m_entries_13 (by decide +kernel) ?_
    refine w_isub d_m_entries_14 ?_
    refine w_callS3 (N := M_m_within) d_m_entries_15 LK_m_85 MF_m_within MS_m_within NP_m_within (by decide) rfl (Nat.le_of_ble_eq_true rfl) ?_
    refine Ev.det (c_m_within _ _ _ _) ?_
    refine w_if_neB 23 d_m_entries_18 (by decide) (fun h18 => ?_) (fun h18 => ?_)
    · refine w_iconst (v := nI 0) d_m_entries_23 (by decide +kernel) ?_
      refine w_istore_n d_m_entries_24 (Nat.le_of_ble_eq_true rfl) ?_
      refine w_iconst (v := nI 0) d_m_entries_25 (by decide +kernel) ?_
      refine w_istore_n d_m_entries_26 (Nat.le_of_ble_eq_true rfl) ?_
      obtain ⟨hl, hl1, hl4⟩ := hl h4
      exact hk0 ⟨h4, of_decide_eq_true h18⟩ hl hl1 hl4 0 (by omega) _ 0 (FrG.rf S) rfl
    · refine w_iconst (v := -1) d_m_entries_21 (by decide +kernel) ?_
      refine w_iret (st := []) rfl d_m_entries_22 ?_
      exact ⟨by rw [if_neg (fun q => of_decide_eq_false h18 q.2)], FrG.rf S⟩
def mdR (S : St) (nl kp : Nat) (v a b c d : Int32) : Int32 := if S.1 8 3 = 0 then -1 else if ¬ (nI 0 ≤ v ∧ v ≤ nI 999) then -2 else if badPt a b c d = true then -3 else if ¬ S.1 30 v.toNatClampNeg = 0 then -4 else if kp = 20 then -5 else nI (lsM S nl (fun k => tval (S.1 26 k) (pt a b c d)))
def mdOK (S : St) (kp : Nat) (v a b c d : Int32) : Prop := ¬ S.1 8 3 = 0 ∧ (nI 0 ≤ v ∧ v ≤ nI 999) ∧ badPt a b c d = false ∧ S.1 30 v.toNatClampNeg = 0 ∧ ¬ kp = 20
set_option maxRecDepth 100000 in
set_option maxHeartbeats 4000000 in
theorem c_m_add (S : St) (nl kp : Nat) (v a b c d : Int32) (hl : ¬ S.1 8 3 = 0 → S.1 8 5 = nI nl ∧ 0 < nl ∧ nl ≤ 4) (hkp : S.1 8 11 = nI kp) (hkp2 : kp ≤ 20) (ho : ∀ k, k < 4 → okStep (S.1 26 k)) : Ev M_m_add [.ref 8, .int v, .int a, .int b, .int c, .int d] S (fun v9 S' => v9 = some (.int (mdR S nl kp v a b c d)) ∧ (mdOK S kp v a b c d → S'.2 = S.2 ∧ S'.1 30 v.toNatClampNeg = nI 1 ∧ S'.1 8 11 = nI (kp + 1) ∧ (∀ k, k < 4 → S'.1 31 (4 * v.toNatClampNeg + k) = pt a b c d k) ∧ ∀ x i, ¬ (x = 30 ∧ i = v.toNatClampNeg) → ¬ (x = 8 ∧ i = 11) → ¬ (x = 31 ∧ 4 * v.toNatClampNeg ≤ i ∧ i < 4 * v.toNatClampNeg + 4) → ¬ (x = 35 ∨ x = 36) → S'.1 x i = S.1 x i) ∧ (¬ mdOK S kp v a b c d → FrG S S')) := by
  refine Ev.of MF_m_add (all_cat rfl) (Nat.le_of_ble_eq_true rfl) ?_
  show Wp M_m_add 0 [.ref 8, .int v, .int a, .int b, .int c, .int d, .null, .null, .null] [] _ _
  have hk0 : ∀ id, id < 1000 → mdOK S kp (nI id) a b c d → S.1 8 5 = nI nl → 0 < nl → nl ≤ 4 → ∀ (x6 x7 : Value), ∀ k, k ≤ 4 → ∀ S1, S1 = setSeg (put (put (setRow S 35 (pt a b c d) 4) 30 id (nI 1)) 8 11 (nI (kp + 1))) 31 (4 * id) (pt a b c d) k → Wp M_m_add 108 [.ref 8, .int (nI id), .int a, .int b, .int c, .int d, x6, x7, .int (nI k)] [] S1 (fun v9 S' => v9 = some (.int (mdR S nl kp (nI id) a b c d)) ∧ (mdOK S kp (nI id) a b c d → S'.2 = S.2 ∧ S'.1 30 (nI id).toNatClampNeg = nI 1 ∧ S'.1 8 11 = nI (kp + 1) ∧ (∀ k, k < 4 → S'.1 31 (4 * (nI id).toNatClampNeg + k) = pt a b c d k) ∧ ∀ x i, ¬ (x = 30 ∧ i = (nI id).toNatClampNeg) → ¬ (x = 8 ∧ i = 11) → ¬ (x = 31 ∧ 4 * (nI id).toNatClampNeg ≤ i ∧ i < 4 * (nI id).toNatClampNeg + 4) → ¬ (x = 35 ∨ x = 36) → S'.1 x i = S.1 x i) ∧ (¬ mdOK S kp (nI id) a b c d → FrG S S')) := by
    intro id hid hok hl hl1 hl4 x6 x7
    refine loopUp 4 (fun k hk9 hn9 => ?_)
    intro S1 hS
    have q1 : ∀ x i, ¬ (x = 31 ∧ 4 * id ≤ i ∧ i < 4 * id + k) → ¬ (x = 8 ∧ i = 11) → ¬ (x = 30 ∧ i = id) → x ≠ 35 → S1.1 x i = S.1 x i := fun x i h1 h2 h3 h4 => by rw [hS, setSeg_ne h1, put_ne h2, put_ne h3, setRow_ne h4]
    have q35 : ∀ j, j < 4 → S1.1 35 j = pt a b c d j := fun j hj => by rw [hS, setSeg_ne (by omega), put_ne (by omega), put_ne (by omega), setRow_at hj]
    refine w_iload d_m_add_108 rfl ?_
    refine w_iconst (v := nI 4) d_m_add_110 (by decide +kernel) ?_
    refine w_icmp_geN 138 d_m_add_111 (by decide) (by omega) (by omega) (fun h111 => ?_) (fun h111 => ?_)
    · refine w_aload_n d_m_add_138 rfl ?_
      refine w_callV0 (N := M_m_turnIt) d_m_add_139 LK_m_89 MF_m_turnIt MV_m_turnIt NP_m_turnIt (by decide) (by decide) (rfl) rfl rfl (Nat.le_of_ble_eq_true rfl) ?_
      refine Ev.det (c_m_turnIt S1 (fun j hj => by rw [q1 26 j (by omega) (by omega) (by omega) (by decide)]; exact ho j hj)) ?_
      refine w_aload_n d_m_add_142 rfl ?_
      refine w_callV0 (N := M_m_listNow) d_m_add_143 LK_m_170 MF_m_listNow MV_m_listNow NP_m_listNow (by decide) (by decide) (rfl) rfl rfl (Nat.le_of_ble_eq_true rfl) ?_
      refine Ev.det (c_m_listNow _ nl (by rw [setRow_ne (by decide), q1 8 5 (by omega) (by omega) (by omega) (by decide)]; exact hl) hl1 hl4) ?_
      rw [lsM_congr (S' := S) (x' := fun k => tval (S.1 26 k) (pt a b c d)) (fun i => by rw [setRow_ne (by decide), q1 28 i (by omega) (by omega) (by omega) (by decide)]) (fun j hj => by
        rw [setRow_at hj, q1 26 j (by omega) (by omega) (by omega) (by decide)]
        exact tval_congr (ho j hj) (fun i hi => q35 i hi))]
      refine w_iret (st := []) rfl d_m_add_146 ?_
      obtain rfl : k = 4 := by omega
      have hok2 := hok
      obtain ⟨o1, o2, o3, o4, o5⟩ := hok2
      refine ⟨by unfold mdR; rw [if_neg o1, if_neg (fun q => q o2), if_neg (by rw [o3]; decide), if_neg (fun q => q o4), if_neg o5], fun _ => ?_, fun q => absurd hok q⟩
      rw [nI_clamp (by omega)]
      refine ⟨by show S1.2 = _; rw [hS]; rfl, ?_, ?_, fun j hj => ?_, fun x i h1 h2 h3 h4 => ?_⟩
      · rw [setRow_ne (by decide), hS, setSeg_ne (by omega), put_ne (by omega), put_at]
      · rw [setRow_ne (by decide), hS, setSeg_ne (by omega), put_at]
      · rw [setRow_ne (by decide), hS, setSeg_at hj]
      · rw [setRow_ne (by omega)]
        exact q1 x i h3 h2 h1 (by omega)
    · refine w_aload_n d_m_add_114 rfl ?_
      refine w_getR d_m_add_115 FL_m_26 (by decide) (rfl) (rfl) ?_
      refine w_iconst (v := nI 4) d_m_add_118 (by decide +kernel) ?_
      refine w_iload_n d_m_add_119 rfl ?_
      refine w_imulN d_m_add_120 ?_
      refine w_iload d_m_add_121 rfl ?_
      refine w_iaddN d_m_add_123 ?_
      refine w_aload_n d_m_add_124 rfl ?_
      refine w_getR d_m_add_125 FL_m_38 (by decide) (rfl) (rfl) ?_
      refine w_iload d_m_add_128 rfl ?_
      refine w_ialdNV (v := ((pt a b c d k))) d_m_add_130 (by decide) (rfl) (show k < 4 from (by omega)) (q35 k h111) ?_
      show Wp _ 131 _ _ _ _
      refine w_iastNP d_m_add_131 (by decide) (rfl) (show (4 * id) + k < 4000 from (by omega)) ?_
      refine w_iincN d_m_add_132 rfl ?_
      refine w_goto 108 d_m_add_135 (by decide) ?_
      refine hn9 h111 _ ?_
      rw [hS]
      exact setSeg_s rfl
  refine w_aload_n d_m_add_0 rfl ?_
  refine w_iload_n d_m_add_1 rfl ?_
  refine w_iload_n d_m_add_2 rfl ?_
  refine w_iload d_m_add_3 rfl ?_
  refine w_iload d_m_add_5 rfl ?_
  refine w_callV4 (N := M_m_give) d_m_add_7 LK_m_100 MF_m_give MV_m_give NP_m_give (by decide) (by decide) (rfl) rfl rfl (Nat.le_of_ble_eq_true rfl) ?_
  refine Ev.det (c_m_give _ _ _ _ _) ?_
  refine w_istore d_m_add_10 (Nat.le_of_ble_eq_true rfl) ?_
  refine w_aload_n d_m_add_12 rfl ?_
  refine w_getIV (v := ((S.1 8 3))) d_m_add_13 FL_m_92 (by decide) (rfl) (rfl) (by rw [setRow_ne (by decide)]) ?_
  refine w_if_ne 23 d_m_add_16 (by decide) (fun h16 => ?_) (fun h16 => ?_)
  · refine w_iload_n d_m_add_23 rfl ?_
    refine w_iconst (v := nI 0) d_m_add_24 (by decide +kernel) ?_
    refine w_sipush (v := nI 999) d_m_add_25 (by decide +kernel) ?_
    refine w_callS3 (N := M_m_within) d_m_add_28 LK_m_85 MF_m_within MS_m_within NP_m_within (by decide) rfl (Nat.le_of_ble_eq_true rfl) ?_
    refine Ev.det (c_m_within _ _ _ _) ?_
    refine w_if_neB 39 d_m_add_31 (by decide) (fun h31 => ?_) (fun h31 => ?_)
    · refine w_iload d_m_add_39 rfl ?_
      refine w_if_neB 49 d_m_add_41 (by decide) (fun h41 => ?_) (fun h41 => ?_)
      · have h31 := of_decide_eq_true h31
        obtain ⟨id, -, hid, rfl⟩ := nI_in2 h31 (by decide) (by decide)
        refine w_aload_n d_m_add_49 rfl ?_
        refine w_getR d_m_add_50 FL_m_22 (by decide) (rfl) (rfl) ?_
        refine w_iload_n d_m_add_53 rfl ?_
        refine w_baldNV (v := ((S.1 30 id))) d_m_add_54 (by decide) (rfl) (show id < 1000 from (by omega)) (by rw [setRow_ne (by decide)]) ?_
        refine w_if_eq 63 d_m_add_55 (by decide) (fun h55 => ?_) (fun h55 => ?_)
        · refine w_aload_n d_m_add_63 rfl ?_
          refine w_getIV (v := (nI kp)) d_m_add_64 FL_m_131 (by decide) (rfl) (rfl) (by rw [setRow_ne (by decide)]; exact hkp) ?_
          refine w_bipush (v := nI 20) d_m_add_67 (by decide +kernel) ?_
          refine w_icmp_neN 77 d_m_add_69 (by decide) (by omega) (by omega) (fun h69 => ?_) (fun h69 => ?_)
          · refine w_iconst (v := nI 0) d_m_add_77 (by decide +kernel) ?_
            refine w_istore d_m_add_78 (Nat.le_of_ble_eq_true rfl) ?_
            refine w_iload d_m_add_80 rfl ?_
            refine w_if_ge 88 d_m_add_82 (by decide) (fun h82 => ?_) (fun h82 => ?_)
            · refine w_aload_n d_m_add_88 rfl ?_
              refine w_getR d_m_add_89 FL_m_22 (by decide) (rfl) (rfl) ?_
              refine w_iload_n d_m_add_92 rfl ?_
              refine w_iconst (v := nI 1) d_m_add_93 (by decide +kernel) ?_
              refine w_bastNP d_m_add_94 (by decide) (rfl) (show id < 1000 from (by omega)) (by decide) ?_
              refine w_aload_n d_m_add_95 rfl ?_
              refine w_dup d_m_add_96 rfl ?_
              refine w_getIV (v := (nI kp)) d_m_add_97 FL_m_131 (by decide) (rfl) (rfl) (by rw [put_ne (by omega), setRow_ne (by decide)]; exact hkp) ?_
              refine w_iconst (v := nI 1) d_m_add_100 (by decide +kernel) ?_
              refine w_iaddN d_m_add_101 ?_
              refine w_putIP d_m_add_102 FL_m_131 FW_8_11 (by decide) (rfl) (rfl) ?_
              show Wp _ 105 _ _ _ _
              refine w_iconst (v := nI 0) d_m_add_105 (by decide +kernel) ?_
              refine w_istore d_m_add_106 (Nat.le_of_ble_eq_true rfl) ?_
              obtain ⟨hl, hl1, hl4⟩ := hl h16
              exact hk0 id (by omega) ⟨h16, h31, by simpa using h41, by rw [nI_clamp (by omega)]; exact h55, h69⟩ hl hl1 hl4 _ _ 0 (by omega) _ (setSeg_0 _ _ _ _).symm
            · exact absurd h82 (by decide)
          · refine w_bipush (v := -5) d_m_add_72 (by decide +kernel) ?_
            refine w_goto 78 d_m_add_74 (by decide) ?_
            refine w_istore d_m_add_78 (Nat.le_of_ble_eq_true rfl) ?_
            refine w_iload d_m_add_80 rfl ?_
            refine w_if_ge 88 d_m_add_82 (by decide) (fun h82 => ?_) (fun h82 => ?_)
            · exact absurd h82 (by decide)
            · refine w_iload d_m_add_85 rfl ?_
              refine w_iret (st := []) rfl d_m_add_87 ?_
              have hbad : badPt a b c d = false := by simpa using h41
              exact ⟨by unfold mdR; rw [if_neg h16, if_neg (fun q => q h31), if_neg (by rw [hbad]; decide), if_neg (fun q => q (by rw [nI_clamp (by omega)]; exact h55)), if_pos h69], fun q => absurd h69 q.2.2.2.2, fun _ => ⟨rfl, fun x i q => setRow_ne (by omega)⟩⟩
        · refine w_bipush (v := -4) d_m_add_58 (by decide +kernel) ?_
          refine w_goto 78 d_m_add_60 (by decide) ?_
          refine w_istore d_m_add_78 (Nat.le_of_ble_eq_true rfl) ?_
          refine w_iload d_m_add_80 rfl ?_
          refine w_if_ge 88 d_m_add_82 (by decide) (fun h82 => ?_) (fun h82 => ?_)
          · exact absurd h82 (by decide)
          · refine w_iload d_m_add_85 rfl ?_
            refine w_iret (st := []) rfl d_m_add_87 ?_
            have hbad : badPt a b c d = false := by simpa using h41
            exact ⟨by unfold mdR; rw [if_neg h16, if_neg (fun q => q h31), if_neg (by rw [hbad]; decide), if_pos (by rw [nI_clamp (by omega)]; exact h55)], fun q => absurd (by have := q.2.2.2.1; rw [nI_clamp (by omega)] at this; exact this) h55, fun _ => ⟨rfl, fun x i q => setRow_ne (by omega)⟩⟩
      · refine w_bipush (v := -3) d_m_add_44 (by decide +kernel) ?_
        refine w_goto 78 d_m_add_46 (by decide) ?_
        refine w_istore d_m_add_78 (Nat.le_of_ble_eq_true rfl) ?_
        refine w_iload d_m_add_80 rfl ?_
        refine w_if_ge 88 d_m_add_82 (by decide) (fun h82 => ?_) (fun h82 => ?_)
        · exact absurd h82 (by decide)
        · refine w_iload d_m_add_85 rfl ?_
          refine w_iret (st := []) rfl d_m_add_87 ?_
          have hbad : badPt a b c d = true := by simpa using h41
          exact ⟨by unfold mdR; rw [if_neg h16, if_neg (fun q => q (of_decide_eq_true h31)), if_pos hbad], fun q => absurd (q.2.2.1.symm.trans hbad) (by decide), fun _ => ⟨rfl, fun x i q => setRow_ne (by omega)⟩⟩
    · refine w_bipush (v := -2) d_m_add_34 (by decide +kernel) ?_
      refine w_goto 78 d_m_add_36 (by decide) ?_
      refine w_istore d_m_add_78 (Nat.le_of_ble_eq_true rfl) ?_
      refine w_iload d_m_add_80 rfl ?_
      refine w_if_ge 88 d_m_add_82 (by decide) (fun h82 => ?_) (fun h82 => ?_)
      · exact absurd h82 (by decide)
      · refine w_iload d_m_add_85 rfl ?_
        refine w_iret (st := []) rfl d_m_add_87 ?_
        exact ⟨by unfold mdR; rw [if_neg h16, if_pos (of_decide_eq_false h31)], fun q => absurd q.2.1 (of_decide_eq_false h31), fun _ => ⟨rfl, fun x i q => setRow_ne (by omega)⟩⟩
  · refine w_iconst (v := -1) d_m_add_19 (by decide +kernel) ?_
    refine w_goto 78 d_m_add_20 (by decide) ?_
    refine w_istore d_m_add_78 (Nat.le_of_ble_eq_true rfl) ?_
    refine w_iload d_m_add_80 rfl ?_
    refine w_if_ge 88 d_m_add_82 (by decide) (fun h82 => ?_) (fun h82 => ?_)
    · exact absurd h82 (by decide)
    · refine w_iload d_m_add_85 rfl ?_
      refine w_iret (st := []) rfl d_m_add_87 ?_
      exact ⟨by unfold mdR; rw [if_pos h16], fun q => absurd h16 q.1, fun _ => ⟨rfl, fun x i q => setRow_ne (by omega)⟩⟩
