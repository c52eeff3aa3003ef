theorem bt_and {p q : Prop} [Decidable p] [Decidable q] : decide (p ∧ q) = (decide p && decide q) := by
  by_cases hp : p <;> by_cases hq : q <;> simp [hp, hq]
/-- v lies in 0 .. n - 1 -/
theorem in_idx {v : Int32} {n : Nat} (hn : n ≤ 1000) (h : nI 0 ≤ v ∧ v ≤ nI n - nI 1) : ∃ j, j < n ∧ v = nI j := by
  by_cases h0 : n = 0
  · subst h0
    exfalso
    have h1 := Int32.le_trans h.1 h.2
    exact absurd h1 (by decide)
  · rw [pk_sub (by omega)] at h
    obtain ⟨j, -, h2, rfl⟩ := nI_in2 h (by decide) (by omega)
    exact ⟨j, by omega, rfl⟩
theorem idx_in {n j : Nat} (hn : n ≤ 1000) (h : j < n) : nI 0 ≤ nI j ∧ nI j ≤ nI n - nI 1 := by
  rw [pk_sub (by omega), nI_leI (by decide) (by omega), nI_leI (by omega) (by omega)]
  omega
set_option maxRecDepth 100000 in
set_option maxHeartbeats 4000000 in
theorem c_q_turn (S : St) (a b c d : Int32) : Ev M_q_turn [.ref 0, .int a, .int b, .int c, .int d] S (fun v9 S' => v9 = some (.int (bI (decide (turnOK a b c d = true ∧ S.1 4 3 = 0)))) ∧ S' = (if turnOK a b c d = true ∧ S.1 4 3 = 0 then setRow S 9 (pt a b c d) 4 else S)) := by
  refine Ev.of MF_q_turn (all_cat rfl) (Nat.le_of_ble_eq_true rfl) ?_
  show Wp M_q_turn 0 [.ref 0, .int a, .int b, .int c, .int d] [] _ _
  refine w_iload_n d_q_turn_0 rfl ?_
  refine w_iload_n d_q_turn_1 rfl ?_
  refine w_iload_n d_q_turn_2 rfl ?_
  refine w_iload d_q_turn_3 rfl ?_
  refine w_callS4 (N := M_t_allows) d_q_turn_5 LK_q_58 MF_t_allows MS_t_allows NP_t_allows (by decide) rfl (Nat.le_of_ble_eq_true rfl) ?_
  refine Ev.det (c_t_allows _ _ _ _ _) ?_
  refine w_if_eqB 21 d_q_turn_8 (by decide) (fun h8 => ?_) (fun h8 => ?_)
  · refine w_iconst (v := nI 0) d_q_turn_21 (by decide +kernel) ?_
    refine w_zret (st := []) rfl d_q_turn_22 (by decide) ?_
    exact ⟨rb0 (decide_eq_false (fun q => by rw [q.1] at h8; cases h8)), by rw [if_neg (fun q => by rw [q.1] at h8; cases h8)]⟩
  · refine w_aload_n d_q_turn_11 rfl ?_
    refine w_getR d_q_turn_12 FL_q_33 (by decide) (rfl) (rfl) ?_
    refine w_getI d_q_turn_15 FL_q_62 (by decide) (rfl) (rfl) ?_
    refine w_if_eq 23 d_q_turn_18 (by decide) (fun h18 => ?_) (fun h18 => ?_)
    · refine w_aload_n d_q_turn_23 rfl ?_
      refine w_getR d_q_turn_24 FL_q_10 (by decide) (rfl) (rfl) ?_
      refine w_iload_n d_q_turn_27 rfl ?_
      refine w_iload_n d_q_turn_28 rfl ?_
      refine w_iload_n d_q_turn_29 rfl ?_
      refine w_iload d_q_turn_30 rfl ?_
      refine w_callV4 (N := M_t_become) d_q_turn_32 LK_q_66 MF_t_become MV_t_become NP_t_become (by decide) (by decide) (rfl) rfl rfl (Nat.le_of_ble_eq_true rfl) ?_
      refine Ev.det (c_t_become _ _ _ _ _) ?_
      refine w_iconst (v := nI 1) d_q_turn_35 (by decide +kernel) ?_
      refine w_zret (st := []) rfl d_q_turn_36 (by decide) ?_
      exact ⟨rb1 (decide_eq_true ⟨h8, h18⟩), by rw [if_pos ⟨h8, h18⟩]⟩
    · refine w_iconst (v := nI 0) d_q_turn_21 (by decide +kernel) ?_
      refine w_zret (st := []) rfl d_q_turn_22 (by decide) ?_
      exact ⟨rb0 (decide_eq_false (fun q => h18 q.2)), by rw [if_neg (fun q => h18 q.2)]⟩
set_option maxRecDepth 100000 in
set_option maxHeartbeats 4000000 in
theorem c_q_sample (S : St) (a b c d : Int32) (ns : Nat) (hs : S.1 2 1 = nI ns) (hs24 : ns ≤ 24) : Ev M_q_sample [.ref 0, .int a, .int b, .int c, .int d] S (fun v9 S' => v9 = some (.int (bI (decide (badPt a b c d = false ∧ ns < 24)))) ∧ S' = (if badPt a b c d = false ∧ ns < 24 then put (setRow S (48 + ns) (pt a b c d) 4) 2 1 (nI (ns + 1)) else S)) := by
  refine Ev.of MF_q_sample (all_cat rfl) (Nat.le_of_ble_eq_true rfl) ?_
  show Wp M_q_sample 0 [.ref 0, .int a, .int b, .int c, .int d] [] _ _
  refine w_iload_n d_q_sample_0 rfl ?_
  refine w_iload_n d_q_sample_1 rfl ?_
  refine w_iload_n d_q_sample_2 rfl ?_
  refine w_iload d_q_sample_3 rfl ?_
  refine w_callS4 (N := M_q_isBad) d_q_sample_5 LK_q_70 MF_q_isBad MS_q_isBad NP_q_isBad (by decide) rfl (Nat.le_of_ble_eq_true rfl) ?_
  refine Ev.det (c_q_isBad _ _ _ _ _) ?_
  refine w_if_neB 23 d_q_sample_8 (by decide) (fun h8 => ?_) (fun h8 => ?_)
  · refine w_iconst (v := nI 0) d_q_sample_23 (by decide +kernel) ?_
    refine w_zret (st := []) rfl d_q_sample_24 (by decide) ?_
    exact ⟨rb0 (decide_eq_false (fun q => by rw [q.1] at h8; cases h8)), by rw [if_neg (fun q => by rw [q.1] at h8; cases h8)]⟩
  · refine w_aload_n d_q_sample_11 rfl ?_
    refine w_getR d_q_sample_12 FL_q_19 (by decide) (rfl) (rfl) ?_
    refine w_getIV (v := (nI ns)) d_q_sample_15 FL_q_73 (by decide) (rfl) (rfl) (hs) ?_
    refine w_bipush (v := nI 24) d_q_sample_18 (by decide +kernel) ?_
    refine w_icmp_ltN 25 d_q_sample_20 (by decide) (by omega) (by omega) (fun h20 => ?_) (fun h20 => ?_)
    · refine w_aload_n d_q_sample_25 rfl ?_
      refine w_getR d_q_sample_26 FL_q_19 (by decide) (rfl) (rfl) ?_
      refine w_getR d_q_sample_29 FL_q_77 (by decide) (rfl) (rfl) ?_
      refine w_aload_n d_q_sample_32 rfl ?_
      refine w_getR d_q_sample_33 FL_q_19 (by decide) (rfl) (rfl) ?_
      refine w_getIV (v := (nI ns)) d_q_sample_36 FL_q_73 (by decide) (rfl) (rfl) (hs) ?_
      refine w_aaldN d_q_sample_39 (by decide) (rfl) (show ns < 24 from (by omega)) ?_
      show Wp _ _ _ (.ref (48 + ns) :: _) _ _
      refine w_iload_n d_q_sample_40 rfl ?_
      refine w_iload_n d_q_sample_41 rfl ?_
      refine w_iload_n d_q_sample_42 rfl ?_
      refine w_iload d_q_sample_43 rfl ?_
      show Wp _ 45 _ _ _ _
      refine w_callS5 (N := M_q_setPoint) d_q_sample_45 LK_q_81 MF_q_setPoint MS_q_setPoint NP_q_setPoint (by decide) rfl (Nat.le_of_ble_eq_true rfl) ?_
      refine Ev.det (c_q_setPoint _ _ _ _ _ _ (by omega) (kd_row48 (by omega)) (ln_row48 (by omega))) ?_
      refine w_aload_n d_q_sample_48 rfl ?_
      refine w_getR d_q_sample_49 FL_q_19 (by decide) (rfl) (rfl) ?_
      refine w_dup d_q_sample_52 rfl ?_
      refine w_getIV (v := (nI ns)) d_q_sample_53 FL_q_73 (by decide) (rfl) (rfl) (by rw [setRow_ne (by omega)]; exact hs) ?_
      refine w_iconst (v := nI 1) d_q_sample_56 (by decide +kernel) ?_
      refine w_iaddN d_q_sample_57 ?_
      refine w_putIP d_q_sample_58 FL_q_73 FW_2_1 (by decide) (rfl) (rfl) ?_
      refine w_iconst (v := nI 1) d_q_sample_61 (by decide +kernel) ?_
      refine w_zret (st := []) rfl d_q_sample_62 (by decide) ?_
      exact ⟨rb1 (decide_eq_true ⟨h8, h20⟩), by rw [if_pos ⟨h8, h20⟩]⟩
    · refine w_iconst (v := nI 0) d_q_sample_23 (by decide +kernel) ?_
      refine w_zret (st := []) rfl d_q_sample_24 (by decide) ?_
      exact ⟨rb0 (decide_eq_false (fun q => by omega)), by rw [if_neg (fun q => by omega)]⟩
set_option maxRecDepth 100000 in
set_option maxHeartbeats 4000000 in
theorem c_q_centre (S : St) (v w : Int32) (hl : ¬ S.1 4 3 = 0 → ∃ nl, S.1 4 5 = nI nl ∧ nl ≤ 4) : Ev M_q_centre [.ref 0, .int v, .int w] S (fun v9 S' => v9 = some (.int (if (¬ S.1 4 3 = 0 ∧ (nI 0 ≤ v ∧ v ≤ S.1 4 5 - nI 1)) ∧ (nI 0 ≤ w ∧ w ≤ nI 3) then S.1 (104 + v.toNatClampNeg) w.toNatClampNeg else -1000)) ∧ S' = S) := by
  refine Ev.of MF_q_centre (all_cat rfl) (Nat.le_of_ble_eq_true rfl) ?_
  show Wp M_q_centre 0 [.ref 0, .int v, .int w] [] _ _
  refine w_aload_n d_q_centre_0 rfl ?_
  refine w_getR d_q_centre_1 FL_q_33 (by decide) (rfl) (rfl) ?_
  refine w_iload_n d_q_centre_4 rfl ?_
  refine w_callV1 (N := M_z_hasList) d_q_centre_5 LK_q_107 MF_z_hasList MV_z_hasList NP_z_hasList (by decide) (by decide) (rfl) rfl rfl (Nat.le_of_ble_eq_true rfl) ?_
  refine Ev.det (c_z_hasList _ _) ?_
  refine w_if_eqB 20 d_q_centre_8 (by decide) (fun h8 => ?_) (fun h8 => ?_)
  · refine w_sipush (v := -1000) d_q_centre_20 (by decide +kernel) ?_
    refine w_iret (st := []) rfl d_q_centre_23 ?_
    exact ⟨by rw [if_neg (fun q => of_decide_eq_false h8 q.1)], rfl⟩
  · refine w_iload_n d_q_centre_11 rfl ?_
    refine w_iconst (v := nI 0) d_q_centre_12 (by decide +kernel) ?_
    refine w_iconst (v := nI 3) d_q_centre_13 (by decide +kernel) ?_
    refine w_callS3 (N := M_q_isWithin) d_q_centre_14 LK_q_86 MF_q_isWithin MS_q_isWithin NP_q_isWithin (by decide) rfl (Nat.le_of_ble_eq_true rfl) ?_
    refine Ev.det (c_q_isWithin _ _ _ _) ?_
    refine w_if_neB 24 d_q_centre_17 (by decide) (fun h17 => ?_) (fun h17 => ?_)
    · have h8 := of_decide_eq_true h8
      have h17 := of_decide_eq_true h17
      obtain ⟨nl, hl1, hl2⟩ := hl h8.1
      obtain ⟨i, hi, rfl⟩ := in_idx (by omega) (hl1 ▸ h8.2)
      obtain ⟨j, -, hj, rfl⟩ := nI_in2 h17 (by decide) (by decide)
      refine w_aload_n d_q_centre_24 rfl ?_
      refine w_getR d_q_centre_25 FL_q_33 (by decide) (rfl) (rfl) ?_
      refine w_getR d_q_centre_28 FL_q_111 (by decide) (rfl) (rfl) ?_
      refine w_iload_n d_q_centre_31 rfl ?_
      refine w_aaldN d_q_centre_32 (by decide) (rfl) (show i < 4 from (by omega)) ?_
      show Wp _ _ _ (.ref (104 + i) :: _) _ _
      refine w_iload_n d_q_centre_33 rfl ?_
      refine w_ialdN d_q_centre_34 (by omega) (kd_row104 (by omega)) (show j < ln (104 + i) by rw [ln_row104 (by omega)]; omega) ?_
      refine w_iret (st := []) rfl d_q_centre_35 ?_
      exact ⟨by rw [if_pos ⟨h8, h17⟩, nI_clamp (by omega), nI_clamp (by omega)], rfl⟩
    · refine w_sipush (v := -1000) d_q_centre_20 (by decide +kernel) ?_
      refine w_iret (st := []) rfl d_q_centre_23 ?_
      exact ⟨by rw [if_neg (fun q => of_decide_eq_false h17 q.2)], rfl⟩
set_option maxRecDepth 100000 in
set_option maxHeartbeats 4000000 in
theorem c_q_word (S : St) (v w z : Int32) (hl : ¬ S.1 4 3 = 0 → ∃ nc, S.1 4 6 = nI nc ∧ nc ≤ 4) : Ev M_q_word [.ref 0, .int v, .int w, .int z] S (fun v9 S' => v9 = some (.int (if (¬ S.1 4 3 = 0 ∧ (nI 0 ≤ v ∧ v ≤ nI (parts (S.1 4 4)) - nI 1) ∧ (nI 0 ≤ w ∧ w ≤ S.1 4 6 - nI 1)) ∧ (nI 0 ≤ z ∧ z ≤ nI (pwid (S.1 4 4)) - nI 1) then S.1 (108 + (v.toNatClampNeg * 4 + w.toNatClampNeg)) z.toNatClampNeg else -1000)) ∧ S' = S) := by
  refine Ev.of MF_q_word (all_cat rfl) (Nat.le_of_ble_eq_true rfl) ?_
  show Wp M_q_word 0 [.ref 0, .int v, .int w, .int z] [] _ _
  refine w_aload_n d_q_word_0 rfl ?_
  refine w_getR d_q_word_1 FL_q_33 (by decide) (rfl) (rfl) ?_
  refine w_iload_n d_q_word_4 rfl ?_
  refine w_iload_n d_q_word_5 rfl ?_
  refine w_callV2 (N := M_z_hasWord) d_q_word_6 LK_q_114 MF_z_hasWord MV_z_hasWord NP_z_hasWord (by decide) (by decide) (rfl) rfl rfl (Nat.le_of_ble_eq_true rfl) ?_
  refine Ev.det (c_z_hasWord _ _ _) ?_
  refine w_if_eqB 32 d_q_word_9 (by decide) (fun h9 => ?_) (fun h9 => ?_)
  · refine w_sipush (v := -1000) d_q_word_32 (by decide +kernel) ?_
    refine w_iret (st := []) rfl d_q_word_35 ?_
    exact ⟨by rw [if_neg (fun q => of_decide_eq_false h9 q.1)], rfl⟩
  · refine w_iload_n d_q_word_12 rfl ?_
    refine w_iconst (v := nI 0) d_q_word_13 (by decide +kernel) ?_
    refine w_aload_n d_q_word_14 rfl ?_
    refine w_getR d_q_word_15 FL_q_33 (by decide) (rfl) (rfl) ?_
    refine w_getI d_q_word_18 FL_q_118 (by decide) (rfl) (rfl) ?_
    refine w_callS1 (N := M_q_partWidthOf) d_q_word_21 LK_q_121 MF_q_partWidthOf MS_q_partWidthOf NP_q_partWidthOf (by decide) rfl (Nat.le_of_ble_eq_true rfl) ?_
    refine Ev.det (c_q_partWidthOf _ _) ?_
    refine w_iconst (v := nI 1) d_q_word_24 (by decide +kernel) ?_
    refine w_isub d_q_word_25 ?_
    refine w_callS3 (N := M_q_isWithin) d_q_word_26 LK_q_86 MF_q_isWithin MS_q_isWithin NP_q_isWithin (by decide) rfl (Nat.le_of_ble_eq_true rfl) ?_
    refine Ev.det (c_q_isWithin _ _ _ _) ?_
    refine w_if_neB 36 d_q_word_29 (by decide) (fun h29 => ?_) (fun h29 => ?_)
    · have h9 := of_decide_eq_true h9
      have h29 := of_decide_eq_true h29
      obtain ⟨nc, hl1, hl2⟩ := hl h9.1
      have hpl := parts_le (S.1 4 4)
      have hwl := pwid_le (S.1 4 4)
      obtain ⟨i, hi, rfl⟩ := in_idx (by omega) h9.2.1
      obtain ⟨j, hj, rfl⟩ := in_idx (by omega) (hl1 ▸ h9.2.2)
      obtain ⟨k, hk, rfl⟩ := in_idx (by omega) h29
      refine w_aload_n d_q_word_36 rfl ?_
      refine w_getR d_q_word_37 FL_q_33 (by decide) (rfl) (rfl) ?_
      refine w_getR d_q_word_40 FL_q_125 (by decide) (rfl) (rfl) ?_
      refine w_iload_n d_q_word_43 rfl ?_
      refine w_iload_n d_q_word_44 rfl ?_
      refine w_callS2 (N := M_q_wordRow) d_q_word_45 LK_q_128 MF_q_wordRow MS_q_wordRow NP_q_wordRow (by decide) rfl (Nat.le_of_ble_eq_true rfl) ?_
      refine Ev.det (c_q_wordRow _ _ _) ?_
      refine w_aaldN d_q_word_48 (by decide) (rfl) (show i * 4 + j < 16 from (by omega)) ?_
      show Wp _ _ _ (.ref (108 + (i * 4 + j)) :: _) _ _
      refine w_iload_n d_q_word_49 rfl ?_
      refine w_ialdN d_q_word_50 (by omega) (kd_row108 (by omega)) (show k < ln (108 + (i * 4 + j)) by rw [ln_row108 (by omega)]; omega) ?_
      refine w_iret (st := []) rfl d_q_word_51 ?_
      exact ⟨by rw [if_pos ⟨h9, h29⟩, nI_clamp (by omega), nI_clamp (by omega), nI_clamp (by omega)], rfl⟩
    · refine w_sipush (v := -1000) d_q_word_32 (by decide +kernel) ?_
      refine w_iret (st := []) rfl d_q_word_35 ?_
      exact ⟨by rw [if_neg (fun q => of_decide_eq_false h29 q.2)], rfl⟩
set_option maxRecDepth 100000 in
set_option maxHeartbeats 4000000 in
theorem c_q_effort (S : St) (v w : Int32) : Ev M_q_effort [.ref 0, .int v, .int w] S (fun v9 S' => v9 = some (.int (bI (decide ((nI 1 ≤ v ∧ v ≤ nI 4) ∧ (nI 0 ≤ w ∧ w ≤ nI 3))))) ∧ S' = (if (nI 1 ≤ v ∧ v ≤ nI 4) ∧ (nI 0 ≤ w ∧ w ≤ nI 3) then put (put S 6 5 v) 6 6 w else S)) := by
  refine Ev.of MF_q_effort (all_cat rfl) (Nat.le_of_ble_eq_true rfl) ?_
  show Wp M_q_effort 0 [.ref 0, .int v, .int w] [] _ _
  refine w_iload_n d_q_effort_0 rfl ?_
  refine w_iconst (v := nI 1) d_q_effort_1 (by decide +kernel) ?_
  refine w_iconst (v := nI 4) d_q_effort_2 (by decide +kernel) ?_
  refine w_callS3 (N := M_q_isWithin) d_q_effort_3 LK_q_86 MF_q_isWithin MS_q_isWithin NP_q_isWithin (by decide) rfl (Nat.le_of_ble_eq_true rfl) ?_
  refine Ev.det (c_q_isWithin _ _ _ _) ?_
  refine w_if_eqB 18 d_q_effort_6 (by decide) (fun h6 => ?_) (fun h6 => ?_)
  · refine w_iconst (v := nI 0) d_q_effort_18 (by decide +kernel) ?_
    refine w_zret (st := []) rfl d_q_effort_19 (by decide) ?_
    exact ⟨rb0 (decide_eq_false (fun q => of_decide_eq_false h6 q.1)), by rw [if_neg (fun q => of_decide_eq_false h6 q.1)]⟩
  · refine w_iload_n d_q_effort_9 rfl ?_
    refine w_iconst (v := nI 0) d_q_effort_10 (by decide +kernel) ?_
    refine w_iconst (v := nI 3) d_q_effort_11 (by decide +kernel) ?_
    refine w_callS3 (N := M_q_isWithin) d_q_effort_12 LK_q_86 MF_q_isWithin MS_q_isWithin NP_q_isWithin (by decide) rfl (Nat.le_of_ble_eq_true rfl) ?_
    refine Ev.det (c_q_isWithin _ _ _ _) ?_
    refine w_if_neB 20 d_q_effort_15 (by decide) (fun h15 => ?_) (fun h15 => ?_)
    · refine w_aload_n d_q_effort_20 rfl ?_
      refine w_getR d_q_effort_21 FL_q_47 (by decide) (rfl) (rfl) ?_
      refine w_iload_n d_q_effort_24 rfl ?_
      refine w_putIP d_q_effort_25 FL_q_158 FW_6_5 (by decide) (rfl) (rfl) ?_
      refine w_aload_n d_q_effort_28 rfl ?_
      refine w_getR d_q_effort_29 FL_q_47 (by decide) (rfl) (rfl) ?_
      refine w_iload_n d_q_effort_32 rfl ?_
      refine w_putIP d_q_effort_33 FL_q_161 FW_6_6 (by decide) (rfl) (rfl) ?_
      refine w_iconst (v := nI 1) d_q_effort_36 (by decide +kernel) ?_
      refine w_zret (st := []) rfl d_q_effort_37 (by decide) ?_
      exact ⟨rb1 (decide_eq_true ⟨of_decide_eq_true h6, of_decide_eq_true h15⟩), by rw [if_pos ⟨of_decide_eq_true h6, of_decide_eq_true h15⟩]⟩
    · refine w_iconst (v := nI 0) d_q_effort_18 (by decide +kernel) ?_
      refine w_zret (st := []) rfl d_q_effort_19 (by decide) ?_
      exact ⟨rb0 (decide_eq_false (fun q => of_decide_eq_false h15 q.2)), by rw [if_neg (fun q => of_decide_eq_false h15 q.2)]⟩
set_option maxRecDepth 100000 in
set_option maxHeartbeats 4000000 in
theorem c_q_hit (S : St) (v : Int32) (rs : Nat) (hr : S.1 6 8 = nI rs) (hr8 : rs ≤ 8) : Ev M_q_hit [.ref 0, .int v] S (fun v9 S' => v9 = some (.int (if nI 0 ≤ v ∧ v ≤ S.1 6 8 - nI 1 then S.1 24 v.toNatClampNeg else -1)) ∧ S' = S) := by
  refine Ev.of MF_q_hit (all_cat rfl) (Nat.le_of_ble_eq_true rfl) ?_
  show Wp M_q_hit 0 [.ref 0, .int v] [] _ _
  refine w_aload_n d_q_hit_0 rfl ?_
  refine w_getR d_q_hit_1 FL_q_47 (by decide) (rfl) (rfl) ?_
  refine w_iload_n d_q_hit_4 rfl ?_
  refine w_callV1 (N := M_f_hasResult) d_q_hit_5 LK_q_182 MF_f_hasResult MV_f_hasResult NP_f_hasResult (by decide) (by decide) (rfl) rfl rfl (Nat.le_of_ble_eq_true rfl) ?_
  refine Ev.det (c_f_hasResult _ _) ?_
  refine w_if_eqB 23 d_q_hit_8 (by decide) (fun h8 => ?_) (fun h8 => ?_)
  · refine w_iconst (v := -1) d_q_hit_23 (by decide +kernel) ?_
    refine w_iret (st := []) rfl d_q_hit_24 ?_
    exact ⟨by rw [if_neg (of_decide_eq_false h8)], rfl⟩
  · have h8 := of_decide_eq_true h8
    obtain ⟨i, hi, rfl⟩ := in_idx (by omega) (hr ▸ h8)
    refine w_aload_n d_q_hit_11 rfl ?_
    refine w_getR d_q_hit_12 FL_q_47 (by decide) (rfl) (rfl) ?_
    refine w_getR d_q_hit_15 FL_q_185 (by decide) (rfl) (rfl) ?_
    refine w_iload_n d_q_hit_18 rfl ?_
    refine w_ialdN d_q_hit_19 (by decide) (rfl) (show i < 20 from (by omega)) ?_
    refine w_goto 24 d_q_hit_20 (by decide) ?_
    refine w_iret (st := []) rfl d_q_hit_24 ?_
    exact ⟨by rw [if_pos h8, nI_clamp (by omega)], rfl⟩
set_option maxRecDepth 100000 in
set_option maxHeartbeats 4000000 in
theorem c_q_far (S : St) (v : Int32) (rs : Nat) (hr : S.1 6 8 = nI rs) (hr8 : rs ≤ 8) : Ev M_q_far [.ref 0, .int v] S (fun v9 S' => v9 = some (.int (if nI 0 ≤ v ∧ v ≤ S.1 6 8 - nI 1 then S.1 23 v.toNatClampNeg else -1)) ∧ S' = S) := by
  refine Ev.of MF_q_far (all_cat rfl) (Nat.le_of_ble_eq_true rfl) ?_
  show Wp M_q_far 0 [.ref 0, .int v] [] _ _
  refine w_aload_n d_q_far_0 rfl ?_
  refine w_getR d_q_far_1 FL_q_47 (by decide) (rfl) (rfl) ?_
  refine w_iload_n d_q_far_4 rfl ?_
  refine w_callV1 (N := M_f_hasResult) d_q_far_5 LK_q_182 MF_f_hasResult MV_f_hasResult NP_f_hasResult (by decide) (by decide) (rfl) rfl rfl (Nat.le_of_ble_eq_true rfl) ?_
  refine Ev.det (c_f_hasResult _ _) ?_
  refine w_if_eqB 23 d_q_far_8 (by decide) (fun h8 => ?_) (fun h8 => ?_)
  · refine w_iconst (v := -1) d_q_far_23 (by decide +kernel) ?_
    refine w_iret (st := []) rfl d_q_far_24 ?_
    exact ⟨by rw [if_neg (of_decide_eq_false h8)], rfl⟩
  · have h8 := of_decide_eq_true h8
    obtain ⟨i, hi, rfl⟩ := in_idx (by omega) (hr ▸ h8)
    refine w_aload_n d_q_far_11 rfl ?_
    refine w_getR d_q_far_12 FL_q_47 (by decide) (rfl) (rfl) ?_
    refine w_getR d_q_far_15 FL_q_188 (by decide) (rfl) (rfl) ?_
    refine w_iload_n d_q_far_18 rfl ?_
    refine w_ialdN d_q_far_19 (by decide) (rfl) (show i < 20 from (by omega)) ?_
    refine w_goto 24 d_q_far_20 (by decide) ?_
    refine w_iret (st := []) rfl d_q_far_24 ?_
    exact ⟨by rw [if_pos h8, nI_clamp (by omega)], rfl⟩
set_option maxRecDepth 100000 in
set_option maxHeartbeats 4000000 in
theorem c_q_scanned (S : St) : Ev M_q_scanned [.ref 0] S (fun v9 S' => v9 = some (.int (S.1 6 7)) ∧ S' = S) := by
  refine Ev.of MF_q_scanned (all_cat rfl) (Nat.le_of_ble_eq_true rfl) ?_
  show Wp M_q_scanned 0 [.ref 0] [] _ _
  refine w_aload_n d_q_scanned_0 rfl ?_
  refine w_getR d_q_scanned_1 FL_q_47 (by decide) (rfl) (rfl) ?_
  refine w_getI d_q_scanned_4 FL_q_191 (by decide) (rfl) (rfl) ?_
  refine w_iret (st := []) rfl d_q_scanned_7 ?_
  exact ⟨rfl, rfl⟩
set_option maxRecDepth 100000 in
set_option maxHeartbeats 4000000 in
theorem c_q_alter (S : St) (v w : Int32) (n : Nat) (hn : S.1 7 1 = nI n) (hn2 : n ≤ 250) : Ev M_q_alter [.ref 0, .int v, .int w] S (fun v9 S' => v9 = some (.int (bI (decide ((nI 0 ≤ v ∧ v ≤ nI n) ∧ ¬ nI 250 ≤ v ∧ (nI 0 ≤ w ∧ w ≤ nI 255))))) ∧ S' = (if (nI 0 ≤ v ∧ v ≤ nI n) ∧ ¬ nI 250 ≤ v ∧ (nI 0 ≤ w ∧ w ≤ nI 255) then (if v.toNatClampNeg = n then put (put S 25 v.toNatClampNeg w) 7 1 (nI (n + 1)) else put S 25 v.toNatClampNeg w) else S)) := by
  refine Ev.of MF_q_alter (all_cat rfl) (Nat.le_of_ble_eq_true rfl) ?_
  show Wp M_q_alter 0 [.ref 0, .int v, .int w] [] _ _
  refine w_iload_n d_q_alter_0 rfl ?_
  refine w_iconst (v := nI 0) d_q_alter_1 (by decide +kernel) ?_
  refine w_aload_n d_q_alter_2 rfl ?_
  refine w_getR d_q_alter_3 FL_q_54 (by decide) (rfl) (rfl) ?_
  refine w_getIV (v := (nI n)) d_q_alter_6 FL_q_194 (by decide) (rfl) (rfl) (hn) ?_
  refine w_callS3 (N := M_q_isWithin) d_q_alter_9 LK_q_86 MF_q_isWithin MS_q_isWithin NP_q_isWithin (by decide) rfl (Nat.le_of_ble_eq_true rfl) ?_
  refine Ev.det (c_q_isWithin _ _ _ _) ?_
  refine w_if_eqB 33 d_q_alter_12 (by decide) (fun h12 => ?_) (fun h12 => ?_)
  · refine w_iconst (v := nI 0) d_q_alter_33 (by decide +kernel) ?_
    refine w_zret (st := []) rfl d_q_alter_34 (by decide) ?_
    exact ⟨rb0 (decide_eq_false (fun q => of_decide_eq_false h12 q.1)), by rw [if_neg (fun q => of_decide_eq_false h12 q.1)]⟩
  · refine w_iload_n d_q_alter_15 rfl ?_
    refine w_sipush (v := nI 250) d_q_alter_16 (by decide +kernel) ?_
    refine w_icmp_ge 33 d_q_alter_19 (by decide) (fun h19 => ?_) (fun h19 => ?_)
    · refine w_iconst (v := nI 0) d_q_alter_33 (by decide +kernel) ?_
      refine w_zret (st := []) rfl d_q_alter_34 (by decide) ?_
      exact ⟨rb0 (decide_eq_false (fun q => q.2.1 h19)), by rw [if_neg (fun q => q.2.1 h19)]⟩
    · refine w_iload_n d_q_alter_22 rfl ?_
      refine w_iconst (v := nI 0) d_q_alter_23 (by decide +kernel) ?_
      refine w_sipush (v := nI 255) d_q_alter_24 (by decide +kernel) ?_
      refine w_callS3 (N := M_q_isWithin) d_q_alter_27 LK_q_86 MF_q_isWithin MS_q_isWithin NP_q_isWithin (by decide) rfl (Nat.le_of_ble_eq_true rfl) ?_
      refine Ev.det (c_q_isWithin _ _ _ _) ?_
      refine w_if_neB 35 d_q_alter_30 (by decide) (fun h30 => ?_) (fun h30 => ?_)
      · have h12 := of_decide_eq_true h12
        have h30 := of_decide_eq_true h30
        obtain ⟨i, -, hi, rfl⟩ := nI_in2 h12 (by decide) (by omega)
        have hi2 : i < 250 := by rw [nI_leI (by decide) (by omega)] at h19; omega
        refine w_aload_n d_q_alter_35 rfl ?_
        refine w_getR d_q_alter_36 FL_q_54 (by decide) (rfl) (rfl) ?_
        refine w_getR d_q_alter_39 FL_q_215 (by decide) (rfl) (rfl) ?_
        refine w_iload_n d_q_alter_42 rfl ?_
        refine w_iload_n d_q_alter_43 rfl ?_
        refine w_iastNP d_q_alter_44 (by decide) (rfl) (show i < 250 from (by omega)) ?_
        refine w_iload_n d_q_alter_45 rfl ?_
        refine w_aload_n d_q_alter_46 rfl ?_
        refine w_getR d_q_alter_47 FL_q_54 (by decide) (rfl) (rfl) ?_
        refine w_getIV (v := (nI n)) d_q_alter_50 FL_q_194 (by decide) (rfl) (rfl) (by rw [put_ne (by omega)]; exact hn) ?_
        refine w_icmp_neN 69 d_q_alter_53 (by decide) (by omega) (by omega) (fun h53 => ?_) (fun h53 => ?_)
        · refine w_iconst (v := nI 1) d_q_alter_69 (by decide +kernel) ?_
          refine w_zret (st := []) rfl d_q_alter_70 (by decide) ?_
          exact ⟨rb1 (decide_eq_true ⟨h12, h19, h30⟩), by rw [if_pos ⟨h12, h19, h30⟩, nI_clamp (by omega), if_neg h53]⟩
        · refine w_aload_n d_q_alter_56 rfl ?_
          refine w_getR d_q_alter_57 FL_q_54 (by decide) (rfl) (rfl) ?_
          refine w_dup d_q_alter_60 rfl ?_
          refine w_getIV (v := (nI n)) d_q_alter_61 FL_q_194 (by decide) (rfl) (rfl) (by rw [put_ne (by omega)]; exact hn) ?_
          refine w_iconst (v := nI 1) d_q_alter_64 (by decide +kernel) ?_
          refine w_iaddN d_q_alter_65 ?_
          refine w_putIP d_q_alter_66 FL_q_194 FW_7_1 (by decide) (rfl) (rfl) ?_
          refine w_iconst (v := nI 1) d_q_alter_69 (by decide +kernel) ?_
          refine w_zret (st := []) rfl d_q_alter_70 (by decide) ?_
          exact ⟨rb1 (decide_eq_true ⟨h12, h19, h30⟩), by rw [if_pos ⟨h12, h19, h30⟩, nI_clamp (by omega), if_pos h53]⟩
      · refine w_iconst (v := nI 0) d_q_alter_33 (by decide +kernel) ?_
        refine w_zret (st := []) rfl d_q_alter_34 (by decide) ?_
        exact ⟨rb0 (decide_eq_false (fun q => of_decide_eq_false h30 q.2.2)), by rw [if_neg (fun q => of_decide_eq_false h30 q.2.2)]⟩
set_option maxRecDepth 100000 in
set_option maxHeartbeats 4000000 in
theorem c_q_cut (S : St) (v : Int32) (n : Nat) (hn : S.1 7 1 = nI n) : Ev M_q_cut [.ref 0, .int v] S (fun v9 S' => v9 = some (.int (bI (decide (nI 0 ≤ v ∧ v ≤ nI n)))) ∧ S' = (if nI 0 ≤ v ∧ v ≤ nI n then put S 7 1 v else S)) := by
  refine Ev.of MF_q_cut (all_cat rfl) (Nat.le_of_ble_eq_true rfl) ?_
  show Wp M_q_cut 0 [.ref 0, .int v] [] _ _
  refine w_iload_n d_q_cut_0 rfl ?_
  refine w_iconst (v := nI 0) d_q_cut_1 (by decide +kernel) ?_
  refine w_aload_n d_q_cut_2 rfl ?_
  refine w_getR d_q_cut_3 FL_q_54 (by decide) (rfl) (rfl) ?_
  refine w_getIV (v := (nI n)) d_q_cut_6 FL_q_194 (by decide) (rfl) (rfl) (hn) ?_
  refine w_callS3 (N := M_q_isWithin) d_q_cut_9 LK_q_86 MF_q_isWithin MS_q_isWithin NP_q_isWithin (by decide) rfl (Nat.le_of_ble_eq_true rfl) ?_
  refine Ev.det (c_q_isWithin _ _ _ _) ?_
  refine w_if_neB 17 d_q_cut_12 (by decide) (fun h12 => ?_) (fun h12 => ?_)
  · refine w_aload_n d_q_cut_17 rfl ?_
    refine w_getR d_q_cut_18 FL_q_54 (by decide) (rfl) (rfl) ?_
    refine w_iload_n d_q_cut_21 rfl ?_
    refine w_putIP d_q_cut_22 FL_q_194 FW_7_1 (by decide) (rfl) (rfl) ?_
    refine w_iconst (v := nI 1) d_q_cut_25 (by decide +kernel) ?_
    refine w_zret (st := []) rfl d_q_cut_26 (by decide) ?_
    exact ⟨rb1 h12, by rw [if_pos (of_decide_eq_true h12)]⟩
  · refine w_iconst (v := nI 0) d_q_cut_15 (by decide +kernel) ?_
    refine w_zret (st := []) rfl d_q_cut_16 (by decide) ?_
    exact ⟨rb0 h12, by rw [if_neg (of_decide_eq_false h12)]⟩
set_option maxRecDepth 100000 in
set_option maxHeartbeats 4000000 in
theorem c_q_byteAt (S : St) (v : Int32) (n : Nat) (hn : S.1 7 1 = nI n) (hn2 : n ≤ 250) : Ev M_q_byteAt [.ref 0, .int v] S (fun v9 S' => v9 = some (.int (if nI 0 ≤ v ∧ v ≤ nI n - nI 1 then S.1 25 v.toNatClampNeg else -1)) ∧ S' = S) := by
  refine Ev.of MF_q_byteAt (all_cat rfl) (Nat.le_of_ble_eq_true rfl) ?_
  show Wp M_q_byteAt 0 [.ref 0, .int v] [] _ _
  refine w_iload_n d_q_byteAt_0 rfl ?_
  refine w_iconst (v := nI 0) d_q_byteAt_1 (by decide +kernel) ?_
  refine w_aload_n d_q_byteAt_2 rfl ?_
  refine w_getR d_q_byteAt_3 FL_q_54 (by decide) (rfl) (rfl) ?_
  refine w_getIV (v := (nI n)) d_q_byteAt_6 FL_q_194 (by decide) (rfl) (rfl) (hn) ?_
  refine w_iconst (v := nI 1) d_q_byteAt_9 (by decide +kernel) ?_
  refine w_isub d_q_byteAt_10 ?_
  refine w_callS3 (N := M_q_isWithin) d_q_byteAt_11 LK_q_86 MF_q_isWithin MS_q_isWithin NP_q_isWithin (by decide) rfl (Nat.le_of_ble_eq_true rfl) ?_
  refine Ev.det (c_q_isWithin _ _ _ _) ?_
  refine w_if_eqB 29 d_q_byteAt_14 (by decide) (fun h14 => ?_) (fun h14 => ?_)
  · refine w_iconst (v := -1) d_q_byteAt_29 (by decide +kernel) ?_
    refine w_iret (st := []) rfl d_q_byteAt_30 ?_
    exact ⟨by rw [if_neg (of_decide_eq_false h14)], rfl⟩
  · have h14 := of_decide_eq_true h14
    obtain ⟨i, hi, rfl⟩ := in_idx (by omega) h14
    refine w_aload_n d_q_byteAt_17 rfl ?_
    refine w_getR d_q_byteAt_18 FL_q_54 (by decide) (rfl) (rfl) ?_
    refine w_getR d_q_byteAt_21 FL_q_215 (by decide) (rfl) (rfl) ?_
    refine w_iload_n d_q_byteAt_24 rfl ?_
    refine w_ialdN d_q_byteAt_25 (by decide) (rfl) (show i < 250 from (by omega)) ?_
    refine w_goto 30 d_q_byteAt_26 (by decide) ?_
    refine w_iret (st := []) rfl d_q_byteAt_30 ?_
    exact ⟨by rw [if_pos h14, nI_clamp (by omega)], rfl⟩
