set_option maxRecDepth 100000 in
set_option maxHeartbeats 4000000 in
theorem c_q_isWithin (S : St) (v lo hi : Int32) : Ev M_q_isWithin [.int v, .int lo, .int hi] S (fun v9 S' => v9 = some (.int (bI (decide (lo ≤ v ∧ v ≤ hi)))) ∧ S' = S) := by
  refine Ev.of MF_q_isWithin (all_cat rfl) (Nat.le_of_ble_eq_true rfl) ?_
  show Wp M_q_isWithin 0 [.int v, .int lo, .int hi] [] _ _
  refine w_iload_n d_q_isWithin_0 rfl ?_
  refine w_iload_n d_q_isWithin_1 rfl ?_
  refine w_icmp_lt 14 d_q_isWithin_2 (by decide) (fun h2 => ?_) (fun h2 => ?_)
  · refine w_iconst (v := nI 0) d_q_isWithin_14 (by decide +kernel) ?_
    refine w_zret (st := []) rfl d_q_isWithin_15 (by decide) ?_
    exact ⟨rb0 (decide_eq_false (fun q => absurd h2 (Int32.not_lt.mpr q.1))), rfl⟩
  · refine w_iload_n d_q_isWithin_5 rfl ?_
    refine w_iload_n d_q_isWithin_6 rfl ?_
    refine w_icmp_gt 14 d_q_isWithin_7 (by decide) (fun h7 => ?_) (fun h7 => ?_)
    · refine w_iconst (v := nI 0) d_q_isWithin_14 (by decide +kernel) ?_
      refine w_zret (st := []) rfl d_q_isWithin_15 (by decide) ?_
      exact ⟨rb0 (decide_eq_false (fun q => absurd h7 (Int32.not_lt.mpr q.2))), rfl⟩
    · refine w_iconst (v := nI 1) d_q_isWithin_10 (by decide +kernel) ?_
      refine w_goto 15 d_q_isWithin_11 (by decide) ?_
      refine w_zret (st := []) rfl d_q_isWithin_15 (by decide) ?_
      exact ⟨rb1 (decide_eq_true ⟨Int32.not_lt.mp h2, Int32.not_lt.mp h7⟩), rfl⟩
set_option maxRecDepth 100000 in
set_option maxHeartbeats 4000000 in
theorem c_m_within (S : St) (v lo hi : Int32) : Ev M_m_within [.int v, .int lo, .int hi] S (fun v9 S' => v9 = some (.int (bI (decide (lo ≤ v ∧ v ≤ hi)))) ∧ S' = S) := by
  refine Ev.of MF_m_within (all_cat rfl) (Nat.le_of_ble_eq_true rfl) ?_
  show Wp M_m_within 0 [.int v, .int lo, .int hi] [] _ _
  refine w_iload_n d_m_within_0 rfl ?_
  refine w_iload_n d_m_within_1 rfl ?_
  refine w_icmp_lt 14 d_m_within_2 (by decide) (fun h2 => ?_) (fun h2 => ?_)
  · refine w_iconst (v := nI 0) d_m_within_14 (by decide +kernel) ?_
    refine w_zret (st := []) rfl d_m_within_15 (by decide) ?_
    exact ⟨rb0 (decide_eq_false (fun q => absurd h2 (Int32.not_lt.mpr q.1))), rfl⟩
  · refine w_iload_n d_m_within_5 rfl ?_
    refine w_iload_n d_m_within_6 rfl ?_
    refine w_icmp_gt 14 d_m_within_7 (by decide) (fun h7 => ?_) (fun h7 => ?_)
    · refine w_iconst (v := nI 0) d_m_within_14 (by decide +kernel) ?_
      refine w_zret (st := []) rfl d_m_within_15 (by decide) ?_
      exact ⟨rb0 (decide_eq_false (fun q => absurd h7 (Int32.not_lt.mpr q.2))), rfl⟩
    · refine w_iconst (v := nI 1) d_m_within_10 (by decide +kernel) ?_
      refine w_goto 15 d_m_within_11 (by decide) ?_
      refine w_zret (st := []) rfl d_m_within_15 (by decide) ?_
      exact ⟨rb1 (decide_eq_true ⟨Int32.not_lt.mp h2, Int32.not_lt.mp h7⟩), rfl⟩
set_option maxRecDepth 100000 in
set_option maxHeartbeats 4000000 in
theorem c_q_isBad (S : St) (a b c d : Int32) : Ev M_q_isBad [.int a, .int b, .int c, .int d] S (fun v9 S' => v9 = some (.int (bI (badPt a b c d))) ∧ S' = S) := by
  refine Ev.of MF_q_isBad (all_cat rfl) (Nat.le_of_ble_eq_true rfl) ?_
  show Wp M_q_isBad 0 [.int a, .int b, .int c, .int d] [] _ _
  refine w_iload_n d_q_isBad_0 rfl ?_
  refine w_bipush (v := -100) d_q_isBad_1 (by decide +kernel) ?_
  refine w_bipush (v := nI 100) d_q_isBad_3 (by decide +kernel) ?_
  refine w_callS3 (N := M_q_isWithin) d_q_isBad_5 LK_q_86 MF_q_isWithin MS_q_isWithin NP_q_isWithin (by decide) rfl (Nat.le_of_ble_eq_true rfl) ?_
  refine Ev.det (c_q_isWithin _ _ _ _) ?_
  refine w_if_eqB 44 d_q_isBad_8 (by decide) (fun h8 => ?_) (fun h8 => ?_)
  · refine w_iconst (v := nI 1) d_q_isBad_44 (by decide +kernel) ?_
    refine w_goto 49 d_q_isBad_45 (by decide) ?_
    refine w_zret (st := []) rfl d_q_isBad_49 (by decide) ?_
    exact ⟨rb1 (by unfold badPt; rw [Bool.not_eq_true', decide_eq_false_iff_not]; intro q; have q1 := of_decide_eq_false h8; exact q1 (by first | exact q.1 | exact q.2.1 | exact q.2.2.1 | exact q.2.2.2)), rfl⟩
  · refine w_iload_n d_q_isBad_11 rfl ?_
    refine w_bipush (v := -100) d_q_isBad_12 (by decide +kernel) ?_
    refine w_bipush (v := nI 100) d_q_isBad_14 (by decide +kernel) ?_
    refine w_callS3 (N := M_q_isWithin) d_q_isBad_16 LK_q_86 MF_q_isWithin MS_q_isWithin NP_q_isWithin (by decide) rfl (Nat.le_of_ble_eq_true rfl) ?_
    refine Ev.det (c_q_isWithin _ _ _ _) ?_
    refine w_if_eqB 44 d_q_isBad_19 (by decide) (fun h19 => ?_) (fun h19 => ?_)
    · refine w_iconst (v := nI 1) d_q_isBad_44 (by decide +kernel) ?_
      refine w_goto 49 d_q_isBad_45 (by decide) ?_
      refine w_zret (st := []) rfl d_q_isBad_49 (by decide) ?_
      exact ⟨rb1 (by unfold badPt; rw [Bool.not_eq_true', decide_eq_false_iff_not]; intro q; have q1 := of_decide_eq_false h19; exact q1 (by first | exact q.1 | exact q.2.1 | exact q.2.2.1 | exact q.2.2.2)), rfl⟩
    · refine w_iload_n d_q_isBad_22 rfl ?_
      refine w_bipush (v := -100) d_q_isBad_23 (by decide +kernel) ?_
      refine w_bipush (v := nI 100) d_q_isBad_25 (by decide +kernel) ?_
      refine w_callS3 (N := M_q_isWithin) d_q_isBad_27 LK_q_86 MF_q_isWithin MS_q_isWithin NP_q_isWithin (by decide) rfl (Nat.le_of_ble_eq_true rfl) ?_
      refine Ev.det (c_q_isWithin _ _ _ _) ?_
      refine w_if_eqB 44 d_q_isBad_30 (by decide) (fun h30 => ?_) (fun h30 => ?_)
      · refine w_iconst (v := nI 1) d_q_isBad_44 (by decide +kernel) ?_
        refine w_goto 49 d_q_isBad_45 (by decide) ?_
        refine w_zret (st := []) rfl d_q_isBad_49 (by decide) ?_
        exact ⟨rb1 (by unfold badPt; rw [Bool.not_eq_true', decide_eq_false_iff_not]; intro q; have q1 := of_decide_eq_false h30; exact q1 (by first | exact q.1 | exact q.2.1 | exact q.2.2.1 | exact q.2.2.2)), rfl⟩
      · refine w_iload_n d_q_isBad_33 rfl ?_
        refine w_bipush (v := -100) d_q_isBad_34 (by decide +kernel) ?_
        refine w_bipush (v := nI 100) d_q_isBad_36 (by decide +kernel) ?_
        refine w_callS3 (N := M_q_isWithin) d_q_isBad_38 LK_q_86 MF_q_isWithin MS_q_isWithin NP_q_isWithin (by decide) rfl (Nat.le_of_ble_eq_true rfl) ?_
        refine Ev.det (c_q_isWithin _ _ _ _) ?_
        refine w_if_neB 48 d_q_isBad_41 (by decide) (fun h41 => ?_) (fun h41 => ?_)
        · refine w_iconst (v := nI 0) d_q_isBad_48 (by decide +kernel) ?_
          refine w_zret (st := []) rfl d_q_isBad_49 (by decide) ?_
          exact ⟨rb0 (by unfold badPt; rw [Bool.not_eq_false']; exact decide_eq_true ⟨of_decide_eq_true h8, of_decide_eq_true h19, of_decide_eq_true h30, of_decide_eq_true h41⟩), rfl⟩
        · refine w_iconst (v := nI 1) d_q_isBad_44 (by decide +kernel) ?_
          refine w_goto 49 d_q_isBad_45 (by decide) ?_
          refine w_zret (st := []) rfl d_q_isBad_49 (by decide) ?_
          exact ⟨rb1 (by unfold badPt; rw [Bool.not_eq_true', decide_eq_false_iff_not]; intro q; have q1 := of_decide_eq_false h41; exact q1 (by first | exact q.1 | exact q.2.1 | exact q.2.2.1 | exact q.2.2.2)), rfl⟩
set_option maxRecDepth 100000 in
set_option maxHeartbeats 4000000 in
theorem c_q_setPoint (S : St) (r : Nat) (a b c d : Int32) (hr1 : r < 204) (hr2 : kd r = 0) (hr3 : ln r = 4) : Ev M_q_setPoint [.ref r, .int a, .int b, .int c, .int d] S (fun v9 S' => v9 = none ∧ S' = setRow S r (pt a b c d) 4) := by
  refine Ev.of MF_q_setPoint (all_cat rfl) (Nat.le_of_ble_eq_true rfl) ?_
  show Wp M_q_setPoint 0 [.ref r, .int a, .int b, .int c, .int d] [] _ _
  refine w_aload_n d_q_setPoint_0 rfl ?_
  refine w_iconst (v := nI 0) d_q_setPoint_1 (by decide +kernel) ?_
  refine w_iload_n d_q_setPoint_2 rfl ?_
  refine w_iastNP d_q_setPoint_3 (hr1) (hr2) (show 0 < ln r by rw [hr3]; omega) ?_
  refine w_aload_n d_q_setPoint_4 rfl ?_
  refine w_iconst (v := nI 1) d_q_setPoint_5 (by decide +kernel) ?_
  refine w_iload_n d_q_setPoint_6 rfl ?_
  refine w_iastNP d_q_setPoint_7 (hr1) (hr2) (show 1 < ln r by rw [hr3]; omega) ?_
  refine w_aload_n d_q_setPoint_8 rfl ?_
  refine w_iconst (v := nI 2) d_q_setPoint_9 (by decide +kernel) ?_
  refine w_iload_n d_q_setPoint_10 rfl ?_
  show Wp _ 11 _ _ _ _
  refine w_iastNP d_q_setPoint_11 (hr1) (hr2) (show 2 < ln r by rw [hr3]; omega) ?_
  refine w_aload_n d_q_setPoint_12 rfl ?_
  refine w_iconst (v := nI 3) d_q_setPoint_13 (by decide +kernel) ?_
  refine w_iload d_q_setPoint_14 rfl ?_
  refine w_iastNP d_q_setPoint_16 (hr1) (hr2) (show 3 < ln r by rw [hr3]; omega) ?_
  refine w_ret (st := []) rfl d_q_setPoint_17 ?_
  refine ⟨rfl, ?_⟩
  rw [← setRow_s (f := pt a b c d) (n := 3) rfl, ← setRow_s (f := pt a b c d) (n := 2) rfl, ← setRow_s (f := pt a b c d) (n := 1) rfl, ← setRow_s (f := pt a b c d) (n := 0) rfl, setRow_0]
  rfl
def parts (k : Int32) : Nat := if k = 0 then 2 else if k = 1 then 4 else 0
def pwid (k : Int32) : Nat := if k = 0 then 2 else if k = 1 then 1 else 0
theorem parts_le (k : Int32) : parts k ≤ 4 := by unfold parts; (repeat' split) <;> omega
theorem pwid_le (k : Int32) : pwid k ≤ 2 := by unfold pwid; (repeat' split) <;> omega
set_option maxRecDepth 100000 in
set_option maxHeartbeats 4000000 in
theorem c_q_partsOf (S : St) (kind : Int32) : Ev M_q_partsOf [.int kind] S (fun v9 S' => v9 = some (.int (nI (parts kind))) ∧ S' = S) := by
  refine Ev.of MF_q_partsOf (all_cat rfl) (Nat.le_of_ble_eq_true rfl) ?_
  show Wp M_q_partsOf 0 [.int kind] [] _ _
  refine w_iload_n d_q_partsOf_0 rfl ?_
  refine w_if_ne 6 d_q_partsOf_1 (by decide) (fun h1 => ?_) (fun h1 => ?_)
  · refine w_iload_n d_q_partsOf_6 rfl ?_
    refine w_iconst (v := nI 1) d_q_partsOf_7 (by decide +kernel) ?_
    refine w_icmp_ne 15 d_q_partsOf_8 (by decide) (fun h8 => ?_) (fun h8 => ?_)
    · refine w_iconst (v := nI 0) d_q_partsOf_15 (by decide +kernel) ?_
      refine w_iret (st := []) rfl d_q_partsOf_16 ?_
      refine ⟨?_, rfl⟩
      have e1 : (nI 1 : Int32) = 1 := by decide
      have e0 : (nI 0 : Int32) = 0 := by decide
      simp_all [parts]
    · refine w_iconst (v := nI 4) d_q_partsOf_11 (by decide +kernel) ?_
      refine w_goto 16 d_q_partsOf_12 (by decide) ?_
      refine w_iret (st := []) rfl d_q_partsOf_16 ?_
      refine ⟨?_, rfl⟩
      have e1 : (nI 1 : Int32) = 1 := by decide
      have e0 : (nI 0 : Int32) = 0 := by decide
      simp_all [parts]
  · refine w_iconst (v := nI 2) d_q_partsOf_4 (by decide +kernel) ?_
    refine w_iret (st := []) rfl d_q_partsOf_5 ?_
    refine ⟨?_, rfl⟩
    have e1 : (nI 1 : Int32) = 1 := by decide
    have e0 : (nI 0 : Int32) = 0 := by decide
    simp_all [parts]
set_option maxRecDepth 100000 in
set_option maxHeartbeats 4000000 in
theorem c_q_partWidthOf (S : St) (kind : Int32) : Ev M_q_partWidthOf [.int kind] S (fun v9 S' => v9 = some (.int (nI (pwid kind))) ∧ S' = S) := by
  refine Ev.of MF_q_partWidthOf (all_cat rfl) (Nat.le_of_ble_eq_true rfl) ?_
  show Wp M_q_partWidthOf 0 [.int kind] [] _ _
  refine w_iload_n d_q_partWidthOf_0 rfl ?_
  refine w_if_ne 6 d_q_partWidthOf_1 (by decide) (fun h1 => ?_) (fun h1 => ?_)
  · refine w_iload_n d_q_partWidthOf_6 rfl ?_
    refine w_iconst (v := nI 1) d_q_partWidthOf_7 (by decide +kernel) ?_
    refine w_icmp_ne 15 d_q_partWidthOf_8 (by decide) (fun h8 => ?_) (fun h8 => ?_)
    · refine w_iconst (v := nI 0) d_q_partWidthOf_15 (by decide +kernel) ?_
      refine w_iret (st := []) rfl d_q_partWidthOf_16 ?_
      refine ⟨?_, rfl⟩
      have e1 : (nI 1 : Int32) = 1 := by decide
      have e0 : (nI 0 : Int32) = 0 := by decide
      simp_all [pwid]
    · refine w_iconst (v := nI 1) d_q_partWidthOf_11 (by decide +kernel) ?_
      refine w_goto 16 d_q_partWidthOf_12 (by decide) ?_
      refine w_iret (st := []) rfl d_q_partWidthOf_16 ?_
      refine ⟨?_, rfl⟩
      have e1 : (nI 1 : Int32) = 1 := by decide
      have e0 : (nI 0 : Int32) = 0 := by decide
      simp_all [pwid]
  · refine w_iconst (v := nI 2) d_q_partWidthOf_4 (by decide +kernel) ?_
    refine w_iret (st := []) rfl d_q_partWidthOf_5 ?_
    refine ⟨?_, rfl⟩
    have e1 : (nI 1 : Int32) = 1 := by decide
    have e0 : (nI 0 : Int32) = 0 := by decide
    simp_all [pwid]
set_option maxRecDepth 100000 in
set_option maxHeartbeats 4000000 in
theorem c_q_wordRow (S : St) (p n : Nat) : Ev M_q_wordRow [.int (nI p), .int (nI n)] S (fun v9 S' => v9 = some (.int (nI (p * 4 + n))) ∧ S' = S) := by
  refine Ev.of MF_q_wordRow (all_cat rfl) (Nat.le_of_ble_eq_true rfl) ?_
  show Wp M_q_wordRow 0 [.int (nI p), .int (nI n)] [] _ _
  refine w_iload_n d_q_wordRow_0 rfl ?_
  refine w_iconst (v := nI 4) d_q_wordRow_1 (by decide +kernel) ?_
  refine w_imulN d_q_wordRow_2 ?_
  refine w_iload_n d_q_wordRow_3 rfl ?_
  refine w_iaddN d_q_wordRow_4 ?_
  refine w_iret (st := []) rfl d_q_wordRow_5 ?_
  exact ⟨rfl, rfl⟩
set_option maxRecDepth 100000 in
set_option maxHeartbeats 4000000 in
theorem c_q_subtract (S : St) (p c l : Nat) (hp1 : p < 204) (hp2 : kd p = 0) (hp3 : ln p = 4) (hc1 : c < 204) (hc2 : kd c = 0) (hc3 : ln c = 4) (hl1 : l < 204) (hl2 : kd l = 0) (hl3 : ln l = 4) (hcl : c ≠ l) : Ev M_q_subtract [.ref p, .ref c, .ref l] S (fun v9 S' => v9 = none ∧ S' = setRow S l (fun k => S.1 p k - S.1 c k) 4) := by
  refine Ev.of MF_q_subtract (all_cat rfl) (Nat.le_of_ble_eq_true rfl) ?_
  show Wp M_q_subtract 0 [.ref p, .ref c, .ref l, .null] [] _ _
  have hk0 : ∀ k, k ≤ 4 → ∀ (S1 : St), S1 = setRow S l (fun k => S.1 p k - S.1 c k) k → Wp M_q_subtract 2 [.ref p, .ref c, .ref l, .int (nI k)] [] S1 (fun v9 S' => v9 = none ∧ S' = setRow S l (fun k => S.1 p k - S.1 c k) 4) := by
    refine loopUp (4) (fun k hk9 hn => ?_)
    intro S1 hS
    refine w_iload_n d_q_subtract_2 rfl ?_
    refine w_iconst (v := nI 4) d_q_subtract_3 (by decide +kernel) ?_
    refine w_icmp_geN 23 d_q_subtract_4 (by decide) (by omega) (by omega) (fun h4 => ?_) (fun h4 => ?_)
    · refine w_ret (st := []) rfl d_q_subtract_23 ?_
      obtain rfl : k = 4 := by omega
      exact ⟨rfl, hS⟩
    · refine w_aload_n d_q_subtract_7 rfl ?_
      refine w_iload_n d_q_subtract_8 rfl ?_
      refine w_aload_n d_q_subtract_9 rfl ?_
      refine w_iload_n d_q_subtract_10 rfl ?_
      refine w_ialdN d_q_subtract_11 (hp1) (hp2) (show k < ln p by rw [hp3]; omega) ?_
      refine w_aload_n d_q_subtract_12 rfl ?_
      refine w_iload_n d_q_subtract_13 rfl ?_
      refine w_ialdN d_q_subtract_14 (hc1) (hc2) (show k < ln c by rw [hc3]; omega) ?_
      refine w_isub d_q_subtract_15 ?_
      refine w_iastNP d_q_subtract_16 (hl1) (hl2) (show k < ln l by rw [hl3]; omega) ?_
      refine w_iincN d_q_subtract_17 rfl ?_
      show Wp _ 20 _ _ _ _
      refine w_goto 2 d_q_subtract_20 (by decide) ?_
      refine hn h4 _ ?_
      subst hS
      refine setRow_s ?_
      rw [setRow_ne hcl]
      by_cases hpl : p = l
      · subst hpl; rw [setRow_hi (by omega)]
      · rw [setRow_ne hpl]
  refine w_iconst (v := nI 0) d_q_subtract_0 (by decide +kernel) ?_
  refine w_istore_n d_q_subtract_1 (Nat.le_of_ble_eq_true rfl) ?_
  exact hk0 0 (by omega) _ (setRow_0 _ _ _).symm
set_option maxRecDepth 100000 in
set_option maxHeartbeats 4000000 in
theorem c_q_distance (S : St) (r p fr w : Nat) (hr1 : r < 204) (hr2 : kd r = 0) (hr3 : w ≤ ln r) (hp1 : p < 204) (hp2 : kd p = 0) (hp3 : fr + w ≤ ln p) (hw : w ≤ 4) : Ev M_q_distance [.ref r, .ref p, .int (nI fr), .int (nI w)] S (fun v9 S' => v9 = some (.int (dst (S.1 r) (fun k => S.1 p (fr + k)) w)) ∧ S' = S) := by
  refine Ev.of MF_q_distance (all_cat rfl) (Nat.le_of_ble_eq_true rfl) ?_
  show Wp M_q_distance 0 [.ref r, .ref p, .int (nI fr), .int (nI w), .null, .null, .null] [] _ _
  have hk0 : ∀ k, k ≤ w → ∀ x6 : Value, Wp M_q_distance 6 [.ref r, .ref p, .int (nI fr), .int (nI w), .int ((dst (S.1 r) (fun k => S.1 p (fr + k)) k)), .int (nI k), x6] [] S (fun v S' => v = some (.int (dst (S.1 r) (fun k => S.1 p (fr + k)) w)) ∧ S' = S) := by
    refine loopUp w (fun k hk hn => ?_)
    intro x6
    refine w_iload d_q_distance_6 rfl ?_
    refine w_iload_n d_q_distance_8 rfl ?_
    refine w_icmp_geN 41 d_q_distance_9 (by decide) (by omega) (by omega) (fun h9 => ?_) (fun h9 => ?_)
    · refine w_iload d_q_distance_41 rfl ?_
      refine w_iret (st := []) rfl d_q_distance_43 ?_
      obtain rfl : k = w := by omega
      exact ⟨rfl, rfl⟩
    · refine w_aload_n d_q_distance_12 rfl ?_
      refine w_iload d_q_distance_13 rfl ?_
      refine w_ialdN d_q_distance_15 (hr1) (hr2) (by omega) ?_
      refine w_aload_n d_q_distance_16 rfl ?_
      refine w_iload_n d_q_distance_17 rfl ?_
      refine w_iload d_q_distance_18 rfl ?_
      refine w_iaddN d_q_distance_20 ?_
      refine w_ialdN d_q_distance_21 (hp1) (hp2) (by omega) ?_
      refine w_isub d_q_distance_22 ?_
      refine w_istore d_q_distance_23 (Nat.le_of_ble_eq_true rfl) ?_
      refine w_iload d_q_distance_25 rfl ?_
      show Wp _ 27 _ _ _ _
      refine w_iload d_q_distance_27 rfl ?_
      refine w_iload d_q_distance_29 rfl ?_
      refine w_imul d_q_distance_31 ?_
      refine w_iadd d_q_distance_32 ?_
      refine w_istore d_q_distance_33 (Nat.le_of_ble_eq_true rfl) ?_
      refine w_iincN d_q_distance_35 rfl ?_
      refine w_goto 6 d_q_distance_38 (by decide) ?_
      exact hn (by omega) _
  refine w_iconst (v := nI 0) d_q_distance_0 (by decide +kernel) ?_
  refine w_istore d_q_distance_1 (Nat.le_of_ble_eq_true rfl) ?_
  refine w_iconst (v := nI 0) d_q_distance_3 (by decide +kernel) ?_
  refine w_istore d_q_distance_4 (Nat.le_of_ble_eq_true rfl) ?_
  exact hk0 0 (by omega) _
set_option maxRecDepth 100000 in
set_option maxHeartbeats 4000000 in
theorem c_q_nearestRow (S : St) (g first n p fr w : Nat) (hg1 : g < 204) (hg2 : kd g = 2) (hg3 : first + n ≤ ln g) (h0 : 0 < n) (hn4 : n < 100) (hrow : ∀ j, j < n → gbase g + (first + j) < 204 ∧ kd (gbase g + (first + j)) = 0 ∧ w ≤ ln (gbase g + (first + j))) (hp1 : p < 204) (hp2 : kd p = 0) (hp3 : fr + w ≤ ln p) (hw : w ≤ 4) : Ev M_q_nearestRow [.ref g, .int (nI first), .int (nI n), .ref p, .int (nI fr), .int (nI w)] S (fun v9 S' => v9 = some (.int (nI (near (fun j => dst (S.1 (gbase g + (first + j))) (fun k => S.1 p (fr + k)) w) n))) ∧ S' = S) := by
  refine Ev.of MF_q_nearestRow (all_cat rfl) (Nat.le_of_ble_eq_true rfl) ?_
  show Wp M_q_nearestRow 0 [.ref g, .int (nI first), .int (nI n), .ref p, .int (nI fr), .int (nI w), .null, .null, .null, .null] [] _ _
  have hk0 : ∀ k, k ≤ n → ∀ (b : Nat) (x9 : Value), 1 ≤ k → b = near (fun j => dst (S.1 (gbase g + (first + j))) (fun k => S.1 p (fr + k)) w) k → Wp M_q_nearestRow 19 [.ref g, .int (nI first), .int (nI n), .ref p, .int (nI fr), .int (nI w), .int (nI b), .int (((fun j => dst (S.1 (gbase g + (first + j))) (fun k => S.1 p (fr + k)) w) b)), .int (nI k), x9] [] S (fun v9 S' => v9 = some (.int (nI (near (fun j => dst (S.1 (gbase g + (first + j))) (fun k => S.1 p (fr + k)) w) n))) ∧ S' = S) := by
    refine loopUp n (fun k hk hn => ?_)
    intro b x9 h1 hb
    refine w_iload d_q_nearestRow_19 rfl ?_
    refine w_iload_n d_q_nearestRow_21 rfl ?_
    refine w_icmp_geN 62 d_q_nearestRow_22 (by decide) (by omega) (by omega) (fun h22 => ?_) (fun h22 => ?_)
    · refine w_iload d_q_nearestRow_62 rfl ?_
      refine w_iret (st := []) rfl d_q_nearestRow_64 ?_
      obtain rfl : k = n := by omega
      exact ⟨by rw [hb], rfl⟩
    · refine w_aload_n d_q_nearestRow_25 rfl ?_
      refine w_iload_n d_q_nearestRow_26 rfl ?_
      refine w_iload d_q_nearestRow_27 rfl ?_
      refine w_iaddN d_q_nearestRow_29 ?_
      refine w_aaldN d_q_nearestRow_30 (hg1) (hg2) (by omega) ?_
      refine w_aload_n d_q_nearestRow_31 rfl ?_
      refine w_iload d_q_nearestRow_32 rfl ?_
      refine w_iload d_q_nearestRow_34 rfl ?_
      refine w_callS4 (N := M_q_distance) d_q_nearestRow_36 LK_q_312 MF_q_distance MS_q_distance NP_q_distance (by decide) rfl (Nat.le_of_ble_eq_true rfl) ?_
      refine Ev.det (c_q_distance _ _ _ _ _ (hrow k h22).1 (hrow k h22).2.1 (hrow k h22).2.2 hp1 hp2 hp3 hw) ?_
      refine w_istore d_q_nearestRow_39 (Nat.le_of_ble_eq_true rfl) ?_
      refine w_iload d_q_nearestRow_41 rfl ?_
      show Wp _ 43 _ _ _ _
      refine w_iload d_q_nearestRow_43 rfl ?_
      refine w_icmp_ge 56 d_q_nearestRow_45 (by decide) (fun h45 => ?_) (fun h45 => ?_)
      · refine w_iincN d_q_nearestRow_56 rfl ?_
        refine w_goto 19 d_q_nearestRow_59 (by decide) ?_
        exact hn h22 _ _ (by omega) (by rw [near_no (by rw [← hb]; exact h45)]; exact hb)
      · refine w_iload d_q_nearestRow_48 rfl ?_
        refine w_istore d_q_nearestRow_50 (Nat.le_of_ble_eq_true rfl) ?_
        refine w_iload d_q_nearestRow_52 rfl ?_
        refine w_istore d_q_nearestRow_54 (Nat.le_of_ble_eq_true rfl) ?_
        refine w_iincN d_q_nearestRow_56 rfl ?_
        refine w_goto 19 d_q_nearestRow_59 (by decide) ?_
        exact hn h22 _ _ (by omega) (by rw [near_yes (by rw [← hb]; exact h45)])
  refine w_iconst (v := nI 0) d_q_nearestRow_0 (by decide +kernel) ?_
  refine w_istore d_q_nearestRow_1 (Nat.le_of_ble_eq_true rfl) ?_
  refine w_aload_n d_q_nearestRow_3 rfl ?_
  refine w_iload_n d_q_nearestRow_4 rfl ?_
  refine w_aaldN d_q_nearestRow_5 (hg1) (hg2) (by omega) ?_
  refine w_aload_n d_q_nearestRow_6 rfl ?_
  refine w_iload d_q_nearestRow_7 rfl ?_
  refine w_iload d_q_nearestRow_9 rfl ?_
  refine w_callS4 (N := M_q_distance) d_q_nearestRow_11 LK_q_312 MF_q_distance MS_q_distance NP_q_distance (by decide) rfl (Nat.le_of_ble_eq_true rfl) ?_
  refine Ev.det (c_q_distance _ _ _ _ _ (hrow 0 h0).1 (hrow 0 h0).2.1 (hrow 0 h0).2.2 hp1 hp2 hp3 hw) ?_
  refine w_istore d_q_nearestRow_14 (Nat.le_of_ble_eq_true rfl) ?_
  refine w_iconst (v := nI 1) d_q_nearestRow_16 (by decide +kernel) ?_
  show Wp _ 17 _ _ _ _
  refine w_istore d_q_nearestRow_17 (Nat.le_of_ble_eq_true rfl) ?_
  exact hk0 1 (by omega) 0 _ (by omega) (near_1 _).symm
