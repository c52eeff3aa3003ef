set_option maxRecDepth 100000 in
set_option maxHeartbeats 4000000 in
theorem c_m_wordGap (S : St) (kind : Int32) (p : Nat) (hk : S.1 8 4 = kind) (hp : p < parts kind) (j : Nat) (hj : j < 4) : Ev M_m_wordGap [.ref 8, .int (nI p), .int (nI j)] S (fun v9 S' => v9 = some (.int (wdM S kind (S.1 37) p j)) ∧ S' = S) := by
  refine Ev.of MF_m_wordGap (all_cat rfl) (Nat.le_of_ble_eq_true rfl) ?_
  show Wp M_m_wordGap 0 [.ref 8, .int (nI p), .int (nI j), .null, .null, .null] [] _ _
  have hpw := pw_le hp
  have hpwl := pwid_le kind
  have hpl := parts_le kind
  have hk0 : ∀ k, k ≤ pwid kind → ∀ (x5 : Value), Wp M_m_wordGap 5 [.ref 8, .int (nI p), .int (nI j), .int ((dst (fun k => S.1 37 (p * pwid kind + k)) (fun k => S.1 29 (8 * p + 2 * j + k)) k)), .int (nI k), x5] [] S (fun v9 S' => v9 = some (.int (wdM S kind (S.1 37) p j)) ∧ S' = S) := by
    refine loopUp (pwid kind) (fun k hk9 hn9 => ?_)
    intro x5
    refine w_iload d_m_wordGap_5 rfl ?_
    refine w_aload_n d_m_wordGap_7 rfl ?_
    refine w_callV0 (N := M_m_size) d_m_wordGap_8 LK_m_164 MF_m_size MV_m_size NP_m_size (by decide) (by decide) (rfl) rfl rfl (Nat.le_of_ble_eq_true rfl) ?_
    refine Ev.det (c_m_size _ kind hk) ?_
    rw [msz_pw hp]
    refine w_icmp_geN 61 d_m_wordGap_11 (by decide) (by omega) (by omega) (fun h11 => ?_) (fun h11 => ?_)
    · refine w_iload_n d_m_wordGap_61 rfl ?_
      refine w_iret (st := []) rfl d_m_wordGap_62 ?_
      obtain rfl : k = pwid kind := by omega
      exact ⟨by unfold wdM; rw [dst_comm], rfl⟩
    · refine w_aload_n d_m_wordGap_14 rfl ?_
      refine w_getR d_m_wordGap_15 FL_m_44 (by decide) (rfl) (rfl) ?_
      refine w_iload_n d_m_wordGap_18 rfl ?_
      refine w_aload_n d_m_wordGap_19 rfl ?_
      refine w_callV0 (N := M_m_size) d_m_wordGap_20 LK_m_164 MF_m_size MV_m_size NP_m_size (by decide) (by decide) (rfl) rfl rfl (Nat.le_of_ble_eq_true rfl) ?_
      refine Ev.det (c_m_size _ kind hk) ?_
      rw [msz_pw hp]
      refine w_imulN d_m_wordGap_23 ?_
      refine w_iload d_m_wordGap_24 rfl ?_
      refine w_iaddN d_m_wordGap_26 ?_
      refine w_ialdN d_m_wordGap_27 (by decide) (rfl) (show (p * ((pwid kind))) + k < 4 from (by omega)) ?_
      refine w_aload_n d_m_wordGap_28 rfl ?_
      refine w_getR d_m_wordGap_29 FL_m_19 (by decide) (rfl) (rfl) ?_
      show Wp _ 32 _ _ _ _
      refine w_bipush (v := nI 8) d_m_wordGap_32 (by decide +kernel) ?_
      refine w_iload_n d_m_wordGap_34 rfl ?_
      refine w_imulN d_m_wordGap_35 ?_
      refine w_iconst (v := nI 2) d_m_wordGap_36 (by decide +kernel) ?_
      refine w_iload_n d_m_wordGap_37 rfl ?_
      refine w_imulN d_m_wordGap_38 ?_
      refine w_iaddN d_m_wordGap_39 ?_
      refine w_iload d_m_wordGap_40 rfl ?_
      refine w_iaddN d_m_wordGap_42 ?_
      refine w_ialdN d_m_wordGap_43 (by decide) (rfl) (show ((8 * p) + (2 * j)) + k < 32 from (by omega)) ?_
      refine w_isub d_m_wordGap_44 ?_
      refine w_istore d_m_wordGap_45 (Nat.le_of_ble_eq_true rfl) ?_
      show Wp _ 47 _ _ _ _
      refine w_iload_n d_m_wordGap_47 rfl ?_
      refine w_iload d_m_wordGap_48 rfl ?_
      refine w_iload d_m_wordGap_50 rfl ?_
      refine w_imul d_m_wordGap_52 ?_
      refine w_iadd d_m_wordGap_53 ?_
      refine w_istore_n d_m_wordGap_54 (Nat.le_of_ble_eq_true rfl) ?_
      refine w_iincN d_m_wordGap_55 rfl ?_
      refine w_goto 5 d_m_wordGap_58 (by decide) ?_
      exact hn9 h11 _
  refine w_iconst (v := nI 0) d_m_wordGap_0 (by decide +kernel) ?_
  refine w_istore_n d_m_wordGap_1 (Nat.le_of_ble_eq_true rfl) ?_
  refine w_iconst (v := nI 0) d_m_wordGap_2 (by decide +kernel) ?_
  refine w_istore d_m_wordGap_3 (Nat.le_of_ble_eq_true rfl) ?_
  exact hk0 0 (by omega) _
set_option maxRecDepth 100000 in
set_option maxHeartbeats 4000000 in
theorem c_m_nearestWord (S : St) (kind : Int32) (p : Nat) (hk : S.1 8 4 = kind) (hp : p < parts kind) (nc : Nat) (hc : S.1 8 6 = nI nc) (hc1 : 0 < nc) (hc4 : nc ≤ 4) : Ev M_m_nearestWord [.ref 8, .int (nI p)] S (fun v9 S' => v9 = some (.int (nI (cdM S kind nc (S.1 37) p))) ∧ S' = S) := by
  refine Ev.of MF_m_nearestWord (all_cat rfl) (Nat.le_of_ble_eq_true rfl) ?_
  show Wp M_m_nearestWord 0 [.ref 8, .int (nI p), .null, .null, .null] [] _ _
  have hpl := parts_le kind
  have hk0 : ∀ j, j ≤ nc → ∀ (b : Nat) (x4 : Value), 1 ≤ j → b = near (wdM S kind (S.1 37) p) j → Wp M_m_nearestWord 4 [.ref 8, .int (nI p), .int (nI b), .int (nI j), x4] [] S (fun v9 S' => v9 = some (.int (nI (cdM S kind nc (S.1 37) p))) ∧ S' = S) := by
    refine loopUp (nc) (fun j hk9 hn9 => ?_)
    intro b x4 hj1 hb
    have hbl := near_lt (wdM S kind (S.1 37) p) j (by omega)
    refine w_iload_n d_m_nearestWord_4 rfl ?_
    refine w_aload_n d_m_nearestWord_5 rfl ?_
    refine w_getIV (v := (nI nc)) d_m_nearestWord_6 FL_m_137 (by decide) (rfl) (rfl) (hc) ?_
    refine w_icmp_geN 39 d_m_nearestWord_9 (by decide) (by omega) (by omega) (fun h9 => ?_) (fun h9 => ?_)
    · refine w_iload_n d_m_nearestWord_39 rfl ?_
      refine w_iret (st := []) rfl d_m_nearestWord_40 ?_
      obtain rfl : j = nc := by omega
      exact ⟨by rw [hb]; rfl, rfl⟩
    · refine w_aload_n d_m_nearestWord_12 rfl ?_
      refine w_iload_n d_m_nearestWord_13 rfl ?_
      refine w_iload_n d_m_nearestWord_14 rfl ?_
      refine w_callV2 (N := M_m_wordGap) d_m_nearestWord_15 LK_m_161 MF_m_wordGap MV_m_wordGap NP_m_wordGap (by decide) (by decide) (rfl) rfl rfl (Nat.le_of_ble_eq_true rfl) ?_
      refine Ev.det (c_m_wordGap S kind p hk hp _ (by omega)) ?_
      refine w_istore d_m_nearestWord_18 (Nat.le_of_ble_eq_true rfl) ?_
      refine w_iload d_m_nearestWord_20 rfl ?_
      refine w_aload_n d_m_nearestWord_22 rfl ?_
      refine w_iload_n d_m_nearestWord_23 rfl ?_
      refine w_iload_n d_m_nearestWord_24 rfl ?_
      refine w_callV2 (N := M_m_wordGap) d_m_nearestWord_25 LK_m_161 MF_m_wordGap MV_m_wordGap NP_m_wordGap (by decide) (by decide) (rfl) rfl rfl (Nat.le_of_ble_eq_true rfl) ?_
      refine Ev.det (c_m_wordGap S kind p hk hp _ (by omega)) ?_
      refine w_icmp_ge 33 d_m_nearestWord_28 (by decide) (fun h28 => ?_) (fun h28 => ?_)
      · refine w_iincN d_m_nearestWord_33 rfl ?_
        refine w_goto 4 d_m_nearestWord_36 (by decide) ?_
        exact hn9 h9 _ _ (by omega) (by rw [near_no (by rw [← hb]; exact h28)]; exact hb)
      · refine w_iload_n d_m_nearestWord_31 rfl ?_
        refine w_istore_n d_m_nearestWord_32 (Nat.le_of_ble_eq_true rfl) ?_
        refine w_iincN d_m_nearestWord_33 rfl ?_
        refine w_goto 4 d_m_nearestWord_36 (by decide) ?_
        exact hn9 h9 _ _ (by omega) (by rw [near_yes (by rw [← hb]; exact h28)])
  refine w_iconst (v := nI 0) d_m_nearestWord_0 (by decide +kernel) ?_
  refine w_istore_n d_m_nearestWord_1 (Nat.le_of_ble_eq_true rfl) ?_
  refine w_iconst (v := nI 1) d_m_nearestWord_2 (by decide +kernel) ?_
  refine w_istore_n d_m_nearestWord_3 (Nat.le_of_ble_eq_true rfl) ?_
  exact hk0 1 (by omega) 0 _ (Nat.le_refl 1) (near_1 _).symm
set_option maxRecDepth 100000 in
set_option maxHeartbeats 4000000 in
theorem c_m_away (S : St) (l : Nat) (hl : l < 4) : Ev M_m_away [.ref 8, .int (nI l)] S (fun v9 S' => v9 = some (.int (dst (fun k => S.1 28 (4 * l + k)) (S.1 36) 4)) ∧ S' = S) := by
  refine Ev.of MF_m_away (all_cat rfl) (Nat.le_of_ble_eq_true rfl) ?_
  show Wp M_m_away 0 [.ref 8, .int (nI l), .null, .null, .null] [] _ _
  have hk0 : ∀ k, k ≤ 4 → ∀ (x4 : Value), Wp M_m_away 4 [.ref 8, .int (nI l), .int ((dst (S.1 36) (fun k => S.1 28 (4 * l + k)) k)), .int (nI k), x4] [] S (fun v9 S' => v9 = some (.int (dst (fun k => S.1 28 (4 * l + k)) (S.1 36) 4)) ∧ S' = S) := by
    refine loopUp (4) (fun k hk9 hn9 => ?_)
    intro x4
    refine w_iload_n d_m_away_4 rfl ?_
    refine w_iconst (v := nI 4) d_m_away_5 (by decide +kernel) ?_
    refine w_icmp_geN 42 d_m_away_6 (by decide) (by omega) (by omega) (fun h6 => ?_) (fun h6 => ?_)
    · refine w_iload_n d_m_away_42 rfl ?_
      refine w_iret (st := []) rfl d_m_away_43 ?_
      obtain rfl : k = 4 := by omega
      exact ⟨by rw [dst_comm], rfl⟩
    · refine w_aload_n d_m_away_9 rfl ?_
      refine w_getR d_m_away_10 FL_m_41 (by decide) (rfl) (rfl) ?_
      refine w_iload_n d_m_away_13 rfl ?_
      refine w_ialdN d_m_away_14 (by decide) (rfl) (show k < 4 from (by omega)) ?_
      refine w_aload_n d_m_away_15 rfl ?_
      refine w_getR d_m_away_16 FL_m_16 (by decide) (rfl) (rfl) ?_
      refine w_iconst (v := nI 4) d_m_away_19 (by decide +kernel) ?_
      refine w_iload_n d_m_away_20 rfl ?_
      refine w_imulN d_m_away_21 ?_
      refine w_iload_n d_m_away_22 rfl ?_
      refine w_iaddN d_m_away_23 ?_
      show Wp _ 24 _ _ _ _
      refine w_ialdN d_m_away_24 (by decide) (rfl) (show (4 * l) + k < 16 from (by omega)) ?_
      refine w_isub d_m_away_25 ?_
      refine w_istore d_m_away_26 (Nat.le_of_ble_eq_true rfl) ?_
      refine w_iload_n d_m_away_28 rfl ?_
      refine w_iload d_m_away_29 rfl ?_
      refine w_iload d_m_away_31 rfl ?_
      refine w_imul d_m_away_33 ?_
      refine w_iadd d_m_away_34 ?_
      refine w_istore_n d_m_away_35 (Nat.le_of_ble_eq_true rfl) ?_
      refine w_iincN d_m_away_36 rfl ?_
      refine w_goto 4 d_m_away_39 (by decide) ?_
      exact hn9 h6 _
  refine w_iconst (v := nI 0) d_m_away_0 (by decide +kernel) ?_
  refine w_istore_n d_m_away_1 (Nat.le_of_ble_eq_true rfl) ?_
  refine w_iconst (v := nI 0) d_m_away_2 (by decide +kernel) ?_
  refine w_istore_n d_m_away_3 (Nat.le_of_ble_eq_true rfl) ?_
  exact hk0 0 (by omega) _
set_option maxRecDepth 100000 in
set_option maxHeartbeats 4000000 in
theorem c_m_listNow (S : St) (nl : Nat) (hl : S.1 8 5 = nI nl) (hl1 : 0 < nl) (hl4 : nl ≤ 4) : Ev M_m_listNow [.ref 8] S (fun v9 S' => v9 = some (.int (nI (lsM S nl (S.1 36)))) ∧ S' = S) := by
  refine Ev.of MF_m_listNow (all_cat rfl) (Nat.le_of_ble_eq_true rfl) ?_
  show Wp M_m_listNow 0 [.ref 8, .null, .null, .null] [] _ _
  have hk0 : ∀ j, j ≤ nl → ∀ (b : Nat) (x3 : Value), 1 ≤ j → b = near (fun l => dst (fun k => S.1 28 (4 * l + k)) (S.1 36) 4) j → Wp M_m_listNow 4 [.ref 8, .int (nI b), .int (nI j), x3] [] S (fun v9 S' => v9 = some (.int (nI (lsM S nl (S.1 36)))) ∧ S' = S) := by
    refine loopUp (nl) (fun j hk9 hn9 => ?_)
    intro b x3 hj1 hb
    have hbl := near_lt (fun l => dst (fun k => S.1 28 (4 * l + k)) (S.1 36) 4) j (by omega)
    refine w_iload_n d_m_listNow_4 rfl ?_
    refine w_aload_n d_m_listNow_5 rfl ?_
    refine w_getIV (v := (nI nl)) d_m_listNow_6 FL_m_134 (by decide) (rfl) (rfl) (hl) ?_
    refine w_icmp_geN 35 d_m_listNow_9 (by decide) (by omega) (by omega) (fun h9 => ?_) (fun h9 => ?_)
    · refine w_iload_n d_m_listNow_35 rfl ?_
      refine w_iret (st := []) rfl d_m_listNow_36 ?_
      obtain rfl : j = nl := by omega
      exact ⟨by rw [hb]; rfl, rfl⟩
    · refine w_aload_n d_m_listNow_12 rfl ?_
      refine w_iload_n d_m_listNow_13 rfl ?_
      refine w_callV1 (N := M_m_away) d_m_listNow_14 LK_m_167 MF_m_away MV_m_away NP_m_away (by decide) (by decide) (rfl) rfl rfl (Nat.le_of_ble_eq_true rfl) ?_
      refine Ev.det (c_m_away S _ (by omega)) ?_
      refine w_istore_n d_m_listNow_17 (Nat.le_of_ble_eq_true rfl) ?_
      refine w_iload_n d_m_listNow_18 rfl ?_
      refine w_aload_n d_m_listNow_19 rfl ?_
      refine w_iload_n d_m_listNow_20 rfl ?_
      refine w_callV1 (N := M_m_away) d_m_listNow_21 LK_m_167 MF_m_away MV_m_away NP_m_away (by decide) (by decide) (rfl) rfl rfl (Nat.le_of_ble_eq_true rfl) ?_
      refine Ev.det (c_m_away S _ (by omega)) ?_
      refine w_icmp_ge 29 d_m_listNow_24 (by decide) (fun h24 => ?_) (fun h24 => ?_)
      · refine w_iincN d_m_listNow_29 rfl ?_
        refine w_goto 4 d_m_listNow_32 (by decide) ?_
        exact hn9 h9 _ _ (by omega) (by rw [near_no (by rw [← hb]; exact h24)]; exact hb)
      · refine w_iload_n d_m_listNow_27 rfl ?_
        refine w_istore_n d_m_listNow_28 (Nat.le_of_ble_eq_true rfl) ?_
        refine w_iincN d_m_listNow_29 rfl ?_
        refine w_goto 4 d_m_listNow_32 (by decide) ?_
        exact hn9 h9 _ _ (by omega) (by rw [near_yes (by rw [← hb]; exact h24)])
  refine w_iconst (v := nI 0) d_m_listNow_0 (by decide +kernel) ?_
  refine w_istore_n d_m_listNow_1 (Nat.le_of_ble_eq_true rfl) ?_
  refine w_iconst (v := nI 1) d_m_listNow_2 (by decide +kernel) ?_
  refine w_istore_n d_m_listNow_3 (Nat.le_of_ble_eq_true rfl) ?_
  exact hk0 1 (by omega) 0 _ (Nat.le_refl 1) (near_1 _).symm
set_option maxRecDepth 100000 in
set_option maxHeartbeats 4000000 in
theorem c_m_leave (S : St) (l : Nat) (hl : l < 4) : Ev M_m_leave [.ref 8, .int (nI l)] S (fun v9 S' => v9 = none ∧ S' = setRow S 37 (lfM S l (S.1 36)) 4) := by
  refine Ev.of MF_m_leave (all_cat rfl) (Nat.le_of_ble_eq_true rfl) ?_
  show Wp M_m_leave 0 [.ref 8, .int (nI l), .null] [] _ _
  have hk0 : ∀ k, k ≤ 4 → ∀ (S1 : St), S1 = setRow S 37 (lfM S l (S.1 36)) k → Wp M_m_leave 2 [.ref 8, .int (nI l), .int (nI k)] [] S1 (fun v9 S' => v9 = none ∧ S' = setRow S 37 (lfM S l (S.1 36)) 4) := by
    refine loopUp (4) (fun k hk9 hn9 => ?_)
    intro S1 hS
    refine w_iload_n d_m_leave_2 rfl ?_
    refine w_iconst (v := nI 4) d_m_leave_3 (by decide +kernel) ?_
    refine w_icmp_geN 36 d_m_leave_4 (by decide) (by omega) (by omega) (fun h4 => ?_) (fun h4 => ?_)
    · refine w_ret (st := []) rfl d_m_leave_36 ?_
      obtain rfl : k = 4 := by omega
      exact ⟨rfl, hS⟩
    · refine w_aload_n d_m_leave_7 rfl ?_
      refine w_getR d_m_leave_8 FL_m_44 (by decide) (rfl) (rfl) ?_
      refine w_iload_n d_m_leave_11 rfl ?_
      refine w_aload_n d_m_leave_12 rfl ?_
      refine w_getR d_m_leave_13 FL_m_41 (by decide) (rfl) (rfl) ?_
      refine w_iload_n d_m_leave_16 rfl ?_
      refine w_ialdNV (v := ((S.1 36 k))) d_m_leave_17 (by decide) (rfl) (show k < 4 from (by omega)) (by rw [hS, setRow_ne (by decide)]) ?_
      refine w_aload_n d_m_leave_18 rfl ?_
      refine w_getR d_m_leave_19 FL_m_16 (by decide) (rfl) (rfl) ?_
      refine w_iconst (v := nI 4) d_m_leave_22 (by decide +kernel) ?_
      refine w_iload_n d_m_leave_23 rfl ?_
      show Wp _ 24 _ _ _ _
      refine w_imulN d_m_leave_24 ?_
      refine w_iload_n d_m_leave_25 rfl ?_
      refine w_iaddN d_m_leave_26 ?_
      refine w_ialdNV (v := ((S.1 28 (4 * l + k)))) d_m_leave_27 (by decide) (rfl) (show (4 * l) + k < 16 from (by omega)) (by rw [hS, setRow_ne (by decide)]) ?_
      refine w_isub d_m_leave_28 ?_
      refine w_iastNP d_m_leave_29 (by decide) (rfl) (show k < 4 from (by omega)) ?_
      refine w_iincN d_m_leave_30 rfl ?_
      refine w_goto 2 d_m_leave_33 (by decide) ?_
      refine hn9 h4 _ ?_
      rw [hS]
      exact setRow_s rfl
  refine w_iconst (v := nI 0) d_m_leave_0 (by decide +kernel) ?_
  refine w_istore_n d_m_leave_1 (Nat.le_of_ble_eq_true rfl) ?_
  exact hk0 0 (by omega) _ (setRow_0 _ _ _).symm
/-- the entry v is there -/
def thr (S : St) (v : Int32) : Prop := (nI 0 ≤ v ∧ v ≤ nI 999) ∧ ¬ S.1 30 v.toNatClampNeg = 0
theorem thr_id {S : St} {v : Int32} (h : thr S v) : ∃ id, id < 1000 ∧ v = nI id ∧ ¬ S.1 30 id = 0 := by
  obtain ⟨j, -, hj, rfl⟩ := nI_in2 h.1 (by decide) (by decide)
  have h2 := h.2
  rw [nI_clamp (by omega)] at h2
  exact ⟨j, by omega, rfl, h2⟩
set_option maxRecDepth 100000 in
set_option maxHeartbeats 4000000 in
theorem c_m_there (S : St) (v : Int32) : Ev M_m_there [.ref 8, .int v] S (fun v9 S' => (thr S v → v9 = some (.int (bI true))) ∧ (¬ thr S v → v9 = some (.int (bI false))) ∧ S' = S) := by
  refine Ev.of MF_m_there (all_cat rfl) (Nat.le_of_ble_eq_true rfl) ?_
  show Wp M_m_there 0 [.ref 8, .int v] [] _ _
  refine w_iload_n d_m_there_0 rfl ?_
  refine w_iconst (v := nI 0) d_m_there_1 (by decide +kernel) ?_
  refine w_sipush (v := nI 999) d_m_there_2 (by decide +kernel) ?_
  refine w_callS3 (N := M_m_within) d_m_there_5 LK_m_85 MF_m_within MS_m_within NP_m_within (by decide) rfl (Nat.le_of_ble_eq_true rfl) ?_
  refine Ev.det (c_m_within _ _ _ _) ?_
  refine w_if_eqB 24 d_m_there_8 (by decide) (fun h8 => ?_) (fun h8 => ?_)
  · refine w_iconst (v := nI 0) d_m_there_24 (by decide +kernel) ?_
    refine w_zret (st := []) rfl d_m_there_25 (by decide) ?_
    exact ⟨fun q => absurd q.1 (of_decide_eq_false h8), fun _ => rfl, rfl⟩
  · have h8 := of_decide_eq_true h8
    obtain ⟨j, -, hj, rfl⟩ := nI_in2 h8 (by decide) (by decide)
    refine w_aload_n d_m_there_11 rfl ?_
    refine w_getR d_m_there_12 FL_m_22 (by decide) (rfl) (rfl) ?_
    refine w_iload_n d_m_there_15 rfl ?_
    refine w_baldN d_m_there_16 (by decide) (rfl) (show j < 1000 from (by omega)) ?_
    refine w_if_eq 24 d_m_there_17 (by decide) (fun h17 => ?_) (fun h17 => ?_)
    · refine w_iconst (v := nI 0) d_m_there_24 (by decide +kernel) ?_
      refine w_zret (st := []) rfl d_m_there_25 (by decide) ?_
      exact ⟨fun q => absurd h17 (by have := q.2; rw [nI_clamp (by omega)] at this; exact this), fun _ => rfl, rfl⟩
    · refine w_iconst (v := nI 1) d_m_there_20 (by decide +kernel) ?_
      refine w_goto 25 d_m_there_21 (by decide) ?_
      refine w_zret (st := []) rfl d_m_there_25 (by decide) ?_
      exact ⟨fun _ => rfl, fun q => absurd ⟨h8, by rw [nI_clamp (by omega)]; exact h17⟩ q, rfl⟩
theorem c_thr (S : St) (v : Int32) {Z : Option Value → St → Prop} (h1 : thr S v → Z (some (.int (bI true))) S) (h0 : ¬ thr S v → Z (some (.int (bI false))) S) : Ev M_m_there [.ref 8, .int v] S Z := (c_m_there S v).mono (fun r S' q => by
  obtain ⟨q1, q2, rfl⟩ := q
  by_cases h : thr S' v
  · rw [q1 h]; exact h1 h
  · rw [q2 h]; exact h0 h)
set_option maxRecDepth 100000 in
set_option maxHeartbeats 4000000 in
theorem c_m_remove (S : St) (v : Int32) (kp : Nat) (hkp : S.1 8 11 = nI kp) (hk1 : thr S v → 1 ≤ kp) : Ev M_m_remove [.ref 8, .int v] S (fun v9 S' => (thr S v → v9 = some (.int (nI 1)) ∧ S' = put (put S 30 v.toNatClampNeg (nI 0)) 8 11 (nI (kp - 1))) ∧ (¬ thr S v → v9 = some (.int (nI 0)) ∧ S' = S)) := by
  refine Ev.of MF_m_remove (all_cat rfl) (Nat.le_of_ble_eq_true rfl) ?_
  show Wp M_m_remove 0 [.ref 8, .int v] [] _ _
  refine w_aload_n d_m_remove_0 rfl ?_
  refine w_iload_n d_m_remove_1 rfl ?_
  refine w_callV1 (N := M_m_there) d_m_remove_2 LK_m_173 MF_m_there MV_m_there NP_m_there (by decide) (by decide) (rfl) rfl rfl (Nat.le_of_ble_eq_true rfl) ?_
  refine c_thr S v (fun ht => ?_) (fun ht => ?_)
  · obtain ⟨id, hid, rfl, hpr⟩ := thr_id ht
    have hk1 := hk1 ht
    show Wp _ 5 _ [.int (bI true)] _ _
    refine w_if_neB 10 d_m_remove_5 (by decide) (fun h5 => ?_) (fun h5 => ?_)
    · refine w_aload_n d_m_remove_10 rfl ?_
      refine w_getR d_m_remove_11 FL_m_22 (by decide) (rfl) (rfl) ?_
      refine w_iload_n d_m_remove_14 rfl ?_
      refine w_iconst (v := nI 0) d_m_remove_15 (by decide +kernel) ?_
      refine w_bastNP d_m_remove_16 (by decide) (rfl) (show id < 1000 from (by omega)) (by decide) ?_
      refine w_aload_n d_m_remove_17 rfl ?_
      refine w_dup d_m_remove_18 rfl ?_
      refine w_getIV (v := (nI kp)) d_m_remove_19 FL_m_131 (by decide) (rfl) (rfl) (by rw [put_ne (by omega)]; exact hkp) ?_
      refine w_iconst (v := nI 1) d_m_remove_22 (by decide +kernel) ?_
      refine w_isubN d_m_remove_23 (by omega) ?_
      refine w_putIP d_m_remove_24 FL_m_131 FW_8_11 (by decide) (rfl) (rfl) ?_
      show Wp _ 27 _ _ _ _
      refine w_iconst (v := nI 1) d_m_remove_27 (by decide +kernel) ?_
      refine w_zret (st := []) rfl d_m_remove_28 (by decide) ?_
      exact ⟨fun _ => ⟨rfl, by rw [nI_clamp (by omega)]⟩, fun q => absurd ht q⟩
    · cases h5
  · show Wp _ 5 _ [.int (bI false)] _ _
    refine w_if_neB 10 d_m_remove_5 (by decide) (fun h5 => ?_) (fun h5 => ?_)
    · cases h5
    · refine w_iconst (v := nI 0) d_m_remove_8 (by decide +kernel) ?_
      refine w_zret (st := []) rfl d_m_remove_9 (by decide) ?_
      exact ⟨fun q => absurd q ht, fun _ => ⟨rfl, rfl⟩⟩
set_option maxRecDepth 100000 in
set_option maxHeartbeats 4000000 in
theorem c_m_listOf (S : St) (v : Int32) (nl : Nat) (hl : thr S v → S.1 8 5 = nI nl ∧ 0 < nl ∧ nl ≤ 4) (ho : ∀ k, k < 4 → okStep (S.1 26 k)) : Ev M_m_listOf [.ref 8, .int v] S (fun v9 S' => (thr S v → v9 = some (.int (nI (lsM S nl (mtv S v.toNatClampNeg)))) ∧ S' = tE S v.toNatClampNeg) ∧ (¬ thr S v → v9 = some (.int (-1)) ∧ S' = S)) := by
  refine Ev.of MF_m_listOf (all_cat rfl) (Nat.le_of_ble_eq_true rfl) ?_
  show Wp M_m_listOf 0 [.ref 8, .int v] [] _ _
  refine w_aload_n d_m_listOf_0 rfl ?_
  refine w_iload_n d_m_listOf_1 rfl ?_
  refine w_callV1 (N := M_m_there) d_m_listOf_2 LK_m_173 MF_m_there MV_m_there NP_m_there (by decide) (by decide) (rfl) rfl rfl (Nat.le_of_ble_eq_true rfl) ?_
  refine c_thr S v (fun ht => ?_) (fun ht => ?_)
  · obtain ⟨id, hid, rfl, hpr⟩ := thr_id ht
    obtain ⟨hl, hl1, hl4⟩ := hl ht
    show Wp _ 5 _ [.int (bI true)] _ _
    refine w_if_neB 10 d_m_listOf_5 (by decide) (fun h5 => ?_) (fun h5 => ?_)
    · refine w_aload_n d_m_listOf_10 rfl ?_
      refine w_iload_n d_m_listOf_11 rfl ?_
      refine w_callV1 (N := M_m_turnEntry) d_m_listOf_12 LK_m_176 MF_m_turnEntry MV_m_turnEntry NP_m_turnEntry (by decide) (by decide) (rfl) rfl rfl (Nat.le_of_ble_eq_true rfl) ?_
      refine Ev.det (c_m_turnEntry S id hid ho) ?_
      refine w_aload_n d_m_listOf_15 rfl ?_
      refine w_callV0 (N := M_m_listNow) d_m_listOf_16 LK_m_170 MF_m_listNow MV_m_listNow NP_m_listNow (by decide) (by decide) (rfl) rfl rfl (Nat.le_of_ble_eq_true rfl) ?_
      refine Ev.det (c_m_listNow (tE S id) nl (by rw [tE_ne (by decide) (by decide)]; exact hl) hl1 hl4) ?_
      rw [lsM_congr (S' := S) (x' := mtv S id) (fun i => tE_ne (by decide) (by decide)) (fun k hk => tE_at hk)]
      refine w_iret (st := []) rfl d_m_listOf_19 ?_
      exact ⟨fun _ => ⟨by rw [nI_clamp (by omega)], by rw [nI_clamp (by omega)]⟩, fun q => absurd ht q⟩
    · cases h5
  · show Wp _ 5 _ [.int (bI false)] _ _
    refine w_if_neB 10 d_m_listOf_5 (by decide) (fun h5 => ?_) (fun h5 => ?_)
    · cases h5
    · refine w_iconst (v := -1) d_m_listOf_8 (by decide +kernel) ?_
      refine w_iret (st := []) rfl d_m_listOf_9 ?_
      exact ⟨fun q => absurd q ht, fun _ => ⟨rfl, rfl⟩⟩
/-- the number of a code, from the last part on -/
def hsum (c : Nat → Nat) (nc : Nat) (P : Nat) : Nat → Nat
  | 0 => 0
  | d + 1 => hsum c nc P d * nc + c (P - (d + 1))
set_option maxRecDepth 100000 in
set_option maxHeartbeats 4000000 in
theorem c_m_codeOf (S : St) (v : Int32) (kind : Int32) (nl nc : Nat) (hk : S.1 8 4 = kind) (hl : thr S v → S.1 8 5 = nI nl ∧ 0 < nl ∧ nl ≤ 4 ∧ S.1 8 6 = nI nc ∧ 0 < nc ∧ nc ≤ 4) (ho : ∀ k, k < 4 → okStep (S.1 26 k)) : Ev M_m_codeOf [.ref 8, .int v] S (fun v9 S' => (thr S v → v9 = some (.int (nI (hsum (cdM S kind nc (lfM S (lsM S nl (mtv S v.toNatClampNeg)) (mtv S v.toNatClampNeg))) nc (parts kind) (parts kind)))) ∧ ∀ a i, a ≠ 35 → a ≠ 36 → a ≠ 37 → S'.1 a i = S.1 a i) ∧ (thr S v → S'.2 = S.2) ∧ (¬ thr S v → v9 = some (.int (-1)) ∧ S' = S)) := by
  refine Ev.of MF_m_codeOf (all_cat rfl) (Nat.le_of_ble_eq_true rfl) ?_
  show Wp M_m_codeOf 0 [.ref 8, .int v, .null, .null, .null, .null] [] _ _
  refine w_aload_n d_m_codeOf_0 rfl ?_
  refine w_iload_n d_m_codeOf_1 rfl ?_
  refine w_callV1 (N := M_m_there) d_m_codeOf_2 LK_m_173 MF_m_there MV_m_there NP_m_there (by decide) (by decide) (rfl) rfl rfl (Nat.le_of_ble_eq_true rfl) ?_
  refine c_thr S v (fun ht => ?_) (fun ht => ?_)
  · obtain ⟨id, hid, rfl, hpr⟩ := thr_id ht
    obtain ⟨hl, hl1, hl4, hc, hc1, hc4⟩ := hl ht
    have hlt := lsM_lt (S := S) (x := mtv S id) hl1
    have hpl := parts_le kind
    obtain ⟨S1, hS1⟩ : ∃ S1, S1 = (setRow (tE S id) 37 (lfM (tE S id) (lsM S nl (mtv S id)) ((tE S id).1 36)) 4) := ⟨_, rfl⟩
    have q1 : ∀ a i, a ≠ 35 → a ≠ 36 → a ≠ 37 → S1.1 a i = S.1 a i := fun a i h1 h2 h3 => by rw [hS1, setRow_ne h3, tE_ne h1 h2]
    have q2 : ∀ k, k < 4 → S1.1 37 k = lfM S (lsM S nl (mtv S id)) (mtv S id) k := fun k hk => by rw [hS1, setRow_at hk]; unfold lfM; rw [tE_at hk, tE_ne (by decide) (by decide)]
    have hk0 : ∀ k, ∀ (h : Nat) (x5 : Value) (l : Nat), k ≤ parts kind → h = hsum (fun p => cdM S kind nc (lfM S (lsM S nl (mtv S id)) (mtv S id)) p) nc (parts kind) (parts kind - k) → Wp M_m_codeOf 35 [.ref 8, .int (nI id), .int (nI l), .int (nI h), .int ((nI k - nI 1)), x5] [] S1 (fun v9 S' => (thr S (nI id) → v9 = some (.int (nI (hsum (cdM S kind nc (lfM S (lsM S nl (mtv S (nI id).toNatClampNeg)) (mtv S (nI id).toNatClampNeg))) nc (parts kind) (parts kind)))) ∧ ∀ a i, a ≠ 35 → a ≠ 36 → a ≠ 37 → S'.1 a i = S.1 a i) ∧ (thr S (nI id) → S'.2 = S.2) ∧ (¬ thr S (nI id) → v9 = some (.int (-1)) ∧ S' = S)) := by
      refine loopDown (fun k hn9 => ?_)
      intro h x5 l hkm hh
      refine w_iload d_m_codeOf_35 rfl ?_
      refine w_if_lt 64 d_m_codeOf_37 (by decide) (fun h37 => ?_) (fun h37 => ?_)
      · refine w_iload_n d_m_codeOf_64 rfl ?_
        refine w_iret (st := []) rfl d_m_codeOf_65 ?_
        have hk0 : k = 0 := (m1_lt (by omega)).mp h37
        refine ⟨fun _ => ⟨?_, q1⟩, fun _ => by rw [hS1]; rfl, fun q => absurd ht q⟩
        rw [hh, hk0, nI_clamp (by omega)]
        rfl
      · have hk0 : 0 < k := Nat.pos_of_ne_zero (fun q => h37 ((m1_lt (by omega)).mpr q))
        rw [pk_sub (show 1 ≤ k from hk0)]
        refine w_aload_n d_m_codeOf_40 rfl ?_
        refine w_iload d_m_codeOf_41 rfl ?_
        refine w_callV1 (N := M_m_nearestWord) d_m_codeOf_43 LK_m_158 MF_m_nearestWord MV_m_nearestWord NP_m_nearestWord (by decide) (by decide) (rfl) rfl rfl (Nat.le_of_ble_eq_true rfl) ?_
        refine Ev.det (c_m_nearestWord S1 kind (k - 1) ((q1 8 4 (by decide) (by decide) (by decide)).trans hk) (by omega) nc ((q1 8 6 (by decide) (by decide) (by decide)).trans hc) hc1 hc4) ?_
        rw [cdM_congr (S' := S) (by omega) (fun i => q1 29 i (by decide) (by decide) (by decide)) q2]
        refine w_istore d_m_codeOf_46 (Nat.le_of_ble_eq_true rfl) ?_
        refine w_iload_n d_m_codeOf_48 rfl ?_
        refine w_aload_n d_m_codeOf_49 rfl ?_
        refine w_getIV (v := (nI nc)) d_m_codeOf_50 FL_m_137 (by decide) (rfl) (rfl) ((q1 8 6 (by decide) (by decide) (by decide)).trans hc) ?_
        refine w_imulN d_m_codeOf_53 ?_
        refine w_iload d_m_codeOf_54 rfl ?_
        refine w_iaddN d_m_codeOf_56 ?_
        refine w_istore_n d_m_codeOf_57 (Nat.le_of_ble_eq_true rfl) ?_
        show Wp _ 58 _ _ _ _
        refine w_iinc (v := nI (k - 1) - nI 1) d_m_codeOf_58 rfl (nI_m1 _) ?_
        refine w_goto 35 d_m_codeOf_61 (by decide) ?_
        refine hn9 hk0 _ _ _ (by omega) ?_
        rw [hh, show parts kind - (k - 1) = (parts kind - k) + 1 by omega]
        show _ = hsum (fun p => cdM S kind nc (lfM S (lsM S nl (mtv S id)) (mtv S id)) p) nc (parts kind) (parts kind - k) * nc + (fun p => cdM S kind nc (lfM S (lsM S nl (mtv S id)) (mtv S id)) p) (parts kind - (parts kind - k + 1))
        rw [show parts kind - (parts kind - k + 1) = k - 1 by omega]
    show Wp _ 5 _ [.int (bI true)] _ _
    refine w_if_neB 10 d_m_codeOf_5 (by decide) (fun h5 => ?_) (fun h5 => ?_)
    · refine w_aload_n d_m_codeOf_10 rfl ?_
      refine w_iload_n d_m_codeOf_11 rfl ?_
      refine w_callV1 (N := M_m_turnEntry) d_m_codeOf_12 LK_m_176 MF_m_turnEntry MV_m_turnEntry NP_m_turnEntry (by decide) (by decide) (rfl) rfl rfl (Nat.le_of_ble_eq_true rfl) ?_
      refine Ev.det (c_m_turnEntry S id hid ho) ?_
      refine w_aload_n d_m_codeOf_15 rfl ?_
      refine w_callV0 (N := M_m_listNow) d_m_codeOf_16 LK_m_170 MF_m_listNow MV_m_listNow NP_m_listNow (by decide) (by decide) (rfl) rfl rfl (Nat.le_of_ble_eq_true rfl) ?_
      refine Ev.det (c_m_listNow (tE S id) nl (by rw [tE_ne (by decide) (by decide)]; exact hl) hl1 hl4) ?_
      rw [lsM_congr (S' := S) (x' := mtv S id) (fun i => tE_ne (by decide) (by decide)) (fun k hk => tE_at hk)]
      refine w_istore_n d_m_codeOf_19 (Nat.le_of_ble_eq_true rfl) ?_
      refine w_aload_n d_m_codeOf_20 rfl ?_
      refine w_iload_n d_m_codeOf_21 rfl ?_
      refine w_callV1 (N := M_m_leave) d_m_codeOf_22 LK_m_179 MF_m_leave MV_m_leave NP_m_leave (by decide) (by decide) (rfl) rfl rfl (Nat.le_of_ble_eq_true rfl) ?_
      refine Ev.det (c_m_leave (tE S id) _ (by omega)) ?_
      rw [← hS1]
      refine w_iconst (v := nI 0) d_m_codeOf_25 (by decide +kernel) ?_
      refine w_istore_n d_m_codeOf_26 (Nat.le_of_ble_eq_true rfl) ?_
      show Wp _ 27 _ _ _ _
      refine w_aload_n d_m_codeOf_27 rfl ?_
      refine w_callV0 (N := M_m_parts) d_m_codeOf_28 LK_m_144 MF_m_parts MV_m_parts NP_m_parts (by decide) (by decide) (rfl) rfl rfl (Nat.le_of_ble_eq_true rfl) ?_
      refine Ev.det (c_m_parts S1 kind ((q1 8 4 (by decide) (by decide) (by decide)).trans hk)) ?_
      refine w_iconst (v := nI 1) d_m_codeOf_31 (by decide +kernel) ?_
      refine w_isub d_m_codeOf_32 ?_
      refine w_istore d_m_codeOf_33 (Nat.le_of_ble_eq_true rfl) ?_
      exact hk0 (parts kind) 0 _ _ (Nat.le_refl _) (by rw [Nat.sub_self]; rfl)
    · cases h5
  · show Wp _ 5 _ [.int (bI false)] _ _
    refine w_if_neB 10 d_m_codeOf_5 (by decide) (fun h5 => ?_) (fun h5 => ?_)
    · cases h5
    · refine w_iconst (v := -1) d_m_codeOf_8 (by decide +kernel) ?_
      refine w_iret (st := []) rfl d_m_codeOf_9 ?_
      exact ⟨fun q => absurd q ht, fun q => absurd q ht, fun _ => ⟨rfl, rfl⟩⟩
