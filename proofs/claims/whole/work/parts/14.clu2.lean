set_option maxRecDepth 100000 in
set_option maxHeartbeats 4000000 in
theorem c_c_countMembers (S : St) (n fr w m : Nat) (hF : CF S n fr w m) : Ev M_c_countMembers [.ref 3] S (fun v9 S' => v9 = none ∧ FrC S S' ∧ (∀ c, c < 4 → ∀ k, S'.1 (96 + c) k = S.1 (96 + c) k) ∧ ∀ c, c < m → S'.1 14 c = nI (memC (nrC (cen S) (itm S fr) w m) c n) ∧ ∀ k, k < w → S'.1 (100 + c) k = sumC (nrC (cen S) (itm S fr) w m) (itm S fr) c k n) := by
  refine Ev.of MF_c_countMembers (all_cat rfl) (Nat.le_of_ble_eq_true rfl) ?_
  show Wp M_c_countMembers 0 [.ref 3, .null, .null, .null] [] _ _
  have hF0 := hF
  obtain ⟨hn, hfr, hw, hm, hn0, hn24, hfw, hw0, hm0, hm4⟩ := hF
  have hk1 : ∀ i, i ≤ n → ∀ (S1 : St) (x2 : Value) (x3 : Value), FrC S S1 → (∀ c, c < 4 → ∀ k, S1.1 (96 + c) k = S.1 (96 + c) k) → (∀ c, c < m → S1.1 14 c = nI (memC (nrC (cen S) (itm S fr) w m) c i) ∧ ∀ k, k < w → S1.1 (100 + c) k = sumC (nrC (cen S) (itm S fr) w m) (itm S fr) c k i) → Wp M_c_countMembers 50 [.ref 3, .int (nI i), x2, x3] [] S1 (fun v9 S' => v9 = none ∧ FrC S S' ∧ (∀ c, c < 4 → ∀ k, S'.1 (96 + c) k = S.1 (96 + c) k) ∧ ∀ c, c < m → S'.1 14 c = nI (memC (nrC (cen S) (itm S fr) w m) c n) ∧ ∀ k, k < w → S'.1 (100 + c) k = sumC (nrC (cen S) (itm S fr) w m) (itm S fr) c k n) := by
    refine loopUp (n) (fun i hk9 hn9 => ?_)
    intro S1 x2 x3 h1 h2 h3
    have hF1 := hF0.keep h1
    obtain ⟨c0, hc0⟩ : ∃ c0, c0 = (nrC (cen S) (itm S fr) w m) i := ⟨_, rfl⟩
    have hc0m : c0 < m := by rw [hc0]; exact nrC_lt hm0
    refine w_iload_n d_c_countMembers_50 rfl ?_
    refine w_aload_n d_c_countMembers_51 rfl ?_
    refine w_getIV (v := (nI n)) d_c_countMembers_52 FL_c_51 (by decide) (rfl) (rfl) (hF1.1) ?_
    refine w_icmp_geN 141 d_c_countMembers_55 (by decide) (by omega) (by omega) (fun h55 => ?_) (fun h55 => ?_)
    · refine w_ret (st := []) rfl d_c_countMembers_141 ?_
      obtain rfl : i = n := by omega
      exact ⟨rfl, h1, h2, h3⟩
    · refine w_aload_n d_c_countMembers_58 rfl ?_
      refine w_getR d_c_countMembers_59 FL_c_16 (by decide) (rfl) (rfl) ?_
      refine w_iconst (v := nI 0) d_c_countMembers_62 (by decide +kernel) ?_
      refine w_aload_n d_c_countMembers_63 rfl ?_
      refine w_getIV (v := (nI m)) d_c_countMembers_64 FL_c_36 (by decide) (rfl) (rfl) (hF1.2.2.2.1) ?_
      refine w_aload_n d_c_countMembers_67 rfl ?_
      refine w_getR d_c_countMembers_68 FL_c_11 (by decide) (rfl) (rfl) ?_
      refine w_iload_n d_c_countMembers_71 rfl ?_
      refine w_aaldN d_c_countMembers_72 (by decide) (rfl) (show i < 24 from (by omega)) ?_
      show Wp _ _ _ (.ref (72 + i) :: _) _ _
      refine w_aload_n d_c_countMembers_73 rfl ?_
      refine w_getIV (v := (nI fr)) d_c_countMembers_74 FL_c_29 (by decide) (rfl) (rfl) (hF1.2.1) ?_
      show Wp _ 77 _ _ _ _
      refine w_aload_n d_c_countMembers_77 rfl ?_
      refine w_getIV (v := (nI w)) d_c_countMembers_78 FL_c_33 (by decide) (rfl) (rfl) (hF1.2.2.1) ?_
      refine w_callS6 (N := M_q_nearestRow) d_c_countMembers_81 LK_c_71 MF_q_nearestRow MS_q_nearestRow NP_q_nearestRow (by decide) rfl (Nat.le_of_ble_eq_true rfl) ?_
      refine Ev.det (c_nr _ _ _ _ _ hfw hm0 hm4 (by omega)) ?_
      have hnr : nrC (cen S1) (itm S1 fr) w m i = c0 := by rw [hc0]; exact nrC_congr (fun c hc k _ => h2 c (by omega) k) (fun k _ => itm_keep h1 (by omega) k)
      rw [hnr]
      refine w_istore_n d_c_countMembers_84 (Nat.le_of_ble_eq_true rfl) ?_
      refine w_aload_n d_c_countMembers_85 rfl ?_
      refine w_getR d_c_countMembers_86 FL_c_22 (by decide) (rfl) (rfl) ?_
      refine w_iload_n d_c_countMembers_89 rfl ?_
      refine w_dup2 d_c_countMembers_90 rfl rfl ?_
      refine w_ialdNV (v := (nI (memC (nrC (cen S) (itm S fr) w m) c0 i))) d_c_countMembers_91 (by decide) (rfl) (show c0 < 4 from (by omega)) ((h3 c0 hc0m).1) ?_
      refine w_iconst (v := nI 1) d_c_countMembers_92 (by decide +kernel) ?_
      refine w_iaddN d_c_countMembers_93 ?_
      refine w_iastNP d_c_countMembers_94 (by decide) (rfl) (show c0 < 4 from (by omega)) ?_
      show Wp _ 95 _ _ _ _
      refine w_iconst (v := nI 0) d_c_countMembers_95 (by decide +kernel) ?_
      refine w_istore_n d_c_countMembers_96 (Nat.le_of_ble_eq_true rfl) ?_
      have hin : ∀ k, k ≤ w → ∀ (S2 : St), FrC S S2 → (∀ c, c < 4 → ∀ k, S2.1 (96 + c) k = S.1 (96 + c) k) → (∀ c, c < m → S2.1 14 c = nI (memC (nrC (cen S) (itm S fr) w m) c (i + 1))) → (∀ c, c < m → ∀ j, j < w → S2.1 (100 + c) j = if c = c0 ∧ j < k then sumC (nrC (cen S) (itm S fr) w m) (itm S fr) c j (i + 1) else sumC (nrC (cen S) (itm S fr) w m) (itm S fr) c j i) → Wp M_c_countMembers 97 [.ref 3, .int (nI i), .int (nI c0), .int (nI k)] [] S2 (fun v9 S' => v9 = none ∧ FrC S S' ∧ (∀ c, c < 4 → ∀ k, S'.1 (96 + c) k = S.1 (96 + c) k) ∧ ∀ c, c < m → S'.1 14 c = nI (memC (nrC (cen S) (itm S fr) w m) c n) ∧ ∀ k, k < w → S'.1 (100 + c) k = sumC (nrC (cen S) (itm S fr) w m) (itm S fr) c k n) := by
        refine loopUp (w) (fun k hk8 hn8 => ?_)
        intro S2 g1 g2 g3 g4
        have hF2 := hF0.keep g1
        refine w_iload_n d_c_countMembers_97 rfl ?_
        refine w_aload_n d_c_countMembers_98 rfl ?_
        refine w_getIV (v := (nI w)) d_c_countMembers_99 FL_c_33 (by decide) (rfl) (rfl) (hF2.2.2.1) ?_
        refine w_icmp_geN 135 d_c_countMembers_102 (by decide) (by omega) (by omega) (fun h102 => ?_) (fun h102 => ?_)
        · refine w_iincN d_c_countMembers_135 rfl ?_
          refine w_goto 50 d_c_countMembers_138 (by decide) ?_
          have hkw : k = w := by omega
          refine hn9 h55 _ _ _ g1 g2 ?_
          intro c hc
          refine ⟨g3 c hc, fun j hj => ?_⟩
          rw [g4 c hc j hj]
          by_cases hcc : c = c0
          · rw [if_pos ⟨hcc, by omega⟩]
          · rw [if_neg (fun q => hcc q.1)]
            show _ = (if (nrC (cen S) (itm S fr) w m) i = c then _ else _)
            rw [if_neg (fun q => hcc (q.symm.trans hc0.symm))]
        · refine w_aload_n d_c_countMembers_105 rfl ?_
          refine w_getR d_c_countMembers_106 FL_c_19 (by decide) (rfl) (rfl) ?_
          refine w_iload_n d_c_countMembers_109 rfl ?_
          refine w_aaldN d_c_countMembers_110 (by decide) (rfl) (show c0 < 4 from (by omega)) ?_
          show Wp _ _ _ (.ref (100 + c0) :: _) _ _
          refine w_iload_n d_c_countMembers_111 rfl ?_
          refine w_dup2 d_c_countMembers_112 rfl rfl ?_
          refine w_ialdNV (v := ((sumC (nrC (cen S) (itm S fr) w m) (itm S fr) c0 k i))) d_c_countMembers_113 (by omega) (kd_row100 (by omega)) (show k < ln (100 + c0) by rw [ln_row100 (by omega)]; omega) (by rw [g4 c0 hc0m k h102, if_neg (by omega)]) ?_
          refine w_aload_n d_c_countMembers_114 rfl ?_
          refine w_getR d_c_countMembers_115 FL_c_11 (by decide) (rfl) (rfl) ?_
          refine w_iload_n d_c_countMembers_118 rfl ?_
          refine w_aaldN d_c_countMembers_119 (by decide) (rfl) (show i < 24 from (by omega)) ?_
          show Wp _ _ _ (.ref (72 + i) :: _) _ _
          show Wp _ 120 _ _ _ _
          refine w_aload_n d_c_countMembers_120 rfl ?_
          refine w_getIV (v := (nI fr)) d_c_countMembers_121 FL_c_29 (by decide) (rfl) (rfl) (hF2.2.1) ?_
          refine w_iload_n d_c_countMembers_124 rfl ?_
          refine w_iaddN d_c_countMembers_125 ?_
          refine w_ialdNV (v := ((itm S fr i k))) d_c_countMembers_126 (by omega) (kd_row72 (by omega)) (show fr + k < ln (72 + i) by rw [ln_row72 (by omega)]; omega) (itm_keep g1 (by omega) k) ?_
          refine w_iadd d_c_countMembers_127 ?_
          refine w_iastNP d_c_countMembers_128 (by omega) (kd_row100 (by omega)) (show k < ln (100 + c0) by rw [ln_row100 (by omega)]; omega) ?_
          refine w_iincN d_c_countMembers_129 rfl ?_
          refine w_goto 97 d_c_countMembers_132 (by decide) ?_
          refine hn8 h102 _ (g1.put (by omega)) (fun c hc k => by rw [put_ne (by omega)]; exact g2 c hc k) (fun c hc => by rw [put_ne (by omega)]; exact g3 c hc) ?_
          intro c hc j hj
          by_cases hcj : c = c0 ∧ j = k
          · obtain ⟨rfl, rfl⟩ := hcj
            rw [put_at, if_pos ⟨rfl, Nat.lt_succ_self _⟩]
            show _ = (if (nrC (cen S) (itm S fr) w m) i = c then _ else _)
            rw [if_pos hc0.symm]
          · rw [put_ne (by omega), g4 c hc j hj]
            by_cases hcj2 : c = c0 ∧ j < k
            · rw [if_pos hcj2, if_pos (by omega)]
            · rw [if_neg hcj2, if_neg (by omega)]
      refine hin 0 (by omega) _ (h1.put (by omega)) (fun c hc k => by rw [put_ne (by omega)]; exact h2 c hc k) ?_ ?_
      · intro c hc
        show _ = nI (memC (nrC (cen S) (itm S fr) w m) c i + if (nrC (cen S) (itm S fr) w m) i = c then 1 else 0)
        by_cases hcc : c = c0
        · rw [hcc, put_at, if_pos hc0.symm]
        · rw [put_ne (by omega), (h3 c hc).1, if_neg (fun q => hcc (q.symm.trans hc0.symm)), Nat.add_zero]
      · intro c hc j hj
        rw [put_ne (by omega), if_neg (by omega)]
        exact (h3 c hc).2 j hj
  have hk0 : ∀ c, c ≤ m → ∀ (S1 : St) (x2 : Value), FrC S S1 → (∀ c, c < 4 → ∀ k, S1.1 (96 + c) k = S.1 (96 + c) k) → (∀ d, d < c → S1.1 14 d = nI 0 ∧ ∀ k, k < w → S1.1 (100 + d) k = nI 0) → Wp M_c_countMembers 2 [.ref 3, .int (nI c), x2, .null] [] S1 (fun v9 S' => v9 = none ∧ FrC S S' ∧ (∀ c, c < 4 → ∀ k, S'.1 (96 + c) k = S.1 (96 + c) k) ∧ ∀ c, c < m → S'.1 14 c = nI (memC (nrC (cen S) (itm S fr) w m) c n) ∧ ∀ k, k < w → S'.1 (100 + c) k = sumC (nrC (cen S) (itm S fr) w m) (itm S fr) c k n) := by
    refine loopUp (m) (fun c hk9 hn9 => ?_)
    intro S1 x2 h1 h2 h3
    have hF1 := hF0.keep h1
    refine w_iload_n d_c_countMembers_2 rfl ?_
    refine w_aload_n d_c_countMembers_3 rfl ?_
    refine w_getIV (v := (nI m)) d_c_countMembers_4 FL_c_36 (by decide) (rfl) (rfl) (hF1.2.2.2.1) ?_
    refine w_icmp_geN 48 d_c_countMembers_7 (by decide) (by omega) (by omega) (fun h7 => ?_) (fun h7 => ?_)
    · refine w_iconst (v := nI 0) d_c_countMembers_48 (by decide +kernel) ?_
      refine w_istore_n d_c_countMembers_49 (Nat.le_of_ble_eq_true rfl) ?_
      obtain rfl : c = m := by omega
      refine hk1 0 (by omega) _ _ _ h1 h2 ?_
      intro d hd
      exact ⟨(h3 d hd).1, fun k hk => (h3 d hd).2 k hk⟩
    · refine w_aload_n d_c_countMembers_10 rfl ?_
      refine w_getR d_c_countMembers_11 FL_c_22 (by decide) (rfl) (rfl) ?_
      refine w_iload_n d_c_countMembers_14 rfl ?_
      refine w_iconst (v := nI 0) d_c_countMembers_15 (by decide +kernel) ?_
      refine w_iastNP d_c_countMembers_16 (by decide) (rfl) (show c < 4 from (by omega)) ?_
      refine w_iconst (v := nI 0) d_c_countMembers_17 (by decide +kernel) ?_
      refine w_istore_n d_c_countMembers_18 (Nat.le_of_ble_eq_true rfl) ?_
      have hin : ∀ k, k ≤ w → ∀ (S2 : St), FrC S S2 → (∀ c, c < 4 → ∀ k, S2.1 (96 + c) k = S.1 (96 + c) k) → (∀ d, d < c → S2.1 14 d = nI 0 ∧ ∀ k, k < w → S2.1 (100 + d) k = nI 0) → S2.1 14 c = nI 0 → (∀ j, j < k → S2.1 (100 + c) j = nI 0) → Wp M_c_countMembers 19 [.ref 3, .int (nI c), .int (nI k), .null] [] S2 (fun v9 S' => v9 = none ∧ FrC S S' ∧ (∀ c, c < 4 → ∀ k, S'.1 (96 + c) k = S.1 (96 + c) k) ∧ ∀ c, c < m → S'.1 14 c = nI (memC (nrC (cen S) (itm S fr) w m) c n) ∧ ∀ k, k < w → S'.1 (100 + c) k = sumC (nrC (cen S) (itm S fr) w m) (itm S fr) c k n) := by
        refine loopUp (w) (fun k hk8 hn8 => ?_)
        intro S2 g1 g2 g3 g4 g5
        have hF2 := hF0.keep g1
        refine w_iload_n d_c_countMembers_19 rfl ?_
        refine w_aload_n d_c_countMembers_20 rfl ?_
        refine w_getIV (v := (nI w)) d_c_countMembers_21 FL_c_33 (by decide) (rfl) (rfl) (hF2.2.2.1) ?_
        refine w_icmp_geN 42 d_c_countMembers_24 (by decide) (by omega) (by omega) (fun h24 => ?_) (fun h24 => ?_)
        · refine w_iincN d_c_countMembers_42 rfl ?_
          refine w_goto 2 d_c_countMembers_45 (by decide) ?_
          obtain rfl : k = w := by omega
          refine hn9 h7 _ _ g1 g2 ?_
          exact lt_s g3 ⟨g4, g5⟩
        · refine w_aload_n d_c_countMembers_27 rfl ?_
          refine w_getR d_c_countMembers_28 FL_c_19 (by decide) (rfl) (rfl) ?_
          refine w_iload_n d_c_countMembers_31 rfl ?_
          refine w_aaldN d_c_countMembers_32 (by decide) (rfl) (show c < 4 from (by omega)) ?_
          show Wp _ _ _ (.ref (100 + c) :: _) _ _
          refine w_iload_n d_c_countMembers_33 rfl ?_
          refine w_iconst (v := nI 0) d_c_countMembers_34 (by decide +kernel) ?_
          refine w_iastNP d_c_countMembers_35 (by omega) (kd_row100 (by omega)) (show k < ln (100 + c) by rw [ln_row100 (by omega)]; omega) ?_
          refine w_iincN d_c_countMembers_36 rfl ?_
          refine w_goto 19 d_c_countMembers_39 (by decide) ?_
          refine hn8 h24 _ (g1.put (by omega)) (fun c hc k => by rw [put_ne (by omega)]; exact g2 c hc k) ?_ (by rw [put_ne (by omega)]; exact g4) ?_
          · intro d hd
            refine ⟨by rw [put_ne (by omega)]; exact (g3 d hd).1, fun j hj => ?_⟩
            rw [put_ne (by omega)]
            exact (g3 d hd).2 j hj
          · intro j hj
            by_cases hjk : j = k
            · rw [hjk, put_at]
            · rw [put_ne (by omega)]
              exact g5 j (by omega)
      refine hin 0 (by omega) _ (h1.put (by omega)) (fun c hc k => by rw [put_ne (by omega)]; exact h2 c hc k) ?_ put_at (fun j hj => absurd hj (by omega))
      intro d hd
      refine ⟨by rw [put_ne (by omega)]; exact (h3 d hd).1, fun j hj => ?_⟩
      rw [put_ne (by omega)]
      exact (h3 d hd).2 j hj
  refine w_iconst (v := nI 0) d_c_countMembers_0 (by decide +kernel) ?_
  refine w_istore_n d_c_countMembers_1 (Nat.le_of_ble_eq_true rfl) ?_
  exact hk0 0 (by omega) _ _ (FrC.rf S) (fun _ _ _ => rfl) lt_0
def mvC (S : St) (M : Nat → Nat) (c k : Nat) : Int32 := if 0 < M c then fdv (S.1 (100 + c) k) (nI (M c)) else S.1 (96 + c) k
set_option maxRecDepth 100000 in
set_option maxHeartbeats 4000000 in
theorem c_c_moveToMeans (S : St) (n fr w m : Nat) (hF : CF S n fr w m) (M : Nat → Nat) (hM : ∀ c, c < m → S.1 14 c = nI (M c) ∧ M c ≤ 24) : Ev M_c_moveToMeans [.ref 3] S (fun v9 S' => v9 = none ∧ FrC S S' ∧ (∀ c, S'.1 14 c = S.1 14 c) ∧ ∀ c, c < m → ∀ k, k < w → S'.1 (96 + c) k = mvC S M c k) := by
  refine Ev.of MF_c_moveToMeans (all_cat rfl) (Nat.le_of_ble_eq_true rfl) ?_
  show Wp M_c_moveToMeans 0 [.ref 3, .null, .null] [] _ _
  have hF0 := hF
  obtain ⟨hn, hfr, hw, hm, hn0, hn24, hfw, hw0, hm0, hm4⟩ := hF
  have hk0 : ∀ c, c ≤ m → ∀ (S1 : St) (x2 : Value), FrC S S1 → (∀ a i, (a = 14 ∨ (100 ≤ a ∧ a < 104)) → S1.1 a i = S.1 a i) → (∀ d, d < 4 → ∀ j, S1.1 (96 + d) j = if d < c ∧ j < w then mvC S M d j else S.1 (96 + d) j) → Wp M_c_moveToMeans 2 [.ref 3, .int (nI c), x2] [] S1 (fun v9 S' => v9 = none ∧ FrC S S' ∧ (∀ c, S'.1 14 c = S.1 14 c) ∧ ∀ c, c < m → ∀ k, k < w → S'.1 (96 + c) k = mvC S M c k) := by
    refine loopUp (m) (fun c hk9 hn9 => ?_)
    intro S1 x2 h1 h2 h3
    have hF1 := hF0.keep h1
    refine w_iload_n d_c_moveToMeans_2 rfl ?_
    refine w_aload_n d_c_moveToMeans_3 rfl ?_
    refine w_getIV (v := (nI m)) d_c_moveToMeans_4 FL_c_36 (by decide) (rfl) (rfl) (hF1.2.2.2.1) ?_
    refine w_icmp_geN 66 d_c_moveToMeans_7 (by decide) (by omega) (by omega) (fun h7 => ?_) (fun h7 => ?_)
    · refine w_ret (st := []) rfl d_c_moveToMeans_66 ?_
      obtain rfl : c = m := by omega
      refine ⟨rfl, h1, fun c => h2 14 c (by omega), fun d hd k hk => ?_⟩
      rw [h3 d (by omega) k, if_pos ⟨hd, hk⟩]
    · refine w_aload_n d_c_moveToMeans_10 rfl ?_
      refine w_getR d_c_moveToMeans_11 FL_c_22 (by decide) (rfl) (rfl) ?_
      refine w_iload_n d_c_moveToMeans_14 rfl ?_
      refine w_ialdNV (v := (nI (M c))) d_c_moveToMeans_15 (by decide) (rfl) (show c < 4 from (by omega)) ((h2 14 c (by omega)).trans (hM c h7).1) ?_
      have hM24 := (hM c h7).2
      refine w_if_leN 60 d_c_moveToMeans_16 (by decide) (by omega) (fun h16 => ?_) (fun h16 => ?_)
      · refine w_iincN d_c_moveToMeans_60 rfl ?_
        refine w_goto 2 d_c_moveToMeans_63 (by decide) ?_
        refine hn9 h7 _ _ h1 h2 ?_
        intro d hd j
        rw [h3 d hd j]
        by_cases hcond : d < c ∧ j < w
        · rw [if_pos hcond, if_pos (by omega)]
        · rw [if_neg hcond]
          by_cases hd2 : d < c + 1 ∧ j < w
          · rw [if_pos hd2]
            obtain rfl : d = c := by omega
            unfold mvC
            rw [if_neg (by omega)]
          · rw [if_neg hd2]
      · refine w_iconst (v := nI 0) d_c_moveToMeans_19 (by decide +kernel) ?_
        refine w_istore_n d_c_moveToMeans_20 (Nat.le_of_ble_eq_true rfl) ?_
        have hin : ∀ k, k ≤ w → ∀ (S2 : St), FrC S S2 → (∀ a i, (a = 14 ∨ (100 ≤ a ∧ a < 104)) → S2.1 a i = S.1 a i) → (∀ d, d < 4 → ∀ j, S2.1 (96 + d) j = if (d < c ∧ j < w) ∨ (d = c ∧ j < k) then mvC S M d j else S.1 (96 + d) j) → Wp M_c_moveToMeans 21 [.ref 3, .int (nI c), .int (nI k)] [] S2 (fun v9 S' => v9 = none ∧ FrC S S' ∧ (∀ c, S'.1 14 c = S.1 14 c) ∧ ∀ c, c < m → ∀ k, k < w → S'.1 (96 + c) k = mvC S M c k) := by
          refine loopUp (w) (fun k hk8 hn8 => ?_)
          intro S2 g1 g2 g3
          have hF2 := hF0.keep g1
          refine w_iload_n d_c_moveToMeans_21 rfl ?_
          refine w_aload_n d_c_moveToMeans_22 rfl ?_
          refine w_getIV (v := (nI w)) d_c_moveToMeans_23 FL_c_33 (by decide) (rfl) (rfl) (hF2.2.2.1) ?_
          refine w_icmp_geN 60 d_c_moveToMeans_26 (by decide) (by omega) (by omega) (fun h26 => ?_) (fun h26 => ?_)
          · refine w_iincN d_c_moveToMeans_60 rfl ?_
            refine w_goto 2 d_c_moveToMeans_63 (by decide) ?_
            refine hn9 h7 _ _ g1 g2 ?_
            intro d hd j
            rw [g3 d hd j]
            by_cases hcond : d < c + 1 ∧ j < w
            · rw [if_pos hcond, if_pos (by omega)]
            · rw [if_neg hcond, if_neg (by omega)]
          · refine w_aload_n d_c_moveToMeans_29 rfl ?_
            refine w_getR d_c_moveToMeans_30 FL_c_16 (by decide) (rfl) (rfl) ?_
            refine w_iload_n d_c_moveToMeans_33 rfl ?_
            refine w_aaldN d_c_moveToMeans_34 (by decide) (rfl) (show c < 4 from (by omega)) ?_
            show Wp _ _ _ (.ref (96 + c) :: _) _ _
            refine w_iload_n d_c_moveToMeans_35 rfl ?_
            refine w_aload_n d_c_moveToMeans_36 rfl ?_
            refine w_getR d_c_moveToMeans_37 FL_c_19 (by decide) (rfl) (rfl) ?_
            refine w_iload_n d_c_moveToMeans_40 rfl ?_
            refine w_aaldN d_c_moveToMeans_41 (by decide) (rfl) (show c < 4 from (by omega)) ?_
            show Wp _ _ _ (.ref (100 + c) :: _) _ _
            refine w_iload_n d_c_moveToMeans_42 rfl ?_
            refine w_ialdNV (v := ((S.1 (100 + c) k))) d_c_moveToMeans_43 (by omega) (kd_row100 (by omega)) (show k < ln (100 + c) by rw [ln_row100 (by omega)]; omega) (g2 _ _ (by omega)) ?_
            show Wp _ 44 _ _ _ _
            refine w_aload_n d_c_moveToMeans_44 rfl ?_
            refine w_getR d_c_moveToMeans_45 FL_c_22 (by decide) (rfl) (rfl) ?_
            refine w_iload_n d_c_moveToMeans_48 rfl ?_
            refine w_ialdNV (v := (nI (M c))) d_c_moveToMeans_49 (by decide) (rfl) (show c < 4 from (by omega)) ((g2 14 c (by omega)).trans (hM c h7).1) ?_
            refine w_callS2 (N := M_j_floorDiv) d_c_moveToMeans_50 LK_c_79 MF_j_floorDiv MS_j_floorDiv NP_j_floorDiv (by decide) rfl (Nat.le_of_ble_eq_true rfl) ?_
            refine Ev.det (c_j_floorDiv _ _ _ (nI_ne0 (by omega) (by have := (hM c h7).2; omega))) ?_
            refine w_iastNP d_c_moveToMeans_53 (by omega) (kd_row96 (by omega)) (show k < ln (96 + c) by rw [ln_row96 (by omega)]; omega) ?_
            refine w_iincN d_c_moveToMeans_54 rfl ?_
            refine w_goto 21 d_c_moveToMeans_57 (by decide) ?_
            refine hn8 h26 _ (g1.put (by omega)) (fun a i ha => by rw [put_ne (by omega)]; exact g2 a i ha) ?_
            intro d hd j
            by_cases hdj : d = c ∧ j = k
            · obtain ⟨rfl, rfl⟩ := hdj
              rw [put_at, if_pos (by omega)]
              unfold mvC
              rw [if_pos (by omega)]
            · rw [put_ne (by omega), g3 d hd j]
              by_cases hcond : (d < c ∧ j < w) ∨ (d = c ∧ j < k)
              · rw [if_pos hcond, if_pos (by omega)]
              · rw [if_neg hcond, if_neg (by omega)]
        refine hin 0 (by omega) _ h1 h2 ?_
        intro d hd j
        rw [h3 d hd j]
        by_cases hcond : d < c ∧ j < w
        · rw [if_pos hcond, if_pos (by omega)]
        · rw [if_neg hcond, if_neg (by omega)]
  refine w_iconst (v := nI 0) d_c_moveToMeans_0 (by decide +kernel) ?_
  refine w_istore_n d_c_moveToMeans_1 (Nat.le_of_ble_eq_true rfl) ?_
  exact hk0 0 (by omega) _ _ (FrC.rf S) (fun _ _ _ => rfl) (fun d _ j => by rw [if_neg (by omega)])
set_option maxRecDepth 100000 in
set_option maxHeartbeats 4000000 in
theorem c_c_splitInto (S : St) (n fr w m : Nat) (hF : CF S n fr w m) (s : Nat → Nat) (hs : ∀ c, c < m → S.1 15 c = nI (s c) ∧ s c ≤ 24) (e b : Nat) (he : e < m) (hb : b < m) (heb : b ≠ e ∨ s e = 0) : Ev M_c_splitInto [.ref 3, .int (nI e), .int (nI b)] S (fun v9 S' => v9 = none ∧ FrC S S' ∧ (∀ c, S'.1 14 c = S.1 14 c) ∧ (∀ c, c < m → ∀ k, k < w → S'.1 (96 + c) k = (spl (cen S, s) e b).1 c k) ∧ ∀ c, c < m → S'.1 15 c = nI ((spl (cen S, s) e b).2 c)) := by
  refine Ev.of MF_c_splitInto (all_cat rfl) (Nat.le_of_ble_eq_true rfl) ?_
  show Wp M_c_splitInto 0 [.ref 3, .int (nI e), .int (nI b), .null] [] _ _
  have hF0 := hF
  obtain ⟨hn, hfr, hw, hm, hn0, hn24, hfw, hw0, hm0, hm4⟩ := hF
  have hsb := (hs b hb).2
  have hk0 : ∀ k, k ≤ w → ∀ (S1 : St), S1 = setRow S (96 + e) (cen S b) k → Wp M_c_splitInto 2 [.ref 3, .int (nI e), .int (nI b), .int (nI k)] [] S1 (fun v9 S' => v9 = none ∧ FrC S S' ∧ (∀ c, S'.1 14 c = S.1 14 c) ∧ (∀ c, c < m → ∀ k, k < w → S'.1 (96 + c) k = (spl (cen S, s) e b).1 c k) ∧ ∀ c, c < m → S'.1 15 c = nI ((spl (cen S, s) e b).2 c)) := by
    refine loopUp (w) (fun k hk9 hn9 => ?_)
    intro S1 hS
    have e3 : ∀ j, S1.1 3 j = S.1 3 j := fun j => by rw [hS, setRow_ne (by omega)]
    refine w_iload_n d_c_splitInto_2 rfl ?_
    refine w_aload_n d_c_splitInto_3 rfl ?_
    refine w_getIV (v := (nI w)) d_c_splitInto_4 FL_c_33 (by decide) (rfl) (rfl) ((e3 7).trans hw) ?_
    refine w_icmp_geN 32 d_c_splitInto_7 (by decide) (by omega) (by omega) (fun h7 => ?_) (fun h7 => ?_)
    · refine w_aload_n d_c_splitInto_32 rfl ?_
      refine w_getR d_c_splitInto_33 FL_c_16 (by decide) (rfl) (rfl) ?_
      refine w_iload_n d_c_splitInto_36 rfl ?_
      refine w_aaldN d_c_splitInto_37 (by decide) (rfl) (show e < 4 from (by omega)) ?_
      show Wp _ _ _ (.ref (96 + e) :: _) _ _
      refine w_iconst (v := nI 0) d_c_splitInto_38 (by decide +kernel) ?_
      refine w_dup2 d_c_splitInto_39 rfl rfl ?_
      refine w_ialdNV (v := ((cen S b 0))) d_c_splitInto_40 (by omega) (kd_row96 (by omega)) (show 0 < ln (96 + e) by rw [ln_row96 (by omega)]; omega) (by subst hS; rw [setRow_at (by omega)]) ?_
      refine w_iconst (v := nI 1) d_c_splitInto_41 (by decide +kernel) ?_
      refine w_iadd d_c_splitInto_42 ?_
      refine w_iastNP d_c_splitInto_43 (by omega) (kd_row96 (by omega)) (show 0 < ln (96 + e) by rw [ln_row96 (by omega)]; omega) ?_
      refine w_aload_n d_c_splitInto_44 rfl ?_
      show Wp _ 45 _ _ _ _
      refine w_getR d_c_splitInto_45 FL_c_26 (by decide) (rfl) (rfl) ?_
      refine w_iload_n d_c_splitInto_48 rfl ?_
      refine w_aload_n d_c_splitInto_49 rfl ?_
      refine w_getR d_c_splitInto_50 FL_c_26 (by decide) (rfl) (rfl) ?_
      refine w_iload_n d_c_splitInto_53 rfl ?_
      refine w_ialdNV (v := (nI (s b))) d_c_splitInto_54 (by decide) (rfl) (show b < 4 from (by omega)) (by subst hS; rw [put_ne (by omega), setRow_ne (by omega)]; exact (hs b hb).1) ?_
      refine w_iconst (v := nI 2) d_c_splitInto_55 (by decide +kernel) ?_
      refine w_idivN d_c_splitInto_56 (by omega) (by omega) (by omega) ?_
      refine w_iastNP d_c_splitInto_57 (by decide) (rfl) (show e < 4 from (by omega)) ?_
      refine w_aload_n d_c_splitInto_58 rfl ?_
      refine w_getR d_c_splitInto_59 FL_c_26 (by decide) (rfl) (rfl) ?_
      refine w_iload_n d_c_splitInto_62 rfl ?_
      show Wp _ 63 _ _ _ _
      refine w_dup2 d_c_splitInto_63 rfl rfl ?_
      refine w_ialdNV (v := (nI ((if b = e then s b / 2 else s b)))) d_c_splitInto_64 (by decide) (rfl) (show b < 4 from (by omega)) (by subst hS; exact (if hbe : b = e then (by rw [if_pos hbe, hbe, put_at]) else (by rw [if_neg hbe, put_ne (by omega), put_ne (by omega), setRow_ne (by omega)]; exact (hs b hb).1))) ?_
      refine w_aload_n d_c_splitInto_65 rfl ?_
      refine w_getR d_c_splitInto_66 FL_c_26 (by decide) (rfl) (rfl) ?_
      refine w_iload_n d_c_splitInto_69 rfl ?_
      refine w_ialdNV (v := (nI (s b / 2))) d_c_splitInto_70 (by decide) (rfl) (show e < 4 from (by omega)) (put_at) ?_
      refine w_isubN d_c_splitInto_71 (by split <;> omega) ?_
      refine w_iastNP d_c_splitInto_72 (by decide) (rfl) (show b < 4 from (by omega)) ?_
      refine w_ret (st := []) rfl d_c_splitInto_73 ?_
      subst hS
      obtain rfl : k = w := by omega
      refine ⟨rfl, ?_, ?_, ?_, ?_⟩
      · exact ((((FrC.rf S).row (by omega)).put (by omega)).put (by omega)).put (by omega)
      · intro c
        rw [put_ne (by omega), put_ne (by omega), put_ne (by omega), setRow_ne (by omega)]
      · intro c hc j hj
        show _ = (if c = e then cen S b j + (if j = 0 then 1 else 0) else cen S c j)
        rw [put_ne (by omega), put_ne (by omega)]
        by_cases hce : c = e
        · subst hce
          rw [if_pos rfl]
          by_cases hj0 : j = 0
          · subst hj0
            rw [put_at, if_pos rfl]
            rfl
          · rw [put_ne (by omega), setRow_at hj, if_neg hj0, Int32.add_zero]
        · rw [put_ne (by omega), setRow_ne (by omega), if_neg hce]
          rfl
      · intro c hc
        show _ = nI (if c = e then s b / 2 else if c = b then s b - s b / 2 else s c)
        by_cases hcb : c = b
        · subst hcb
          rw [put_at]
          by_cases hce : c = e
          · have h0 : s c = 0 := by
              rcases heb with q | q
              · exact absurd hce q
              · rw [hce]; exact q
            rw [if_pos hce, if_pos hce, h0]
          · rw [if_neg hce, if_neg hce, if_pos rfl]
        · rw [put_ne (by omega), if_neg hcb]
          by_cases hce : c = e
          · rw [hce, put_at, if_pos rfl]
          · rw [put_ne (by omega), put_ne (by omega), setRow_ne (by omega), if_neg hce]
            exact (hs c hc).1
    · refine w_aload_n d_c_splitInto_10 rfl ?_
      refine w_getR d_c_splitInto_11 FL_c_16 (by decide) (rfl) (rfl) ?_
      refine w_iload_n d_c_splitInto_14 rfl ?_
      refine w_aaldN d_c_splitInto_15 (by decide) (rfl) (show e < 4 from (by omega)) ?_
      show Wp _ _ _ (.ref (96 + e) :: _) _ _
      refine w_iload_n d_c_splitInto_16 rfl ?_
      refine w_aload_n d_c_splitInto_17 rfl ?_
      refine w_getR d_c_splitInto_18 FL_c_16 (by decide) (rfl) (rfl) ?_
      refine w_iload_n d_c_splitInto_21 rfl ?_
      refine w_aaldN d_c_splitInto_22 (by decide) (rfl) (show b < 4 from (by omega)) ?_
      show Wp _ _ _ (.ref (96 + b) :: _) _ _
      refine w_iload_n d_c_splitInto_23 rfl ?_
      refine w_ialdNV (v := ((cen S b k))) d_c_splitInto_24 (by omega) (kd_row96 (by omega)) (show k < ln (96 + b) by rw [ln_row96 (by omega)]; omega) (by rw [hS]; exact (if hbe : b = e then (by subst hbe; rw [setRow_hi (Nat.lt_irrefl k)]; rfl) else (by rw [setRow_ne (by omega)]; rfl))) ?_
      show Wp _ 25 _ _ _ _
      refine w_iastNP d_c_splitInto_25 (by omega) (kd_row96 (by omega)) (show k < ln (96 + e) by rw [ln_row96 (by omega)]; omega) ?_
      refine w_iincN d_c_splitInto_26 rfl ?_
      refine w_goto 2 d_c_splitInto_29 (by decide) ?_
      refine hn9 h7 _ ?_
      rw [hS]
      exact setRow_s rfl
  refine w_iconst (v := nI 0) d_c_splitInto_0 (by decide +kernel) ?_
  refine w_istore_n d_c_splitInto_1 (Nat.le_of_ble_eq_true rfl) ?_
  exact hk0 0 (by omega) _ (setRow_0 _ _ _).symm
set_option maxRecDepth 100000 in
set_option maxHeartbeats 4000000 in
theorem c_c_fillEmptyCentres (S : St) (n fr w m : Nat) (hF : CF S n fr w m) (M : Nat → Nat) (hM : ∀ c, c < m → S.1 14 c = nI (M c) ∧ M c ≤ 24) : Ev M_c_fillEmptyCentres [.ref 3] S (fun v9 S' => v9 = none ∧ FrC S S' ∧ ∀ c, c < m → ∀ k, k < w → S'.1 (96 + c) k = (fil (cen S) M m m).1 c k) := by
  refine Ev.of MF_c_fillEmptyCentres (all_cat rfl) (Nat.le_of_ble_eq_true rfl) ?_
  show Wp M_c_fillEmptyCentres 0 [.ref 3, .null] [] _ _
  have hF0 := hF
  obtain ⟨hn, hfr, hw, hm, hn0, hn24, hfw, hw0, hm0, hm4⟩ := hF
  have hle : ∀ e c, c < m → (fil (cen S) (fun c => if c < m then M c else 0) m e).2 c ≤ 24 := fun e c _ => fil_le (fun c => by show (if c < m then M c else 0) ≤ 24; exact (if h : c < m then (by rw [if_pos h]; exact (hM c h).2) else (by rw [if_neg h]; omega))) e c
  have hle2 : ∀ e, e ≤ m → ∀ c, c < m → (fil (cen S) M m e).2 c ≤ 24 := fun e he c hc => by rw [(fil_congr (w := w) (D := cen S) (nem := fun c => if c < m then M c else 0) hm0 (fun _ _ _ _ => rfl) (fun c hc => (if_pos hc).symm) e he).2 c hc]; exact hle e c hc
  have hk1 : ∀ e, e ≤ m → ∀ (S1 : St), FrC S S1 → (∀ c, S1.1 14 c = S.1 14 c) → (∀ c, c < m → ∀ k, k < w → S1.1 (96 + c) k = (fil (cen S) M m e).1 c k) → (∀ c, c < m → S1.1 15 c = nI ((fil (cen S) M m e).2 c)) → Wp M_c_fillEmptyCentres 30 [.ref 3, .int (nI e)] [] S1 (fun v9 S' => v9 = none ∧ FrC S S' ∧ ∀ c, c < m → ∀ k, k < w → S'.1 (96 + c) k = (fil (cen S) M m m).1 c k) := by
    refine loopUp (m) (fun e hk9 hn9 => ?_)
    intro S1 h1 h2 h3 h4
    have hF1 := hF0.keep h1
    have h5 : ∀ c, c < m → S1.1 15 c = nI ((fil (cen S) M m e).2 c) ∧ (fil (cen S) M m e).2 c ≤ 24 := fun c hc => ⟨h4 c hc, hle2 e hk9 c hc⟩
    refine w_iload_n d_c_fillEmptyCentres_30 rfl ?_
    refine w_aload_n d_c_fillEmptyCentres_31 rfl ?_
    refine w_getIV (v := (nI m)) d_c_fillEmptyCentres_32 FL_c_36 (by decide) (rfl) (rfl) (hF1.2.2.2.1) ?_
    refine w_icmp_geN 62 d_c_fillEmptyCentres_35 (by decide) (by omega) (by omega) (fun h35 => ?_) (fun h35 => ?_)
    · refine w_ret (st := []) rfl d_c_fillEmptyCentres_62 ?_
      obtain rfl : e = m := by omega
      exact ⟨rfl, h1, h3⟩
    · refine w_aload_n d_c_fillEmptyCentres_38 rfl ?_
      refine w_getR d_c_fillEmptyCentres_39 FL_c_22 (by decide) (rfl) (rfl) ?_
      refine w_iload_n d_c_fillEmptyCentres_42 rfl ?_
      refine w_ialdNV (v := (nI (M e))) d_c_fillEmptyCentres_43 (by decide) (rfl) (show e < 4 from (by omega)) ((h2 e).trans (hM e h35).1) ?_
      have hM24 := (hM e h35).2
      refine w_if_neN 56 d_c_fillEmptyCentres_44 (by decide) (by omega) (fun h44 => ?_) (fun h44 => ?_)
      · refine w_iincN d_c_fillEmptyCentres_56 rfl ?_
        refine w_goto 30 d_c_fillEmptyCentres_59 (by decide) ?_
        have e1 : fil (cen S) M m (e + 1) = (fil (cen S) M m e) := by show (if M e = 0 then _ else _) = _; rw [if_neg h44]
        refine hn9 h35 _ h1 h2 ?_ ?_
        · rw [e1]; exact h3
        · rw [e1]; exact h4
      · refine w_aload_n d_c_fillEmptyCentres_47 rfl ?_
        refine w_iload_n d_c_fillEmptyCentres_48 rfl ?_
        refine w_aload_n d_c_fillEmptyCentres_49 rfl ?_
        refine w_callV0 (N := M_c_greatestShare) d_c_fillEmptyCentres_50 LK_c_82 MF_c_greatestShare MV_c_greatestShare NP_c_greatestShare (by decide) (by decide) (rfl) rfl rfl (Nat.le_of_ble_eq_true rfl) ?_
        refine Ev.det (c_c_greatestShare S1 n fr w m hF1 (fil (cen S) M m e).2 h5) ?_
        refine w_callV2 (N := M_c_splitInto) d_c_fillEmptyCentres_53 LK_c_86 MF_c_splitInto MV_c_splitInto NP_c_splitInto (by decide) (by decide) (rfl) rfl rfl (Nat.le_of_ble_eq_true rfl) ?_
        refine Ev.mono (c_c_splitInto S1 n fr w m hF1 (fil (cen S) M m e).2 h5 e _ h35 (gst_lt _ _ hm0) (Or.inr (fil_0 e e (Nat.le_refl e) h44))) (fun r S2 hq => ?_)
        obtain ⟨rfl, g1, g2, g3, g4⟩ := hq
        show Wp _ _ _ [] _ _
        refine w_iincN d_c_fillEmptyCentres_56 rfl ?_
        refine w_goto 30 d_c_fillEmptyCentres_59 (by decide) ?_
        have e1 : fil (cen S) M m (e + 1) = spl (fil (cen S) M m e) e (gst (fil (cen S) M m e).2 m) := by show (if M e = 0 then _ else _) = _; rw [if_pos h44]
        have hgm := gst_lt (fil (cen S) M m e).2 m hm0
        refine hn9 h35 _ (h1.tr g1) (fun c => (g2 c).trans (h2 c)) ?_ ?_
        · rw [e1]
          intro c hc k hk
          rw [g3 c hc k hk]
          show (if c = e then cen S1 _ k + _ else cen S1 c k) = (if c = e then ((fil (cen S) M m e)).1 _ k + _ else ((fil (cen S) M m e)).1 c k)
          have k1 : cen S1 (gst (fil (cen S) M m e).2 m) k = (fil (cen S) M m e).1 (gst (fil (cen S) M m e).2 m) k := h3 _ hgm k hk
          have k2 : cen S1 c k = (fil (cen S) M m e).1 c k := h3 c hc k hk
          rw [k1, k2]
        · rw [e1]
          exact g4
  have hk0 : ∀ c, c ≤ m → ∀ (S1 : St), S1 = setRow S 15 (fun c => nI (M c)) c → Wp M_c_fillEmptyCentres 2 [.ref 3, .int (nI c)] [] S1 (fun v9 S' => v9 = none ∧ FrC S S' ∧ ∀ c, c < m → ∀ k, k < w → S'.1 (96 + c) k = (fil (cen S) M m m).1 c k) := by
    refine loopUp (m) (fun c hk9 hn9 => ?_)
    intro S1 hS
    have e3 : ∀ a j, a ≠ 15 → S1.1 a j = S.1 a j := fun a j ha => by rw [hS, setRow_ne ha]
    refine w_iload_n d_c_fillEmptyCentres_2 rfl ?_
    refine w_aload_n d_c_fillEmptyCentres_3 rfl ?_
    refine w_getIV (v := (nI m)) d_c_fillEmptyCentres_4 FL_c_36 (by decide) (rfl) (rfl) ((e3 3 8 (by decide)).trans hm) ?_
    refine w_icmp_geN 28 d_c_fillEmptyCentres_7 (by decide) (by omega) (by omega) (fun h7 => ?_) (fun h7 => ?_)
    · refine w_iconst (v := nI 0) d_c_fillEmptyCentres_28 (by decide +kernel) ?_
      refine w_istore_n d_c_fillEmptyCentres_29 (Nat.le_of_ble_eq_true rfl) ?_
      obtain rfl : c = m := by omega
      refine hk1 0 (by omega) _ (by rw [hS]; exact (FrC.rf S).row (by omega)) (fun c => e3 14 c (by decide)) (fun c hc k hk => e3 _ _ (by omega)) ?_
      intro d hd
      rw [hS, setRow_at hd]
      rfl
    · refine w_aload_n d_c_fillEmptyCentres_10 rfl ?_
      refine w_getR d_c_fillEmptyCentres_11 FL_c_26 (by decide) (rfl) (rfl) ?_
      refine w_iload_n d_c_fillEmptyCentres_14 rfl ?_
      refine w_aload_n d_c_fillEmptyCentres_15 rfl ?_
      refine w_getR d_c_fillEmptyCentres_16 FL_c_22 (by decide) (rfl) (rfl) ?_
      refine w_iload_n d_c_fillEmptyCentres_19 rfl ?_
      refine w_ialdNV (v := (nI (M c))) d_c_fillEmptyCentres_20 (by decide) (rfl) (show c < 4 from (by omega)) ((e3 14 c (by decide)).trans (hM c h7).1) ?_
      refine w_iastNP d_c_fillEmptyCentres_21 (by decide) (rfl) (show c < 4 from (by omega)) ?_
      refine w_iincN d_c_fillEmptyCentres_22 rfl ?_
      refine w_goto 2 d_c_fillEmptyCentres_25 (by decide) ?_
      refine hn9 h7 _ ?_
      rw [hS]
      exact setRow_s rfl
  refine w_iconst (v := nI 0) d_c_fillEmptyCentres_0 (by decide +kernel) ?_
  refine w_istore_n d_c_fillEmptyCentres_1 (Nat.le_of_ble_eq_true rfl) ?_
  exact hk0 0 (by omega) _ (setRow_0 _ _ _).symm
