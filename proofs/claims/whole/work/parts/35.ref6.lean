def rsM (S : St) : Nat → Nat → Int32 := fun i k => S.1 40 (4 * i + k)
/-- what the learning of part p may write -/
def FrL (S S' : St) (p : Nat) : Prop := S'.2 = S.2 ∧ ∀ a i, ¬ (a = 39 ∨ a = 41 ∨ a = 42 ∨ a = 43) → ¬ (a = 29 ∧ 8 * p ≤ i ∧ i < 8 * p + 8) → S'.1 a i = S.1 a i
set_option maxRecDepth 100000 in
set_option maxHeartbeats 4000000 in
theorem c_m_learn (S : St) (p : Nat) (hp : p < 2) (ns nc r : Nat) (hn : S.1 8 2 = nI ns) (hn0 : 0 < ns) (hn24 : ns ≤ 24) (hc : S.1 8 6 = nI nc) (hc1 : 0 < nc) (hc4 : nc ≤ 4) (hr : r ≤ 8) : Ev M_m_learn [.ref 8, .int (nI p), .int (nI r)] S (fun v9 S' => v9 = none ∧ FrL S S' p ∧ ∀ j, j < nc → ∀ k, k < 2 → S'.1 29 (8 * p + 2 * j + k) = clu (fun i k => rsM S i (2 * p + k)) ns 2 nc r j k) := by
  refine Ev.of MF_m_learn (all_cat rfl) (Nat.le_of_ble_eq_true rfl) ?_
  show Wp M_m_learn 0 [.ref 8, .int (nI p), .int (nI r), .null] [] _ _
  have hk1 : ∀ j, j ≤ nc → ∀ (S1 : St), FrL S S1 p → (∀ c, c < nc → ∀ k, k < 2 → S1.1 41 (4 * c + k) = clu (fun i k => rsM S i (2 * p + k)) ns 2 nc r c k) → (∀ q, q < j → ∀ k, k < 2 → S1.1 29 (8 * p + 2 * q + k) = clu (fun i k => rsM S i (2 * p + k)) ns 2 nc r q k) → Wp M_m_learn 72 [.ref 8, .int (nI p), .int (nI r), .int (nI j)] [] S1 (fun v9 S' => v9 = none ∧ FrL S S' p ∧ ∀ j, j < nc → ∀ k, k < 2 → S'.1 29 (8 * p + 2 * j + k) = clu (fun i k => rsM S i (2 * p + k)) ns 2 nc r j k) := by
    refine loopUp (nc) (fun j hk9 hn9 => ?_)
    intro S1 h1 h2 h3
    refine w_iload_n d_m_learn_72 rfl ?_
    refine w_aload_n d_m_learn_73 rfl ?_
    refine w_getIV (v := (nI nc)) d_m_learn_74 FL_m_137 (by decide) (rfl) (rfl) ((h1.2 8 6 (by omega) (by omega)).trans hc) ?_
    refine w_icmp_geN 132 d_m_learn_77 (by decide) (by omega) (by omega) (fun h77 => ?_) (fun h77 => ?_)
    · refine w_ret (st := []) rfl d_m_learn_132 ?_
      obtain rfl : j = nc := by omega
      exact ⟨rfl, h1, h3⟩
    · refine w_aload_n d_m_learn_80 rfl ?_
      refine w_getR d_m_learn_81 FL_m_19 (by decide) (rfl) (rfl) ?_
      refine w_bipush (v := nI 8) d_m_learn_84 (by decide +kernel) ?_
      refine w_iload_n d_m_learn_86 rfl ?_
      refine w_imulN d_m_learn_87 ?_
      refine w_iconst (v := nI 2) d_m_learn_88 (by decide +kernel) ?_
      refine w_iload_n d_m_learn_89 rfl ?_
      refine w_imulN d_m_learn_90 ?_
      refine w_iaddN d_m_learn_91 ?_
      refine w_aload_n d_m_learn_92 rfl ?_
      refine w_getR d_m_learn_93 FL_m_56 (by decide) (rfl) (rfl) ?_
      show Wp _ 96 _ _ _ _
      refine w_iconst (v := nI 4) d_m_learn_96 (by decide +kernel) ?_
      refine w_iload_n d_m_learn_97 rfl ?_
      refine w_imulN d_m_learn_98 ?_
      refine w_ialdNV (v := ((clu (fun i k => rsM S i (2 * p + k)) ns 2 nc r j 0))) d_m_learn_99 (by decide) (rfl) (show 4 * j < 16 from (by omega)) (h2 j h77 0 (by omega)) ?_
      refine w_iastNP d_m_learn_100 (by decide) (rfl) (show (8 * p) + (2 * j) < 32 from (by omega)) ?_
      refine w_aload_n d_m_learn_101 rfl ?_
      refine w_getR d_m_learn_102 FL_m_19 (by decide) (rfl) (rfl) ?_
      refine w_bipush (v := nI 8) d_m_learn_105 (by decide +kernel) ?_
      refine w_iload_n d_m_learn_107 rfl ?_
      refine w_imulN d_m_learn_108 ?_
      refine w_iconst (v := nI 2) d_m_learn_109 (by decide +kernel) ?_
      refine w_iload_n d_m_learn_110 rfl ?_
      show Wp _ 111 _ _ _ _
      refine w_imulN d_m_learn_111 ?_
      refine w_iaddN d_m_learn_112 ?_
      refine w_iconst (v := nI 1) d_m_learn_113 (by decide +kernel) ?_
      refine w_iaddN d_m_learn_114 ?_
      refine w_aload_n d_m_learn_115 rfl ?_
      refine w_getR d_m_learn_116 FL_m_56 (by decide) (rfl) (rfl) ?_
      refine w_iconst (v := nI 4) d_m_learn_119 (by decide +kernel) ?_
      refine w_iload_n d_m_learn_120 rfl ?_
      refine w_imulN d_m_learn_121 ?_
      refine w_iconst (v := nI 1) d_m_learn_122 (by decide +kernel) ?_
      refine w_iaddN d_m_learn_123 ?_
      refine w_ialdNV (v := ((clu (fun i k => rsM S i (2 * p + k)) ns 2 nc r j 1))) d_m_learn_124 (by decide) (rfl) (show (4 * j) + 1 < 16 from (by omega)) (by rw [put_ne (by omega)]; exact h2 j h77 1 (by omega)) ?_
      show Wp _ 125 _ _ _ _
      refine w_iastNP d_m_learn_125 (by decide) (rfl) (show ((8 * p) + (2 * j)) + 1 < 32 from (by omega)) ?_
      refine w_iincN d_m_learn_126 rfl ?_
      refine w_goto 72 d_m_learn_129 (by decide) ?_
      refine hn9 h77 _ ⟨h1.1, fun a i ha hb => by rw [put_ne (by omega), put_ne (by omega)]; exact h1.2 a i ha hb⟩ (fun c hc k hk => by rw [put_ne (by omega), put_ne (by omega)]; exact h2 c hc k hk) ?_
      intro q hq k hk
      by_cases hqj : q = j
      · subst hqj
        by_cases hk0 : k = 0
        · rw [hk0, put_ne (by omega)]
          exact put_at
        · obtain rfl : k = 1 := by omega
          exact put_at
      · rw [put_ne (by omega), put_ne (by omega)]
        exact h3 q (by omega) k hk
  have hk0 : ∀ i, i ≤ ns → ∀ (S1 : St), FrL S S1 p → (∀ q, q < i → ∀ k, k < 2 → S1.1 39 (4 * q + k) = rsM S q (2 * p + k)) → Wp M_m_learn 2 [.ref 8, .int (nI p), .int (nI r), .int (nI i)] [] S1 (fun v9 S' => v9 = none ∧ FrL S S' p ∧ ∀ j, j < nc → ∀ k, k < 2 → S'.1 29 (8 * p + 2 * j + k) = clu (fun i k => rsM S i (2 * p + k)) ns 2 nc r j k) := by
    refine loopUp (ns) (fun i hk9 hn9 => ?_)
    intro S1 h1 h2
    refine w_iload_n d_m_learn_2 rfl ?_
    refine w_aload_n d_m_learn_3 rfl ?_
    refine w_getIV (v := (nI ns)) d_m_learn_4 FL_m_103 (by decide) (rfl) (rfl) ((h1.2 8 2 (by omega) (by omega)).trans hn) ?_
    refine w_icmp_geN 60 d_m_learn_7 (by decide) (by omega) (by omega) (fun h7 => ?_) (fun h7 => ?_)
    · refine w_aload_n d_m_learn_60 rfl ?_
      refine w_aload_n d_m_learn_61 rfl ?_
      refine w_getIV (v := (nI nc)) d_m_learn_62 FL_m_137 (by decide) (rfl) (rfl) ((h1.2 8 6 (by omega) (by omega)).trans hc) ?_
      refine w_iconst (v := nI 2) d_m_learn_65 (by decide +kernel) ?_
      refine w_iload_n d_m_learn_66 rfl ?_
      refine w_callV3 (N := M_m_cluster) d_m_learn_67 LK_m_140 MF_m_cluster MV_m_cluster NP_m_cluster (by decide) (by decide) (rfl) rfl rfl (Nat.le_of_ble_eq_true rfl) ?_
      have hin : i = ns := by omega
      refine Ev.mono (c_m_cluster S1 ns nc 2 r ((h1.2 8 2 (by omega) (by omega)).trans hn) hn0 hn24 hc1 hc4 (by decide) (by decide) hr) (fun r9 S2 hq => ?_)
      obtain ⟨rfl, g1, g2⟩ := hq
      show Wp _ _ _ [] _ _
      refine w_iconst (v := nI 0) d_m_learn_70 (by decide +kernel) ?_
      refine w_istore_n d_m_learn_71 (Nat.le_of_ble_eq_true rfl) ?_
      refine hk1 0 (by omega) _ ⟨g1.1.trans h1.1, fun a i ha hb => (g1.2 a i (by omega)).trans (h1.2 a i ha hb)⟩ ?_ lt_0
      intro c hc k hk
      rw [g2 c hc k hk]
      exact clu_congr hn0 hc1 (fun q hq k hk => h2 q (by omega) k hk) r c hc k hk
    · refine w_aload_n d_m_learn_10 rfl ?_
      refine w_getR d_m_learn_11 FL_m_50 (by decide) (rfl) (rfl) ?_
      refine w_iconst (v := nI 4) d_m_learn_14 (by decide +kernel) ?_
      refine w_iload_n d_m_learn_15 rfl ?_
      refine w_imulN d_m_learn_16 ?_
      refine w_aload_n d_m_learn_17 rfl ?_
      refine w_getR d_m_learn_18 FL_m_53 (by decide) (rfl) (rfl) ?_
      refine w_iconst (v := nI 4) d_m_learn_21 (by decide +kernel) ?_
      refine w_iload_n d_m_learn_22 rfl ?_
      refine w_imulN d_m_learn_23 ?_
      refine w_iconst (v := nI 2) d_m_learn_24 (by decide +kernel) ?_
      show Wp _ 25 _ _ _ _
      refine w_iload_n d_m_learn_25 rfl ?_
      refine w_imulN d_m_learn_26 ?_
      refine w_iaddN d_m_learn_27 ?_
      refine w_ialdNV (v := ((rsM S i (2 * p + 0)))) d_m_learn_28 (by decide) (rfl) (show (4 * i) + (2 * p) < 96 from (by omega)) (h1.2 40 _ (by omega) (by omega)) ?_
      refine w_iastNP d_m_learn_29 (by decide) (rfl) (show 4 * i < 96 from (by omega)) ?_
      refine w_aload_n d_m_learn_30 rfl ?_
      refine w_getR d_m_learn_31 FL_m_50 (by decide) (rfl) (rfl) ?_
      refine w_iconst (v := nI 4) d_m_learn_34 (by decide +kernel) ?_
      refine w_iload_n d_m_learn_35 rfl ?_
      refine w_imulN d_m_learn_36 ?_
      refine w_iconst (v := nI 1) d_m_learn_37 (by decide +kernel) ?_
      refine w_iaddN d_m_learn_38 ?_
      show Wp _ 39 _ _ _ _
      refine w_aload_n d_m_learn_39 rfl ?_
      refine w_getR d_m_learn_40 FL_m_53 (by decide) (rfl) (rfl) ?_
      refine w_iconst (v := nI 4) d_m_learn_43 (by decide +kernel) ?_
      refine w_iload_n d_m_learn_44 rfl ?_
      refine w_imulN d_m_learn_45 ?_
      refine w_iconst (v := nI 2) d_m_learn_46 (by decide +kernel) ?_
      refine w_iload_n d_m_learn_47 rfl ?_
      refine w_imulN d_m_learn_48 ?_
      refine w_iaddN d_m_learn_49 ?_
      refine w_iconst (v := nI 1) d_m_learn_50 (by decide +kernel) ?_
      refine w_iaddN d_m_learn_51 ?_
      refine w_ialdNV (v := ((rsM S i (2 * p + 1)))) d_m_learn_52 (by decide) (rfl) (show ((4 * i) + (2 * p)) + 1 < 96 from (by omega)) (by rw [put_ne (by omega), h1.2 40 _ (by omega) (by omega)]; rfl) ?_
      show Wp _ 53 _ _ _ _
      refine w_iastNP d_m_learn_53 (by decide) (rfl) (show (4 * i) + 1 < 96 from (by omega)) ?_
      refine w_iincN d_m_learn_54 rfl ?_
      refine w_goto 2 d_m_learn_57 (by decide) ?_
      refine hn9 h7 _ ⟨h1.1, fun a i ha hb => by rw [put_ne (by omega), put_ne (by omega)]; exact h1.2 a i ha hb⟩ ?_
      intro q hq k hk
      by_cases hqi : q = i
      · subst hqi
        by_cases hk0 : k = 0
        · rw [hk0, put_ne (by omega)]
          exact put_at
        · obtain rfl : k = 1 := by omega
          exact put_at
      · rw [put_ne (by omega), put_ne (by omega)]
        exact h2 q (by omega) k hk
  refine w_iconst (v := nI 0) d_m_learn_0 (by decide +kernel) ?_
  refine w_istore_n d_m_learn_1 (Nat.le_of_ble_eq_true rfl) ?_
  exact hk0 0 (by omega) _ ⟨rfl, fun _ _ _ _ => rfl⟩ lt_0
theorem sprd_0 (lo hi : Int32) (nc : Nat) : lo + (hi - lo) * nI 0 / nI (nc - 1) = lo := by
  have e : (hi - lo) * nI 0 = 0 := by rw [show (nI 0 : Int32) = 0 from rfl, Int32.mul_zero]
  rw [e, Int32.zero_div, Int32.add_zero]
set_option maxRecDepth 100000 in
set_option maxHeartbeats 4000000 in
theorem c_m_spread (S : St) (p : Nat) (hp : p < 4) (ns nc : Nat) (hn : S.1 8 2 = nI ns) (hn0 : 0 < ns) (hn24 : ns ≤ 24) (hc : S.1 8 6 = nI nc) (hc1 : 0 < nc) (hc4 : nc ≤ 4) : Ev M_m_spread [.ref 8, .int (nI p)] S (fun v9 S' => v9 = none ∧ FrL S S' p ∧ ∀ j, j < nc → S'.1 29 (8 * p + 2 * j) = sprd (minI (fun i => rsM S i p) ns) (maxI (fun i => rsM S i p) ns) nc j) := by
  refine Ev.of MF_m_spread (all_cat rfl) (Nat.le_of_ble_eq_true rfl) ?_
  show Wp M_m_spread 0 [.ref 8, .int (nI p), .null, .null, .null, .null] [] _ _
  have hk1 : ∀ j, j ≤ nc → ∀ (S1 : St) (x5 : Value), FrL S S1 p → (∀ q, q < j → S1.1 29 (8 * p + 2 * q) = (sprd (minI (fun i => rsM S i p) ns) (maxI (fun i => rsM S i p) ns) nc q)) → Wp M_m_spread 74 [.ref 8, .int (nI p), .int ((minI (fun i => rsM S i p) ns)), .int ((maxI (fun i => rsM S i p) ns)), .int (nI j), x5] [] S1 (fun v9 S' => v9 = none ∧ FrL S S' p ∧ ∀ j, j < nc → S'.1 29 (8 * p + 2 * j) = sprd (minI (fun i => rsM S i p) ns) (maxI (fun i => rsM S i p) ns) nc j) := by
    refine loopUp (nc) (fun j hk9 hn9 => ?_)
    intro S1 x5 h1 h3
    refine w_iload d_m_spread_74 rfl ?_
    refine w_aload_n d_m_spread_76 rfl ?_
    refine w_getIV (v := (nI nc)) d_m_spread_77 FL_m_137 (by decide) (rfl) (rfl) ((h1.2 8 6 (by omega) (by omega)).trans hc) ?_
    refine w_icmp_geN 130 d_m_spread_80 (by decide) (by omega) (by omega) (fun h80 => ?_) (fun h80 => ?_)
    · refine w_ret (st := []) rfl d_m_spread_130 ?_
      obtain rfl : j = nc := by omega
      exact ⟨rfl, h1, h3⟩
    · refine w_aload_n d_m_spread_83 rfl ?_
      refine w_getR d_m_spread_84 FL_m_19 (by decide) (rfl) (rfl) ?_
      refine w_bipush (v := nI 8) d_m_spread_87 (by decide +kernel) ?_
      refine w_iload_n d_m_spread_89 rfl ?_
      refine w_imulN d_m_spread_90 ?_
      refine w_iconst (v := nI 2) d_m_spread_91 (by decide +kernel) ?_
      refine w_iload d_m_spread_92 rfl ?_
      refine w_imulN d_m_spread_94 ?_
      refine w_iaddN d_m_spread_95 ?_
      refine w_aload_n d_m_spread_96 rfl ?_
      refine w_getIV (v := (nI nc)) d_m_spread_97 FL_m_137 (by decide) (rfl) (rfl) ((h1.2 8 6 (by omega) (by omega)).trans hc) ?_
      show Wp _ 100 _ _ _ _
      refine w_iconst (v := nI 1) d_m_spread_100 (by decide +kernel) ?_
      refine w_icmp_neN 108 d_m_spread_101 (by decide) (by omega) (by omega) (fun h101 => ?_) (fun h101 => ?_)
      · refine w_iload_n d_m_spread_108 rfl ?_
        refine w_iload_n d_m_spread_109 rfl ?_
        refine w_iload_n d_m_spread_110 rfl ?_
        refine w_isub d_m_spread_111 ?_
        refine w_iload d_m_spread_112 rfl ?_
        refine w_imul d_m_spread_114 ?_
        refine w_aload_n d_m_spread_115 rfl ?_
        refine w_getIV (v := (nI nc)) d_m_spread_116 FL_m_137 (by decide) (rfl) (rfl) ((h1.2 8 6 (by omega) (by omega)).trans hc) ?_
        refine w_iconst (v := nI 1) d_m_spread_119 (by decide +kernel) ?_
        refine w_isubN d_m_spread_120 (by omega) ?_
        refine w_idiv d_m_spread_121 (nI_ne0 (by omega) (by omega)) ?_
        show Wp _ 122 _ _ _ _
        refine w_iadd d_m_spread_122 ?_
        refine w_iastNP d_m_spread_123 (by decide) (rfl) (show (8 * p) + (2 * j) < 32 from (by omega)) ?_
        refine w_iincN d_m_spread_124 rfl ?_
        refine w_goto 74 d_m_spread_127 (by decide) ?_
        refine hn9 h80 _ _ ⟨h1.1, fun a i ha hb => by rw [put_ne (by omega)]; exact h1.2 a i ha hb⟩ ?_
        intro q hq
        by_cases hqj : q = j
        · subst hqj
          rw [put_at]
          unfold sprd
          exact (if hj0 : q = 0 then (by rw [if_pos hj0, hj0]; exact sprd_0 _ _ _) else (by rw [if_neg hj0]))
        · rw [put_ne (by omega)]
          exact h3 q (by omega)
      · refine w_iload_n d_m_spread_104 rfl ?_
        refine w_goto 123 d_m_spread_105 (by decide) ?_
        refine w_iastNP d_m_spread_123 (by decide) (rfl) (show (8 * p) + (2 * j) < 32 from (by omega)) ?_
        refine w_iincN d_m_spread_124 rfl ?_
        refine w_goto 74 d_m_spread_127 (by decide) ?_
        refine hn9 h80 _ _ ⟨h1.1, fun a i ha hb => by rw [put_ne (by omega)]; exact h1.2 a i ha hb⟩ ?_
        intro q hq
        by_cases hqj : q = j
        · subst hqj
          rw [put_at]
          unfold sprd
          rw [if_pos (show q = 0 by omega)]
        · rw [put_ne (by omega)]
          exact h3 q (by omega)
  have hk0 : ∀ i, i ≤ ns → ∀ (lo : Int32) (hi : Int32) (x5 : Value), 1 ≤ i → lo = minI (fun i => rsM S i p) i → hi = maxI (fun i => rsM S i p) i → Wp M_m_spread 17 [.ref 8, .int (nI p), .int lo, .int hi, .int (nI i), x5] [] S (fun v9 S' => v9 = none ∧ FrL S S' p ∧ ∀ j, j < nc → S'.1 29 (8 * p + 2 * j) = sprd (minI (fun i => rsM S i p) ns) (maxI (fun i => rsM S i p) ns) nc j) := by
    refine loopUp (ns) (fun i hk9 hn9 => ?_)
    intro lo hi x5 hi1 hlo hhi
    refine w_iload d_m_spread_17 rfl ?_
    refine w_aload_n d_m_spread_19 rfl ?_
    refine w_getIV (v := (nI ns)) d_m_spread_20 FL_m_103 (by decide) (rfl) (rfl) (hn) ?_
    refine w_icmp_geN 71 d_m_spread_23 (by decide) (by omega) (by omega) (fun h23 => ?_) (fun h23 => ?_)
    · refine w_iconst (v := nI 0) d_m_spread_71 (by decide +kernel) ?_
      refine w_istore d_m_spread_72 (Nat.le_of_ble_eq_true rfl) ?_
      obtain rfl : i = ns := by omega
      subst hlo
      subst hhi
      exact hk1 0 (by omega) _ _ ⟨rfl, fun _ _ _ _ => rfl⟩ lt_0
    · refine w_aload_n d_m_spread_26 rfl ?_
      refine w_getR d_m_spread_27 FL_m_53 (by decide) (rfl) (rfl) ?_
      refine w_iconst (v := nI 4) d_m_spread_30 (by decide +kernel) ?_
      refine w_iload d_m_spread_31 rfl ?_
      refine w_imulN d_m_spread_33 ?_
      refine w_iload_n d_m_spread_34 rfl ?_
      refine w_iaddN d_m_spread_35 ?_
      refine w_ialdNV (v := ((rsM S i p))) d_m_spread_36 (by decide) (rfl) (show (4 * i) + p < 96 from (by omega)) (rfl) ?_
      refine w_istore d_m_spread_37 (Nat.le_of_ble_eq_true rfl) ?_
      refine w_iload d_m_spread_39 rfl ?_
      refine w_iload_n d_m_spread_41 rfl ?_
      show Wp _ 42 _ _ _ _
      refine w_icmp_ge 50 d_m_spread_42 (by decide) (fun h42 => ?_) (fun h42 => ?_)
      · refine w_iload_n d_m_spread_50 rfl ?_
        refine w_istore_n d_m_spread_51 (Nat.le_of_ble_eq_true rfl) ?_
        refine w_iload d_m_spread_52 rfl ?_
        refine w_iload_n d_m_spread_54 rfl ?_
        refine w_icmp_le 63 d_m_spread_55 (by decide) (fun h55 => ?_) (fun h55 => ?_)
        · refine w_iload_n d_m_spread_63 rfl ?_
          refine w_istore_n d_m_spread_64 (Nat.le_of_ble_eq_true rfl) ?_
          refine w_iincN d_m_spread_65 rfl ?_
          refine w_goto 17 d_m_spread_68 (by decide) ?_
          exact hn9 h23 _ _ _ (by omega) (by show _ = (if rsM S i p < minI (fun i => rsM S i p) i then rsM S i p else minI (fun i => rsM S i p) i); rw [← hlo]; exact (if_neg (Int32.not_lt.mpr h42)).symm) (by show _ = (if maxI (fun i => rsM S i p) i < rsM S i p then rsM S i p else maxI (fun i => rsM S i p) i); rw [← hhi]; exact (if_neg (Int32.not_lt.mpr h55)).symm)
        · refine w_iload d_m_spread_58 rfl ?_
          refine w_goto 64 d_m_spread_60 (by decide) ?_
          refine w_istore_n d_m_spread_64 (Nat.le_of_ble_eq_true rfl) ?_
          refine w_iincN d_m_spread_65 rfl ?_
          refine w_goto 17 d_m_spread_68 (by decide) ?_
          exact hn9 h23 _ _ _ (by omega) (by show _ = (if rsM S i p < minI (fun i => rsM S i p) i then rsM S i p else minI (fun i => rsM S i p) i); rw [← hlo]; exact (if_neg (Int32.not_lt.mpr h42)).symm) (by show _ = (if maxI (fun i => rsM S i p) i < rsM S i p then rsM S i p else maxI (fun i => rsM S i p) i); rw [← hhi]; exact (if_pos (Int32.not_le.mp h55)).symm)
      · refine w_iload d_m_spread_45 rfl ?_
        refine w_goto 51 d_m_spread_47 (by decide) ?_
        refine w_istore_n d_m_spread_51 (Nat.le_of_ble_eq_true rfl) ?_
        refine w_iload d_m_spread_52 rfl ?_
        refine w_iload_n d_m_spread_54 rfl ?_
        refine w_icmp_le 63 d_m_spread_55 (by decide) (fun h55 => ?_) (fun h55 => ?_)
        · refine w_iload_n d_m_spread_63 rfl ?_
          refine w_istore_n d_m_spread_64 (Nat.le_of_ble_eq_true rfl) ?_
          refine w_iincN d_m_spread_65 rfl ?_
          refine w_goto 17 d_m_spread_68 (by decide) ?_
          exact hn9 h23 _ _ _ (by omega) (by show _ = (if rsM S i p < minI (fun i => rsM S i p) i then rsM S i p else minI (fun i => rsM S i p) i); rw [← hlo]; exact (if_pos (Int32.not_le.mp h42)).symm) (by show _ = (if maxI (fun i => rsM S i p) i < rsM S i p then rsM S i p else maxI (fun i => rsM S i p) i); rw [← hhi]; exact (if_neg (Int32.not_lt.mpr h55)).symm)
        · refine w_iload d_m_spread_58 rfl ?_
          refine w_goto 64 d_m_spread_60 (by decide) ?_
          refine w_istore_n d_m_spread_64 (Nat.le_of_ble_eq_true rfl) ?_
          refine w_iincN d_m_spread_65 rfl ?_
          refine w_goto 17 d_m_spread_68 (by decide) ?_
          exact hn9 h23 _ _ _ (by omega) (by show _ = (if rsM S i p < minI (fun i => rsM S i p) i then rsM S i p else minI (fun i => rsM S i p) i); rw [← hlo]; exact (if_pos (Int32.not_le.mp h42)).symm) (by show _ = (if maxI (fun i => rsM S i p) i < rsM S i p then rsM S i p else maxI (fun i => rsM S i p) i); rw [← hhi]; exact (if_pos (Int32.not_le.mp h55)).symm)
  refine w_aload_n d_m_spread_0 rfl ?_
  refine w_getR d_m_spread_1 FL_m_53 (by decide) (rfl) (rfl) ?_
  refine w_iload_n d_m_spread_4 rfl ?_
  refine w_ialdNV (v := ((rsM S 0 p))) d_m_spread_5 (by decide) (rfl) (show p < 96 from (by omega)) (by unfold rsM; rw [Nat.mul_zero, Nat.zero_add]) ?_
  refine w_istore_n d_m_spread_6 (Nat.le_of_ble_eq_true rfl) ?_
  refine w_aload_n d_m_spread_7 rfl ?_
  refine w_getR d_m_spread_8 FL_m_53 (by decide) (rfl) (rfl) ?_
  refine w_iload_n d_m_spread_11 rfl ?_
  refine w_ialdNV (v := ((rsM S 0 p))) d_m_spread_12 (by decide) (rfl) (show p < 96 from (by omega)) (by unfold rsM; rw [Nat.mul_zero, Nat.zero_add]) ?_
  refine w_istore_n d_m_spread_13 (Nat.le_of_ble_eq_true rfl) ?_
  refine w_iconst (v := nI 1) d_m_spread_14 (by decide +kernel) ?_
  show Wp _ 15 _ _ _ _
  refine w_istore d_m_spread_15 (Nat.le_of_ble_eq_true rfl) ?_
  exact hk0 1 (by omega) _ _ _ (Nat.le_refl 1) (minI_1 (fun i => rsM S i p)).symm (maxI_1 (fun i => rsM S i p)).symm
def erpM (S : St) (kind : Int32) (nc : Nat) (y : Nat → Int32) (acc : Int32) : Nat → Int32
  | 0 => acc
  | p + 1 => erpM S kind nc y acc p + wdM S kind y p (cdM S kind nc y p)
def ernM (S : St) (kind : Int32) (nc : Nat) (Y : Nat → Nat → Int32) : Nat → Int32
  | 0 => 0
  | i + 1 => erpM S kind nc (Y i) (ernM S kind nc Y i) (parts kind)
set_option maxRecDepth 100000 in
set_option maxHeartbeats 4000000 in
theorem c_m_loss (S : St) (kind : Int32) (ns nc : Nat) (hk : S.1 8 4 = kind) (hn : S.1 8 2 = nI ns) (hn24 : ns ≤ 24) (hc : S.1 8 6 = nI nc) (hc1 : 0 < nc) (hc4 : nc ≤ 4) : Ev M_m_loss [.ref 8] S (fun v9 S' => v9 = some (.int (ernM S kind nc (rsM S) ns)) ∧ S'.2 = S.2 ∧ ∀ a i, a ≠ 37 → S'.1 a i = S.1 a i) := by
  refine Ev.of MF_m_loss (all_cat rfl) (Nat.le_of_ble_eq_true rfl) ?_
  show Wp M_m_loss 0 [.ref 8, .null, .null, .null, .null] [] _ _
  have hpl := parts_le kind
  have hk0 : ∀ i, i ≤ ns → ∀ (S1 : St) (u : Int32) (x3 : Value) (x4 : Value), S1.2 = S.2 → (∀ a i, a ≠ 37 → S1.1 a i = S.1 a i) → u = ernM S kind nc (rsM S) i → Wp M_m_loss 4 [.ref 8, .int u, .int (nI i), x3, x4] [] S1 (fun v9 S' => v9 = some (.int (ernM S kind nc (rsM S) ns)) ∧ S'.2 = S.2 ∧ ∀ a i, a ≠ 37 → S'.1 a i = S.1 a i) := by
    refine loopUp (ns) (fun i hk9 hn9 => ?_)
    intro S1 u x3 x4 h1 h2 hu
    refine w_iload_n d_m_loss_4 rfl ?_
    refine w_aload_n d_m_loss_5 rfl ?_
    refine w_getIV (v := (nI ns)) d_m_loss_6 FL_m_103 (by decide) (rfl) (rfl) ((h2 8 2 (by decide)).trans hn) ?_
    refine w_icmp_geN 80 d_m_loss_9 (by decide) (by omega) (by omega) (fun h9 => ?_) (fun h9 => ?_)
    · refine w_iload_n d_m_loss_80 rfl ?_
      refine w_iret (st := []) rfl d_m_loss_81 ?_
      obtain rfl : i = ns := by omega
      exact ⟨by rw [hu], h1, h2⟩
    · refine w_iconst (v := nI 0) d_m_loss_12 (by decide +kernel) ?_
      refine w_istore_n d_m_loss_13 (Nat.le_of_ble_eq_true rfl) ?_
      have hin : ∀ k, k ≤ 4 → ∀ (S2 : St) (x4 : Value), S2 = setRow S1 37 (rsM S i) k → Wp M_m_loss 14 [.ref 8, .int u, .int (nI i), .int (nI k), x4] [] S2 (fun v9 S' => v9 = some (.int (ernM S kind nc (rsM S) ns)) ∧ S'.2 = S.2 ∧ ∀ a i, a ≠ 37 → S'.1 a i = S.1 a i) := by
        refine loopUp (4) (fun k hk8 hn8 => ?_)
        intro S2 x4 hS2
        have q2 : ∀ a z, a ≠ 37 → S2.1 a z = S.1 a z := fun a z ha => by rw [hS2, setRow_ne ha]; exact h2 a z ha
        have qT : S2.2 = S.2 := by rw [hS2]; exact h1
        refine w_iload_n d_m_loss_14 rfl ?_
        refine w_iconst (v := nI 4) d_m_loss_15 (by decide +kernel) ?_
        refine w_icmp_geN 41 d_m_loss_16 (by decide) (by omega) (by omega) (fun h16 => ?_) (fun h16 => ?_)
        · refine w_iconst (v := nI 0) d_m_loss_41 (by decide +kernel) ?_
          refine w_istore_n d_m_loss_42 (Nat.le_of_ble_eq_true rfl) ?_
          have hk4 : k = 4 := by omega
          have q37 : ∀ z, z < 4 → S2.1 37 z = rsM S i z := fun z hz => by rw [hS2, hk4, setRow_at hz]
          have hpp : ∀ p, p ≤ parts kind → ∀ (s : Int32) (x4 : Value), s = erpM S kind nc (rsM S i) u p → Wp M_m_loss 43 [.ref 8, .int s, .int (nI i), .int (nI p), x4] [] S2 (fun v9 S' => v9 = some (.int (ernM S kind nc (rsM S) ns)) ∧ S'.2 = S.2 ∧ ∀ a i, a ≠ 37 → S'.1 a i = S.1 a i) := by
            refine loopUp (parts kind) (fun p hk7 hn7 => ?_)
            intro s x4 hs
            refine w_iload_n d_m_loss_43 rfl ?_
            refine w_aload_n d_m_loss_44 rfl ?_
            refine w_callV0 (N := M_m_parts) d_m_loss_45 LK_m_144 MF_m_parts MV_m_parts NP_m_parts (by decide) (by decide) (rfl) rfl rfl (Nat.le_of_ble_eq_true rfl) ?_
            refine Ev.det (c_m_parts S2 kind ((q2 8 4 (by decide)).trans hk)) ?_
            refine w_icmp_geN 74 d_m_loss_48 (by decide) (by omega) (by omega) (fun h48 => ?_) (fun h48 => ?_)
            · refine w_iincN d_m_loss_74 rfl ?_
              refine w_goto 4 d_m_loss_77 (by decide) ?_
              have hpk : p = parts kind := by omega
              exact hn9 h9 _ _ _ _ qT q2 (by rw [hs, hpk, hu]; rfl)
            · refine w_aload_n d_m_loss_51 rfl ?_
              refine w_iload_n d_m_loss_52 rfl ?_
              refine w_callV1 (N := M_m_nearestWord) d_m_loss_53 LK_m_158 MF_m_nearestWord MV_m_nearestWord NP_m_nearestWord (by decide) (by decide) (rfl) rfl rfl (Nat.le_of_ble_eq_true rfl) ?_
              refine Ev.det (c_m_nearestWord S2 kind p ((q2 8 4 (by decide)).trans hk) h48 nc ((q2 8 6 (by decide)).trans hc) hc1 hc4) ?_
              rw [cdM_congr (S' := S) (y' := rsM S i) h48 (fun z => q2 29 z (by decide)) q37]
              have hcl := cdM_lt (S := S) (kind := kind) (y := rsM S i) (p := p) hc1
              refine w_istore d_m_loss_56 (Nat.le_of_ble_eq_true rfl) ?_
              refine w_iload_n d_m_loss_58 rfl ?_
              refine w_aload_n d_m_loss_59 rfl ?_
              refine w_iload_n d_m_loss_60 rfl ?_
              refine w_iload d_m_loss_61 rfl ?_
              refine w_callV2 (N := M_m_wordGap) d_m_loss_63 LK_m_161 MF_m_wordGap MV_m_wordGap NP_m_wordGap (by decide) (by decide) (rfl) rfl rfl (Nat.le_of_ble_eq_true rfl) ?_
              refine Ev.det (c_m_wordGap S2 kind p ((q2 8 4 (by decide)).trans hk) h48 _ (by omega)) ?_
              rw [wdM_congr (S' := S) (y' := rsM S i) h48 (fun z => q2 29 z (by decide)) q37]
              refine w_iadd d_m_loss_66 ?_
              refine w_istore_n d_m_loss_67 (Nat.le_of_ble_eq_true rfl) ?_
              show Wp _ 68 _ _ _ _
              refine w_iincN d_m_loss_68 rfl ?_
              refine w_goto 43 d_m_loss_71 (by decide) ?_
              exact hn7 h48 _ _ (by rw [hs]; rfl)
          exact hpp 0 (by omega) _ _ rfl
        · refine w_aload_n d_m_loss_19 rfl ?_
          refine w_getR d_m_loss_20 FL_m_44 (by decide) (rfl) (rfl) ?_
          refine w_iload_n d_m_loss_23 rfl ?_
          refine w_aload_n d_m_loss_24 rfl ?_
          refine w_getR d_m_loss_25 FL_m_53 (by decide) (rfl) (rfl) ?_
          refine w_iconst (v := nI 4) d_m_loss_28 (by decide +kernel) ?_
          refine w_iload_n d_m_loss_29 rfl ?_
          refine w_imulN d_m_loss_30 ?_
          refine w_iload_n d_m_loss_31 rfl ?_
          refine w_iaddN d_m_loss_32 ?_
          refine w_ialdNV (v := ((rsM S i k))) d_m_loss_33 (by decide) (rfl) (show (4 * i) + k < 96 from (by omega)) (q2 40 _ (by decide)) ?_
          show Wp _ 34 _ _ _ _
          refine w_iastNP d_m_loss_34 (by decide) (rfl) (show k < 4 from (by omega)) ?_
          refine w_iincN d_m_loss_35 rfl ?_
          refine w_goto 14 d_m_loss_38 (by decide) ?_
          refine hn8 h16 _ _ ?_
          rw [hS2]
          exact setRow_s rfl
      exact hin 0 (by omega) _ _ (setRow_0 _ _ _).symm
  refine w_iconst (v := nI 0) d_m_loss_0 (by decide +kernel) ?_
  refine w_istore_n d_m_loss_1 (Nat.le_of_ble_eq_true rfl) ?_
  refine w_iconst (v := nI 0) d_m_loss_2 (by decide +kernel) ?_
  refine w_istore_n d_m_loss_3 (Nat.le_of_ble_eq_true rfl) ?_
  exact hk0 0 (by omega) _ _ _ _ rfl (fun _ _ _ => rfl) rfl
