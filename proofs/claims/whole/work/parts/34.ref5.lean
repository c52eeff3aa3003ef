set_option maxRecDepth 100000 in
set_option maxHeartbeats 4000000 in
theorem c_m_cluster (S : St) (ns m w r : Nat) (hn : S.1 8 2 = nI ns) (hn0 : 0 < ns) (hn24 : ns ≤ 24) (hm0 : 0 < m) (hm4 : m ≤ 4) (hw0 : 0 < w) (hw : w ≤ 4) (hr : r ≤ 8) : Ev M_m_cluster [.ref 8, .int (nI m), .int (nI w), .int (nI r)] S (fun v9 S' => v9 = none ∧ FrK S S' ∧ ∀ c, c < m → ∀ k, k < w → S'.1 41 (4 * c + k) = clu (itM S) ns w m r c k) := by
  refine Ev.of MF_m_cluster (all_cat rfl) (Nat.le_of_ble_eq_true rfl) ?_
  show Wp M_m_cluster 0 [.ref 8, .int (nI m), .int (nI w), .int (nI r), .null, .null, .null, .null, .null, .null] [] _ _
  have hk1 : ∀ j, j ≤ r → ∀ (S1 : St) (x5 : Value) (x6 : Value) (x7 : Value) (x8 : Value) (x9 : Value), FrK S S1 → (∀ c, c < m → ∀ k, k < w → S1.1 41 (4 * c + k) = clu (itM S) ns w m j c k) → Wp M_m_cluster 123 [.ref 8, .int (nI m), .int (nI w), .int (nI r), .int (nI j), x5, x6, x7, x8, x9] [] S1 (fun v9 S' => v9 = none ∧ FrK S S' ∧ ∀ c, c < m → ∀ k, k < w → S'.1 41 (4 * c + k) = clu (itM S) ns w m r c k) := by
    refine loopUp (r) (fun j hk9 hn9 => ?_)
    intro S1 x5 x6 x7 x8 x9 h1 h2
    refine w_iload d_m_cluster_123 rfl ?_
    refine w_iload_n d_m_cluster_125 rfl ?_
    refine w_icmp_geN 196 d_m_cluster_126 (by decide) (by omega) (by omega) (fun h126 => ?_) (fun h126 => ?_)
    · refine w_ret (st := []) rfl d_m_cluster_196 ?_
      obtain rfl : j = r := by omega
      exact ⟨rfl, h1, h2⟩
    · refine w_iconst (v := nI 0) d_m_cluster_129 (by decide +kernel) ?_
      refine w_istore d_m_cluster_130 (Nat.le_of_ble_eq_true rfl) ?_
      have hmb : ∀ i, i ≤ ns → ∀ (S2 : St), FrK S1 S2 → (∀ q, q < i → S2.1 42 q = nI ((nrC (mdM S1) (itM S1) w m) q)) → (∀ z, S2.1 41 z = S1.1 41 z) → Wp M_m_cluster 132 [.ref 8, .int (nI m), .int (nI w), .int (nI r), .int (nI j), .int (nI i), x6, x7, x8, x9] [] S2 (fun v9 S' => v9 = none ∧ FrK S S' ∧ ∀ c, c < m → ∀ k, k < w → S'.1 41 (4 * c + k) = clu (itM S) ns w m r c k) := by
        refine loopUp (ns) (fun i hk8 hn8 => ?_)
        intro S2 g1 g2 g3
        refine w_iload d_m_cluster_132 rfl ?_
        refine w_aload_n d_m_cluster_134 rfl ?_
        refine w_getIV (v := (nI ns)) d_m_cluster_135 FL_m_103 (by decide) (rfl) (rfl) ((g1.2 8 2 (by decide)).trans ((h1.2 8 2 (by decide)).trans hn)) ?_
        refine w_icmp_geN 162 d_m_cluster_138 (by decide) (by omega) (by omega) (fun h138 => ?_) (fun h138 => ?_)
        · refine w_iconst (v := nI 0) d_m_cluster_162 (by decide +kernel) ?_
          refine w_istore d_m_cluster_163 (Nat.le_of_ble_eq_true rfl) ?_
          have hin : i = ns := by omega
          have hmn : ∀ c, c ≤ m → ∀ (S3 : St), FrK S1 S3 → (∀ i, i < ns → S3.1 42 i = nI ((nrC (mdM S1) (itM S1) w m) i)) → (∀ q, q < 4 → ∀ k, k < w → S3.1 41 (4 * q + k) = if q < c then mnC (nrC (mdM S1) (itM S1) w m) (itM S1) (mdM S1) ns q k else S1.1 41 (4 * q + k)) → (∀ q, q < c → S3.1 43 q = nI (memC (nrC (mdM S1) (itM S1) w m) q ns)) → Wp M_m_cluster 165 [.ref 8, .int (nI m), .int (nI w), .int (nI r), .int (nI j), .int (nI c), x6, x7, x8, x9] [] S3 (fun v9 S' => v9 = none ∧ FrK S S' ∧ ∀ c, c < m → ∀ k, k < w → S'.1 41 (4 * c + k) = clu (itM S) ns w m r c k) := by
            refine loopUp (m) (fun c hk7 hn7 => ?_)
            intro S3 k1 k2 k3 k4
            have hF4 : ∀ i, (nrC (mdM S1) (itM S1) w m) i < 4 := fun i => by have := nrC_lt (C := mdM S1) (x := itM S1) (w := w) (i := i) hm0; omega
            refine w_iload d_m_cluster_165 rfl ?_
            refine w_iload_n d_m_cluster_167 rfl ?_
            refine w_icmp_geN 184 d_m_cluster_168 (by decide) (by omega) (by omega) (fun h168 => ?_) (fun h168 => ?_)
            · refine w_aload_n d_m_cluster_184 rfl ?_
              refine w_iload_n d_m_cluster_185 rfl ?_
              refine w_iload_n d_m_cluster_186 rfl ?_
              refine w_callV2 (N := M_m_fill) d_m_cluster_187 LK_m_117 MF_m_fill MV_m_fill NP_m_fill (by decide) (by decide) (rfl) rfl rfl (Nat.le_of_ble_eq_true rfl) ?_
              have hcm : c = m := by omega
              have hB3 : MB S3 (nrC (mdM S1) (itM S1) w m) ns := ⟨(k1.2 8 2 (by decide)).trans ((h1.2 8 2 (by decide)).trans hn), hn24, fun i hi => ⟨k2 i hi, by have := nrC_lt (C := mdM S1) (x := itM S1) (w := w) (i := i) hm0; omega⟩⟩
              refine Ev.mono (c_m_fill S3 (nrC (mdM S1) (itM S1) w m) ns hB3 m w hm0 hm4 hw0 hw (fun q hq => k4 q (by omega))) (fun r9 S4 hq => ?_)
              obtain ⟨rfl, u1, u2⟩ := hq
              have k3 : ∀ q, q < m → ∀ k, k < w → S3.1 41 (4 * q + k) = mnC (nrC (mdM S1) (itM S1) w m) (itM S1) (mdM S1) ns q k := fun q hq k hk => by rw [k3 q (by omega) k hk, if_pos (by omega)]
              show Wp _ _ _ [] _ _
              refine w_iincN d_m_cluster_190 rfl ?_
              refine w_goto 123 d_m_cluster_193 (by decide) ?_
              have e1 : ∀ c, c < m → ∀ k, k < w → S4.1 41 (4 * c + k) = rnd (itM S1) ns w m (mdM S1) c k := by
                intro c hc k hk
                rw [u2 c hc k hk]
                refine (fil_congr hm0 ?_ (fun _ _ => rfl) m (Nat.le_refl m)).1 c hc k hk
                intro c hc k hk
                show S3.1 41 (4 * c + k) = _
                exact k3 c hc k hk
              refine hn9 h126 _ _ _ _ _ _ ((h1.tr k1).tr u1) ?_
              intro c hc k hk
              rw [e1 c hc k hk]
              exact rnd_congr hm0 (fun i hi k hk => itM_keep h1 i k) (fun c hc k hk => h2 c hc k hk) c hc k hk
            · refine w_aload_n d_m_cluster_171 rfl ?_
              refine w_iload d_m_cluster_172 rfl ?_
              refine w_iload_n d_m_cluster_174 rfl ?_
              refine w_callV2 (N := M_m_mean) d_m_cluster_175 LK_m_113 MF_m_mean MV_m_mean NP_m_mean (by decide) (by decide) (rfl) rfl rfl (Nat.le_of_ble_eq_true rfl) ?_
              refine Ev.mono (c_m_mean S3 (nrC (mdM S1) (itM S1) w m) ns ⟨(k1.2 8 2 (by decide)).trans ((h1.2 8 2 (by decide)).trans hn), hn24, fun i hi => ⟨k2 i hi, hF4 i⟩⟩ c w (by omega) hw) (fun r9 S5 hq => ?_)
              obtain ⟨rfl, v1, v2, v3, v4⟩ := hq
              show Wp _ _ _ [] _ _
              refine w_iincN d_m_cluster_178 rfl ?_
              refine w_goto 165 d_m_cluster_181 (by decide) ?_
              refine hn7 h168 _ ⟨v1.trans k1.1, fun a i ha => (v2 a i (by omega) (by omega)).trans (k1.2 a i ha)⟩ (fun i hi => (v2 42 i (by omega) (by omega)).trans (k2 i hi)) ?_ ?_
              · intro q hq k hk
                by_cases hqc : q = c
                · rw [hqc, if_pos (show c < c + 1 by omega), v4 k hk, k3 c (by omega) k hk, if_neg (show ¬ c < c by omega)]
                  unfold mnC
                  rw [sumC_congr (fun _ _ => rfl) (fun i hi => itM_keep k1 i k)]
                  rfl
                · rw [v2 _ _ (by omega) (by omega), k3 q hq k hk]
                  by_cases hqc2 : q < c
                  · rw [if_pos hqc2, if_pos (by omega)]
                  · rw [if_neg hqc2, if_neg (by omega)]
              · intro q hq
                by_cases hqc : q = c
                · rw [hqc]; exact v3
                · rw [v2 _ _ (by omega) (by omega)]
                  exact k4 q (by omega)
          exact hmn 0 (by omega) _ g1 (fun q hq => g2 q (by omega)) (fun q hq k hk => by rw [if_neg (by omega)]; exact g3 _) lt_0
        · refine w_aload_n d_m_cluster_141 rfl ?_
          refine w_getR d_m_cluster_142 FL_m_59 (by decide) (rfl) (rfl) ?_
          refine w_iload d_m_cluster_145 rfl ?_
          refine w_aload_n d_m_cluster_147 rfl ?_
          refine w_iload d_m_cluster_148 rfl ?_
          refine w_iload_n d_m_cluster_150 rfl ?_
          refine w_iload_n d_m_cluster_151 rfl ?_
          refine w_callV3 (N := M_m_nearest) d_m_cluster_152 LK_m_110 MF_m_nearest MV_m_nearest NP_m_nearest (by decide) (by decide) (rfl) rfl rfl (Nat.le_of_ble_eq_true rfl) ?_
          refine Ev.det (c_m_nearest S2 i m w (by omega) hm0 hm4 hw) ?_
          rw [nrC_congr (C := mdM S2) (x := itM S2) (D := mdM S1) (y := itM S1) (fun c hc k hk => g3 _) (fun k hk => itM_keep g1 i k)]
          refine w_iastNP d_m_cluster_155 (by decide) (rfl) (show i < 24 from (by omega)) ?_
          refine w_iincN d_m_cluster_156 rfl ?_
          refine w_goto 132 d_m_cluster_159 (by decide) ?_
          show Wp _ 132 _ _ _ _
          refine hn8 h138 _ (g1.put (by omega)) ?_ (fun z => by rw [put_ne (by omega)]; exact g3 z)
          intro q hq
          by_cases hqi : q = i
          · rw [hqi, put_at]
          · rw [put_ne (by omega)]
            exact g2 q (by omega)
      exact hmb 0 (by omega) _ (FrK.rf S1) lt_0 (fun _ => rfl)
  have hk0 : ∀ c, c ≤ m → ∀ (S1 : St) (x5 : Value) (x6 : Value) (x7 : Value) (x8 : Value) (x9 : Value), FrK S S1 → (∀ q, q < c → ∀ k, k < w → S1.1 41 (4 * q + k) = (chC (itM S) ns w c) q k) → Wp M_m_cluster 3 [.ref 8, .int (nI m), .int (nI w), .int (nI r), .int (nI c), x5, x6, x7, x8, x9] [] S1 (fun v9 S' => v9 = none ∧ FrK S S' ∧ ∀ c, c < m → ∀ k, k < w → S'.1 41 (4 * c + k) = clu (itM S) ns w m r c k) := by
    refine loopUp (m) (fun c hk9 hn9 => ?_)
    intro S1 x5 x6 x7 x8 x9 h1 h2
    refine w_iload d_m_cluster_3 rfl ?_
    refine w_iload_n d_m_cluster_5 rfl ?_
    refine w_icmp_geN 120 d_m_cluster_6 (by decide) (by omega) (by omega) (fun h6 => ?_) (fun h6 => ?_)
    · refine w_iconst (v := nI 0) d_m_cluster_120 (by decide +kernel) ?_
      refine w_istore d_m_cluster_121 (Nat.le_of_ble_eq_true rfl) ?_
      obtain rfl : c = m := by omega
      exact hk1 0 (by omega) _ _ _ _ _ _ h1 h2
    · refine w_iconst (v := nI 0) d_m_cluster_9 (by decide +kernel) ?_
      refine w_istore d_m_cluster_10 (Nat.le_of_ble_eq_true rfl) ?_
      refine w_iconst (v := -1) d_m_cluster_12 (by decide +kernel) ?_
      refine w_istore d_m_cluster_13 (Nat.le_of_ble_eq_true rfl) ?_
      refine w_iconst (v := nI 0) d_m_cluster_15 (by decide +kernel) ?_
      refine w_istore d_m_cluster_16 (Nat.le_of_ble_eq_true rfl) ?_
      have hfr : ∀ i, i ≤ ns → ∀ (b : Nat) (v : Int32) (x8 : Value) (x9 : Value), (c = 0 → b = 0) → (¬ c = 0 → (b, v) = farI (ndC (chC (itM S) ns w c) (itM S) w c) i) → Wp M_m_cluster 18 [.ref 8, .int (nI m), .int (nI w), .int (nI r), .int (nI c), .int (nI b), .int v, .int (nI i), x8, x9] [] S1 (fun v9 S' => v9 = none ∧ FrK S S' ∧ ∀ c, c < m → ∀ k, k < w → S'.1 41 (4 * c + k) = clu (itM S) ns w m r c k) := by
        refine loopUp (ns) (fun i hk8 hn8 => ?_)
        intro b v x8 x9 hc0 hb
        refine w_iload d_m_cluster_18 rfl ?_
        refine w_aload_n d_m_cluster_20 rfl ?_
        refine w_getIV (v := (nI ns)) d_m_cluster_21 FL_m_103 (by decide) (rfl) (rfl) ((h1.2 8 2 (by decide)).trans hn) ?_
        refine w_icmp_geN 75 d_m_cluster_24 (by decide) (by omega) (by omega) (fun h24 => ?_) (fun h24 => ?_)
        · refine w_iconst (v := nI 0) d_m_cluster_75 (by decide +kernel) ?_
          refine w_istore d_m_cluster_76 (Nat.le_of_ble_eq_true rfl) ?_
          have hin : i = ns := by omega
          have hbw : b = (if c = 0 then 0 else (farI (ndC (chC (itM S) ns w c) (itM S) w c) ns).1) := (if hz : c = 0 then (by rw [if_pos hz]; exact hc0 hz) else (by rw [if_neg hz]; have z9 := hb hz; rw [hin] at z9; rw [← z9]))
          have hbn : b < 24 := by
            have h9 := farI_lt (d := (ndC (chC (itM S) ns w c) (itM S) w c)) hn0
            rw [hbw]
            by_cases hz : c = 0
            · rw [if_pos hz]; omega
            · rw [if_neg hz]; omega
          have hcp : ∀ k, k ≤ 4 → ∀ (S2 : St) (x6 : Value), S2 = setSeg S1 41 (4 * c) (fun k => S.1 39 (4 * b + k)) k → Wp M_m_cluster 78 [.ref 8, .int (nI m), .int (nI w), .int (nI r), .int (nI c), .int (nI b), x6, .int (nI k), x8, x9] [] S2 (fun v9 S' => v9 = none ∧ FrK S S' ∧ ∀ c, c < m → ∀ k, k < w → S'.1 41 (4 * c + k) = clu (itM S) ns w m r c k) := by
            refine loopUp (4) (fun k hk7 hn7 => ?_)
            intro S2 x6 hS2
            refine w_iload d_m_cluster_78 rfl ?_
            refine w_iconst (v := nI 4) d_m_cluster_80 (by decide +kernel) ?_
            refine w_icmp_geN 114 d_m_cluster_81 (by decide) (by omega) (by omega) (fun h81 => ?_) (fun h81 => ?_)
            · refine w_iincN d_m_cluster_114 rfl ?_
              refine w_goto 3 d_m_cluster_117 (by decide) ?_
              have hk4 : k = 4 := by omega
              rw [hk4] at hS2
              refine hn9 h6 _ _ _ _ _ _ (by rw [hS2]; exact h1.seg (by omega)) ?_
              intro q hq z hz
              show _ = (if q = c then itM S (if c = 0 then 0 else (farI (ndC (chC (itM S) ns w c) (itM S) w c) ns).1) z else (chC (itM S) ns w c) q z)
              by_cases hqc : q = c
              · rw [hS2, hqc, if_pos rfl, setSeg_at (by omega), ← hbw]
                rfl
              · rw [hS2, if_neg hqc, setSeg_ne (by omega)]
                exact h2 q (by omega) z hz
            · refine w_aload_n d_m_cluster_84 rfl ?_
              refine w_getR d_m_cluster_85 FL_m_56 (by decide) (rfl) (rfl) ?_
              refine w_iconst (v := nI 4) d_m_cluster_88 (by decide +kernel) ?_
              refine w_iload d_m_cluster_89 rfl ?_
              refine w_imulN d_m_cluster_91 ?_
              refine w_iload d_m_cluster_92 rfl ?_
              refine w_iaddN d_m_cluster_94 ?_
              refine w_aload_n d_m_cluster_95 rfl ?_
              refine w_getR d_m_cluster_96 FL_m_50 (by decide) (rfl) (rfl) ?_
              refine w_iconst (v := nI 4) d_m_cluster_99 (by decide +kernel) ?_
              refine w_iload d_m_cluster_100 rfl ?_
              show Wp _ 102 _ _ _ _
              refine w_imulN d_m_cluster_102 ?_
              refine w_iload d_m_cluster_103 rfl ?_
              refine w_iaddN d_m_cluster_105 ?_
              refine w_ialdNV (v := ((S.1 39 (4 * b + k)))) d_m_cluster_106 (by decide) (rfl) (show (4 * b) + k < 96 from (by omega)) (by rw [hS2, setSeg_ne (by omega)]; exact h1.2 39 _ (by decide)) ?_
              refine w_iastNP d_m_cluster_107 (by decide) (rfl) (show (4 * c) + k < 16 from (by omega)) ?_
              refine w_iincN d_m_cluster_108 rfl ?_
              refine w_goto 78 d_m_cluster_111 (by decide) ?_
              refine hn7 h81 _ _ ?_
              rw [hS2]
              exact setSeg_s rfl
          exact hcp 0 (by omega) _ _ (setSeg_0 _ _ _ _).symm
        · refine w_iload d_m_cluster_27 rfl ?_
          refine w_if_leN 75 d_m_cluster_29 (by decide) (by omega) (fun h29 => ?_) (fun h29 => ?_)
          · refine w_iconst (v := nI 0) d_m_cluster_75 (by decide +kernel) ?_
            refine w_istore d_m_cluster_76 (Nat.le_of_ble_eq_true rfl) ?_
            have hbw : b = (if c = 0 then 0 else (farI (ndC (chC (itM S) ns w c) (itM S) w c) ns).1) := by rw [if_pos (by omega)]; exact hc0 (by omega)
            have hbn : b < 24 := by
              have h9 := farI_lt (d := (ndC (chC (itM S) ns w c) (itM S) w c)) hn0
              rw [hbw]
              by_cases hz : c = 0
              · rw [if_pos hz]; omega
              · rw [if_neg hz]; omega
            have hcp : ∀ k, k ≤ 4 → ∀ (S2 : St) (x6 : Value), S2 = setSeg S1 41 (4 * c) (fun k => S.1 39 (4 * b + k)) k → Wp M_m_cluster 78 [.ref 8, .int (nI m), .int (nI w), .int (nI r), .int (nI c), .int (nI b), x6, .int (nI k), x8, x9] [] S2 (fun v9 S' => v9 = none ∧ FrK S S' ∧ ∀ c, c < m → ∀ k, k < w → S'.1 41 (4 * c + k) = clu (itM S) ns w m r c k) := by
              refine loopUp (4) (fun k hk7 hn7 => ?_)
              intro S2 x6 hS2
              refine w_iload d_m_cluster_78 rfl ?_
              refine w_iconst (v := nI 4) d_m_cluster_80 (by decide +kernel) ?_
              refine w_icmp_geN 114 d_m_cluster_81 (by decide) (by omega) (by omega) (fun h81 => ?_) (fun h81 => ?_)
              · refine w_iincN d_m_cluster_114 rfl ?_
                refine w_goto 3 d_m_cluster_117 (by decide) ?_
                have hk4 : k = 4 := by omega
                rw [hk4] at hS2
                refine hn9 h6 _ _ _ _ _ _ (by rw [hS2]; exact h1.seg (by omega)) ?_
                intro q hq z hz
                show _ = (if q = c then itM S (if c = 0 then 0 else (farI (ndC (chC (itM S) ns w c) (itM S) w c) ns).1) z else (chC (itM S) ns w c) q z)
                by_cases hqc : q = c
                · rw [hS2, hqc, if_pos rfl, setSeg_at (by omega), ← hbw]
                  rfl
                · rw [hS2, if_neg hqc, setSeg_ne (by omega)]
                  exact h2 q (by omega) z hz
              · refine w_aload_n d_m_cluster_84 rfl ?_
                refine w_getR d_m_cluster_85 FL_m_56 (by decide) (rfl) (rfl) ?_
                refine w_iconst (v := nI 4) d_m_cluster_88 (by decide +kernel) ?_
                refine w_iload d_m_cluster_89 rfl ?_
                refine w_imulN d_m_cluster_91 ?_
                refine w_iload d_m_cluster_92 rfl ?_
                refine w_iaddN d_m_cluster_94 ?_
                refine w_aload_n d_m_cluster_95 rfl ?_
                refine w_getR d_m_cluster_96 FL_m_50 (by decide) (rfl) (rfl) ?_
                refine w_iconst (v := nI 4) d_m_cluster_99 (by decide +kernel) ?_
                refine w_iload d_m_cluster_100 rfl ?_
                show Wp _ 102 _ _ _ _
                refine w_imulN d_m_cluster_102 ?_
                refine w_iload d_m_cluster_103 rfl ?_
                refine w_iaddN d_m_cluster_105 ?_
                refine w_ialdNV (v := ((S.1 39 (4 * b + k)))) d_m_cluster_106 (by decide) (rfl) (show (4 * b) + k < 96 from (by omega)) (by rw [hS2, setSeg_ne (by omega)]; exact h1.2 39 _ (by decide)) ?_
                refine w_iastNP d_m_cluster_107 (by decide) (rfl) (show (4 * c) + k < 16 from (by omega)) ?_
                refine w_iincN d_m_cluster_108 rfl ?_
                refine w_goto 78 d_m_cluster_111 (by decide) ?_
                refine hn7 h81 _ _ ?_
                rw [hS2]
                exact setSeg_s rfl
            exact hcp 0 (by omega) _ _ (setSeg_0 _ _ _ _).symm
          · refine w_aload_n d_m_cluster_32 rfl ?_
            refine w_iload d_m_cluster_33 rfl ?_
            refine w_iload d_m_cluster_35 rfl ?_
            refine w_iload_n d_m_cluster_37 rfl ?_
            refine w_callV3 (N := M_m_nearest) d_m_cluster_38 LK_m_110 MF_m_nearest MV_m_nearest NP_m_nearest (by decide) (by decide) (rfl) rfl rfl (Nat.le_of_ble_eq_true rfl) ?_
            have hc1 : ¬ c = 0 := by omega
            refine Ev.det (c_m_nearest S1 i c w (by omega) (by omega) (by omega) hw) ?_
            have hnl := nrC_lt (C := mdM S1) (x := itM S1) (w := w) (i := i) (show 0 < c by omega)
            refine w_istore d_m_cluster_41 (Nat.le_of_ble_eq_true rfl) ?_
            refine w_aload_n d_m_cluster_43 rfl ?_
            refine w_iload d_m_cluster_44 rfl ?_
            refine w_iload d_m_cluster_46 rfl ?_
            refine w_iload_n d_m_cluster_48 rfl ?_
            refine w_callV3 (N := M_m_gap) d_m_cluster_49 LK_m_106 MF_m_gap MV_m_gap NP_m_gap (by decide) (by decide) (rfl) rfl rfl (Nat.le_of_ble_eq_true rfl) ?_
            refine Ev.det (c_m_gap S1 i _ w (by omega) (by omega) hw) ?_
            have hnd : dst (mdM S1 (nrC (mdM S1) (itM S1) w c i)) (itM S1 i) w = (ndC (chC (itM S) ns w c) (itM S) w c) i := ndC_congr (by omega) (fun q hq k hk => h2 q hq k hk) (fun k hk => itM_keep h1 i k)
            rw [hnd]
            show Wp _ 52 _ _ _ _
            refine w_istore d_m_cluster_52 (Nat.le_of_ble_eq_true rfl) ?_
            refine w_iload d_m_cluster_54 rfl ?_
            refine w_iload d_m_cluster_56 rfl ?_
            refine w_icmp_le 69 d_m_cluster_58 (by decide) (fun h58 => ?_) (fun h58 => ?_)
            · refine w_iincN d_m_cluster_69 rfl ?_
              refine w_goto 18 d_m_cluster_72 (by decide) ?_
              exact hn8 h24 _ _ _ _ (fun q => absurd q hc1) (fun q => by show _ = (if (farI (ndC (chC (itM S) ns w c) (itM S) w c) i).2 < (ndC (chC (itM S) ns w c) (itM S) w c) i then (i, (ndC (chC (itM S) ns w c) (itM S) w c) i) else farI (ndC (chC (itM S) ns w c) (itM S) w c) i); rw [← hb q]; exact (if_neg (Int32.not_lt.mpr h58)).symm)
            · refine w_iload d_m_cluster_61 rfl ?_
              refine w_istore d_m_cluster_63 (Nat.le_of_ble_eq_true rfl) ?_
              refine w_iload d_m_cluster_65 rfl ?_
              refine w_istore d_m_cluster_67 (Nat.le_of_ble_eq_true rfl) ?_
              refine w_iincN d_m_cluster_69 rfl ?_
              refine w_goto 18 d_m_cluster_72 (by decide) ?_
              exact hn8 h24 _ _ _ _ (fun q => absurd q hc1) (fun q => by show _ = (if (farI (ndC (chC (itM S) ns w c) (itM S) w c) i).2 < (ndC (chC (itM S) ns w c) (itM S) w c) i then (i, (ndC (chC (itM S) ns w c) (itM S) w c) i) else farI (ndC (chC (itM S) ns w c) (itM S) w c) i); rw [← hb q]; exact (if_pos (Int32.not_le.mp h58)).symm)
      exact hfr 0 (by omega) 0 _ _ _ (fun _ => rfl) (fun _ => rfl)
  refine w_iconst (v := nI 0) d_m_cluster_0 (by decide +kernel) ?_
  refine w_istore d_m_cluster_1 (Nat.le_of_ble_eq_true rfl) ?_
  exact hk0 0 (by omega) _ _ _ _ _ _ (FrK.rf S) lt_0
