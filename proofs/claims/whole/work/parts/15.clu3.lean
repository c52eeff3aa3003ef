/-- what the clustering may write, its fields too -/
def FrD (S S' : St) : Prop := S'.2 = S.2 ∧ ∀ a i, ¬ (a = 3 ∨ a = 14 ∨ a = 15 ∨ (96 ≤ a ∧ a < 104)) → S'.1 a i = S.1 a i
theorem FrC.D {S S0 S1 : St} (h : FrC S0 S1) (h0 : FrD S S0) : FrD S S1 := ⟨h.1.trans h0.1, fun a i q => (h.2 a i (fun z => q (Or.inr z))).trans (h0.2 a i q)⟩
theorem FrD.tr {S S0 S1 : St} (h0 : FrD S S0) (h : FrD S0 S1) : FrD S S1 := ⟨h.1.trans h0.1, fun a i q => (h.2 a i q).trans (h0.2 a i q)⟩
set_option maxRecDepth 100000 in
set_option maxHeartbeats 4000000 in
theorem c_c_cluster (S : St) (n fr w m r : Nat) (hn : S.1 3 5 = nI n) (hn0 : 0 < n) (hn24 : n ≤ 24) (hfw : fr + w ≤ 4) (hw0 : 0 < w) (hm0 : 0 < m) (hm4 : m ≤ 4) (hr : r ≤ 8) : Ev M_c_cluster [.ref 3, .int (nI fr), .int (nI w), .int (nI m), .int (nI r)] S (fun v9 S' => v9 = none ∧ FrD S S' ∧ CF S' n fr w m ∧ ∀ c, c < m → ∀ k, k < w → S'.1 (96 + c) k = clu (itm S fr) n w m r c k) := by
  refine Ev.of MF_c_cluster (all_cat rfl) (Nat.le_of_ble_eq_true rfl) ?_
  show Wp M_c_cluster 0 [.ref 3, .int (nI fr), .int (nI w), .int (nI m), .int (nI r), .null] [] _ _
  have hD0 : FrD S (put (put (put S 3 6 (nI fr)) 3 7 (nI w)) 3 8 (nI m)) := ⟨rfl, fun a i q => by rw [put_ne (by omega), put_ne (by omega), put_ne (by omega)]⟩
  have hF0 : CF (put (put (put S 3 6 (nI fr)) 3 7 (nI w)) 3 8 (nI m)) n fr w m := by
    refine ⟨?_, ?_, ?_, ?_, hn0, hn24, hfw, hw0, hm0, hm4⟩
    · rw [put_ne (by omega), put_ne (by omega), put_ne (by omega)]; exact hn
    · rw [put_ne (by omega), put_ne (by omega), put_at]
    · rw [put_ne (by omega), put_at]
    · rw [put_at]
  have hI0 : ∀ i, i < 24 → ∀ k, itm (put (put (put S 3 6 (nI fr)) 3 7 (nI w)) 3 8 (nI m)) fr i k = itm S fr i k := fun i hi k => hD0.2 _ _ (by omega)
  have hk0 : ∀ j, j ≤ r → ∀ (S1 : St), FrC (put (put (put S 3 6 (nI fr)) 3 7 (nI w)) 3 8 (nI m)) S1 → (∀ c, c < m → ∀ k, k < w → S1.1 (96 + c) k = clu (itm S fr) n w m j c k) → Wp M_c_cluster 22 [.ref 3, .int (nI fr), .int (nI w), .int (nI m), .int (nI r), .int (nI j)] [] S1 (fun v9 S' => v9 = none ∧ FrD S S' ∧ CF S' n fr w m ∧ ∀ c, c < m → ∀ k, k < w → S'.1 (96 + c) k = clu (itm S fr) n w m r c k) := by
    refine loopUp (r) (fun j hk9 hn9 => ?_)
    intro S1 h1 h2
    have hF1 := hF0.keep h1
    refine w_iload d_c_cluster_22 rfl ?_
    refine w_iload d_c_cluster_24 rfl ?_
    refine w_icmp_geN 47 d_c_cluster_26 (by decide) (by omega) (by omega) (fun h26 => ?_) (fun h26 => ?_)
    · refine w_ret (st := []) rfl d_c_cluster_47 ?_
      obtain rfl : j = r := by omega
      exact ⟨rfl, h1.D hD0, hF1, h2⟩
    · refine w_aload_n d_c_cluster_29 rfl ?_
      refine w_callV0 (N := M_c_countMembers) d_c_cluster_30 LK_c_42 MF_c_countMembers MV_c_countMembers NP_c_countMembers (by decide) (by decide) (rfl) rfl rfl (Nat.le_of_ble_eq_true rfl) ?_
      refine Ev.mono (c_c_countMembers S1 n fr w m hF1) (fun r9 S2 hq => ?_)
      obtain ⟨rfl, f1, f2, f3⟩ := hq
      show Wp _ _ _ [] _ _
      have hM2 : ∀ c, c < m → S2.1 14 c = nI ((fun c => memC (nrC (cen S1) (itm S1 fr) w m) c n) c) ∧ (fun c => memC (nrC (cen S1) (itm S1 fr) w m) c n) c ≤ 24 := fun c hc => ⟨(f3 c hc).1, Nat.le_trans (memC_le _ _ _) hn24⟩
      refine w_aload_n d_c_cluster_33 rfl ?_
      refine w_callV0 (N := M_c_moveToMeans) d_c_cluster_34 LK_c_45 MF_c_moveToMeans MV_c_moveToMeans NP_c_moveToMeans (by decide) (by decide) (rfl) rfl rfl (Nat.le_of_ble_eq_true rfl) ?_
      refine Ev.mono (c_c_moveToMeans S2 n fr w m (hF1.keep f1) (fun c => memC (nrC (cen S1) (itm S1 fr) w m) c n) hM2) (fun r9 S3 hq => ?_)
      obtain ⟨rfl, g1, g2, g3⟩ := hq
      show Wp _ _ _ [] _ _
      refine w_aload_n d_c_cluster_37 rfl ?_
      refine w_callV0 (N := M_c_fillEmptyCentres) d_c_cluster_38 LK_c_48 MF_c_fillEmptyCentres MV_c_fillEmptyCentres NP_c_fillEmptyCentres (by decide) (by decide) (rfl) rfl rfl (Nat.le_of_ble_eq_true rfl) ?_
      refine Ev.mono (c_c_fillEmptyCentres S3 n fr w m ((hF1.keep f1).keep g1) (fun c => memC (nrC (cen S1) (itm S1 fr) w m) c n) (fun c hc => ⟨(g2 c).trans (hM2 c hc).1, (hM2 c hc).2⟩)) (fun r9 S4 hq => ?_)
      obtain ⟨rfl, k1, k2⟩ := hq
      show Wp _ _ _ [] _ _
      refine w_iincN d_c_cluster_41 rfl ?_
      refine w_goto 22 d_c_cluster_44 (by decide) ?_
      have e1 : ∀ c, c < m → ∀ k, k < w → S4.1 (96 + c) k = rnd (itm S1 fr) n w m (cen S1) c k := by
        intro c hc k hk
        rw [k2 c hc k hk]
        refine (fil_congr hm0 ?_ (fun _ _ => rfl) m (Nat.le_refl m)).1 c hc k hk
        intro c hc k hk
        show S3.1 (96 + c) k = _
        rw [g3 c hc k hk]
        unfold mvC mnC
        rw [(f3 c hc).2 k hk, f2 c (by omega) k]
        rfl
      refine hn9 h26 _ (((h1.tr f1).tr g1).tr k1) ?_
      intro c hc k hk
      rw [e1 c hc k hk]
      exact rnd_congr hm0 (fun i hi k hk => (itm_keep h1 (by omega) k).trans (hI0 i (by omega) k)) (fun c hc k hk => h2 c hc k hk) c hc k hk
  refine w_aload_n d_c_cluster_0 rfl ?_
  refine w_iload_n d_c_cluster_1 rfl ?_
  refine w_putIP d_c_cluster_2 FL_c_29 FW_3_6 (by decide) (rfl) (rfl) ?_
  refine w_aload_n d_c_cluster_5 rfl ?_
  refine w_iload_n d_c_cluster_6 rfl ?_
  refine w_putIP d_c_cluster_7 FL_c_33 FW_3_7 (by decide) (rfl) (rfl) ?_
  refine w_aload_n d_c_cluster_10 rfl ?_
  refine w_iload_n d_c_cluster_11 rfl ?_
  refine w_putIP d_c_cluster_12 FL_c_36 FW_3_8 (by decide) (rfl) (rfl) ?_
  refine w_aload_n d_c_cluster_15 rfl ?_
  refine w_callV0 (N := M_c_chooseCentres) d_c_cluster_16 LK_c_39 MF_c_chooseCentres MV_c_chooseCentres NP_c_chooseCentres (by decide) (by decide) (rfl) rfl rfl (Nat.le_of_ble_eq_true rfl) ?_
  refine Ev.mono (c_c_chooseCentres (put (put (put S 3 6 (nI fr)) 3 7 (nI w)) 3 8 (nI m)) n fr w m hF0) (fun r9 S1 hq => ?_)
  obtain ⟨rfl, h1, h2⟩ := hq
  show Wp _ _ _ [] _ _
  show Wp _ 19 _ _ _ _
  refine w_iconst (v := nI 0) d_c_cluster_19 (by decide +kernel) ?_
  refine w_istore d_c_cluster_20 (Nat.le_of_ble_eq_true rfl) ?_
  refine hk0 0 (by omega) _ h1 ?_
  intro c hc k hk
  rw [h2 c hc k hk]
  exact chC_congr hn0 (fun i hi k hk => hI0 i (by omega) k) m c k hk
set_option maxRecDepth 100000 in
set_option maxHeartbeats 4000000 in
theorem c_c_giveCentres (S : St) (n fr w m : Nat) (hF : CF S n fr w m) (g first : Nat) (hg1 : g < 204) (hg2 : kd g = 2) (hg3 : first + m ≤ ln g) (hg4 : 104 ≤ gbase g) (hrow : ∀ c, c < m → gbase g + (first + c) < 204 ∧ kd (gbase g + (first + c)) = 0 ∧ w ≤ ln (gbase g + (first + c))) : Ev M_c_giveCentres [.ref 3, .ref g, .int (nI first)] S (fun v9 S' => v9 = none ∧ S'.2 = S.2 ∧ (∀ a i, ¬ (gbase g + first ≤ a ∧ a < gbase g + first + m) → S'.1 a i = S.1 a i) ∧ ∀ c, c < m → ∀ k, k < w → S'.1 (gbase g + (first + c)) k = S.1 (96 + c) k) := by
  refine Ev.of MF_c_giveCentres (all_cat rfl) (Nat.le_of_ble_eq_true rfl) ?_
  show Wp M_c_giveCentres 0 [.ref 3, .ref g, .int (nI first), .null, .null] [] _ _
  have hF0 := hF
  obtain ⟨hn, hfr, hw, hm, hn0, hn24, hfw, hw0, hm0, hm4⟩ := hF
  have hk0 : ∀ c, c ≤ m → ∀ (S1 : St) (x4 : Value), S1.2 = S.2 → (∀ a i, ¬ (gbase g + first ≤ a ∧ a < gbase g + first + m) → S1.1 a i = S.1 a i) → (∀ d, d < c → ∀ j, j < w → S1.1 (gbase g + (first + d)) j = S.1 (96 + d) j) → Wp M_c_giveCentres 2 [.ref 3, .ref g, .int (nI first), .int (nI c), x4] [] S1 (fun v9 S' => v9 = none ∧ S'.2 = S.2 ∧ (∀ a i, ¬ (gbase g + first ≤ a ∧ a < gbase g + first + m) → S'.1 a i = S.1 a i) ∧ ∀ c, c < m → ∀ k, k < w → S'.1 (gbase g + (first + c)) k = S.1 (96 + c) k) := by
    refine loopUp (m) (fun c hk9 hn9 => ?_)
    intro S1 x4 h1 h2 h3
    refine w_iload_n d_c_giveCentres_2 rfl ?_
    refine w_aload_n d_c_giveCentres_3 rfl ?_
    refine w_getIV (v := (nI m)) d_c_giveCentres_4 FL_c_36 (by decide) (rfl) (rfl) ((h2 3 8 (by omega)).trans hm) ?_
    refine w_icmp_geN 51 d_c_giveCentres_7 (by decide) (by omega) (by omega) (fun h7 => ?_) (fun h7 => ?_)
    · refine w_ret (st := []) rfl d_c_giveCentres_51 ?_
      obtain rfl : c = m := by omega
      exact ⟨rfl, h1, h2, h3⟩
    · refine w_iconst (v := nI 0) d_c_giveCentres_10 (by decide +kernel) ?_
      refine w_istore d_c_giveCentres_11 (Nat.le_of_ble_eq_true rfl) ?_
      have hin : ∀ k, k ≤ w → ∀ (S2 : St), S2.2 = S.2 → (∀ a i, ¬ (gbase g + first ≤ a ∧ a < gbase g + first + m) → S2.1 a i = S.1 a i) → (∀ d, d < c → ∀ j, j < w → S2.1 (gbase g + (first + d)) j = S.1 (96 + d) j) → (∀ j, j < k → S2.1 (gbase g + (first + c)) j = S.1 (96 + c) j) → Wp M_c_giveCentres 13 [.ref 3, .ref g, .int (nI first), .int (nI c), .int (nI k)] [] S2 (fun v9 S' => v9 = none ∧ S'.2 = S.2 ∧ (∀ a i, ¬ (gbase g + first ≤ a ∧ a < gbase g + first + m) → S'.1 a i = S.1 a i) ∧ ∀ c, c < m → ∀ k, k < w → S'.1 (gbase g + (first + c)) k = S.1 (96 + c) k) := by
        refine loopUp (w) (fun k hk8 hn8 => ?_)
        intro S2 g1 g2 g3 g4
        refine w_iload d_c_giveCentres_13 rfl ?_
        refine w_aload_n d_c_giveCentres_15 rfl ?_
        refine w_getIV (v := (nI w)) d_c_giveCentres_16 FL_c_33 (by decide) (rfl) (rfl) ((g2 3 7 (by omega)).trans hw) ?_
        refine w_icmp_geN 45 d_c_giveCentres_19 (by decide) (by omega) (by omega) (fun h19 => ?_) (fun h19 => ?_)
        · refine w_iincN d_c_giveCentres_45 rfl ?_
          refine w_goto 2 d_c_giveCentres_48 (by decide) ?_
          have hkw : k = w := by omega
          refine hn9 h7 _ _ g1 g2 ?_
          exact lt_s g3 (fun j hj => g4 j (by omega))
        · refine w_aload_n d_c_giveCentres_22 rfl ?_
          refine w_iload_n d_c_giveCentres_23 rfl ?_
          refine w_iload_n d_c_giveCentres_24 rfl ?_
          refine w_iaddN d_c_giveCentres_25 ?_
          refine w_aaldN d_c_giveCentres_26 (hg1) (hg2) (by omega) ?_
          refine w_iload d_c_giveCentres_27 rfl ?_
          refine w_aload_n d_c_giveCentres_29 rfl ?_
          refine w_getR d_c_giveCentres_30 FL_c_16 (by decide) (rfl) (rfl) ?_
          refine w_iload_n d_c_giveCentres_33 rfl ?_
          refine w_aaldN d_c_giveCentres_34 (by decide) (rfl) (show c < 4 from (by omega)) ?_
          show Wp _ _ _ (.ref (96 + c) :: _) _ _
          refine w_iload d_c_giveCentres_35 rfl ?_
          show Wp _ 37 _ _ _ _
          refine w_ialdNV (v := ((S.1 (96 + c) k))) d_c_giveCentres_37 (by omega) (kd_row96 (by omega)) (show k < ln (96 + c) by rw [ln_row96 (by omega)]; omega) (g2 _ _ (by omega)) ?_
          refine w_iastNP d_c_giveCentres_38 ((hrow c h7).1) ((hrow c h7).2.1) (by have := (hrow c h7).2.2; omega) ?_
          refine w_iincN d_c_giveCentres_39 rfl ?_
          refine w_goto 13 d_c_giveCentres_42 (by decide) ?_
          refine hn8 h19 _ g1 (fun a i ha => by rw [put_ne (by omega)]; exact g2 a i ha) (fun d hd j hj => by rw [put_ne (by omega)]; exact g3 d hd j hj) ?_
          intro j hj
          by_cases hjk : j = k
          · rw [hjk, put_at]
          · rw [put_ne (by omega)]
            exact g4 j (by omega)
      exact hin 0 (by omega) _ h1 h2 h3 lt_0
  refine w_iconst (v := nI 0) d_c_giveCentres_0 (by decide +kernel) ?_
  refine w_istore_n d_c_giveCentres_1 (Nat.le_of_ble_eq_true rfl) ?_
  exact hk0 0 (by omega) _ _ rfl (fun _ _ _ => rfl) lt_0
def minI (f : Nat → Int32) : Nat → Int32
  | 0 => f 0
  | i + 1 => if f i < minI f i then f i else minI f i
def maxI (f : Nat → Int32) : Nat → Int32
  | 0 => f 0
  | i + 1 => if maxI f i < f i then f i else maxI f i
theorem minI_1 (f : Nat → Int32) : minI f 1 = f 0 := by show (if f 0 < f 0 then f 0 else f 0) = f 0; split <;> rfl
theorem maxI_1 (f : Nat → Int32) : maxI f 1 = f 0 := by show (if f 0 < f 0 then f 0 else f 0) = f 0; split <;> rfl
set_option maxRecDepth 100000 in
set_option maxHeartbeats 4000000 in
theorem c_c_least (S : St) (n q : Nat) (hn : S.1 3 5 = nI n) (hn0 : 0 < n) (hn24 : n ≤ 24) (hq : q < 4) : Ev M_c_least [.ref 3, .int (nI q)] S (fun v9 S' => v9 = some (.int (minI (fun i => S.1 (72 + i) q) n)) ∧ S' = S) := by
  refine Ev.of MF_c_least (all_cat rfl) (Nat.le_of_ble_eq_true rfl) ?_
  show Wp M_c_least 0 [.ref 3, .int (nI q), .null, .null] [] _ _
  have hk0 : ∀ i, i ≤ n → ∀ (b : Int32), 1 ≤ i → b = minI (fun i => S.1 (72 + i) q) i → Wp M_c_least 11 [.ref 3, .int (nI q), .int b, .int (nI i)] [] S (fun v9 S' => v9 = some (.int (minI (fun i => S.1 (72 + i) q) n)) ∧ S' = S) := by
    refine loopUp (n) (fun i hk9 hn9 => ?_)
    intro b hi1 hb
    refine w_iload_n d_c_least_11 rfl ?_
    refine w_aload_n d_c_least_12 rfl ?_
    refine w_getIV (v := (nI n)) d_c_least_13 FL_c_51 (by decide) (rfl) (rfl) (hn) ?_
    refine w_icmp_geN 38 d_c_least_16 (by decide) (by omega) (by omega) (fun h16 => ?_) (fun h16 => ?_)
    · refine w_iload_n d_c_least_38 rfl ?_
      refine w_iret (st := []) rfl d_c_least_39 ?_
      obtain rfl : i = n := by omega
      exact ⟨by rw [hb], rfl⟩
    · refine w_iload_n d_c_least_19 rfl ?_
      refine w_aload_n d_c_least_20 rfl ?_
      refine w_getR d_c_least_21 FL_c_11 (by decide) (rfl) (rfl) ?_
      refine w_iload_n d_c_least_24 rfl ?_
      refine w_aaldN d_c_least_25 (by decide) (rfl) (show i < 24 from (by omega)) ?_
      show Wp _ _ _ (.ref (72 + i) :: _) _ _
      refine w_iload_n d_c_least_26 rfl ?_
      refine w_ialdN d_c_least_27 (by omega) (kd_row72 (by omega)) (show q < ln (72 + i) by rw [ln_row72 (by omega)]; omega) ?_
      refine w_callS2 (N := M_j_min) d_c_least_28 LK_c_54 MF_j_min MS_j_min NP_j_min (by decide) rfl (Nat.le_of_ble_eq_true rfl) ?_
      refine Ev.det (c_j_min _ _ _) ?_
      refine w_istore_n d_c_least_31 (Nat.le_of_ble_eq_true rfl) ?_
      refine w_iincN d_c_least_32 rfl ?_
      refine w_goto 11 d_c_least_35 (by decide) ?_
      show Wp _ 11 _ _ _ _
      exact hn9 h16 _ (by omega) (by rw [hb]; rfl)
  refine w_aload_n d_c_least_0 rfl ?_
  refine w_getR d_c_least_1 FL_c_11 (by decide) (rfl) (rfl) ?_
  refine w_iconst (v := nI 0) d_c_least_4 (by decide +kernel) ?_
  refine w_aaldN d_c_least_5 (by decide) (rfl) (show 0 < 24 from (by omega)) ?_
  show Wp _ _ _ (.ref (72 + 0) :: _) _ _
  refine w_iload_n d_c_least_6 rfl ?_
  refine w_ialdN d_c_least_7 (by omega) (kd_row72 (by omega)) (show q < ln (72 + 0) by rw [ln_row72 (by omega)]; omega) ?_
  refine w_istore_n d_c_least_8 (Nat.le_of_ble_eq_true rfl) ?_
  refine w_iconst (v := nI 1) d_c_least_9 (by decide +kernel) ?_
  refine w_istore_n d_c_least_10 (Nat.le_of_ble_eq_true rfl) ?_
  exact hk0 1 (by omega) _ (Nat.le_refl 1) (minI_1 (fun i => S.1 (72 + i) q)).symm
set_option maxRecDepth 100000 in
set_option maxHeartbeats 4000000 in
theorem c_c_greatest (S : St) (n q : Nat) (hn : S.1 3 5 = nI n) (hn0 : 0 < n) (hn24 : n ≤ 24) (hq : q < 4) : Ev M_c_greatest [.ref 3, .int (nI q)] S (fun v9 S' => v9 = some (.int (maxI (fun i => S.1 (72 + i) q) n)) ∧ S' = S) := by
  refine Ev.of MF_c_greatest (all_cat rfl) (Nat.le_of_ble_eq_true rfl) ?_
  show Wp M_c_greatest 0 [.ref 3, .int (nI q), .null, .null] [] _ _
  have hk0 : ∀ i, i ≤ n → ∀ (b : Int32), 1 ≤ i → b = maxI (fun i => S.1 (72 + i) q) i → Wp M_c_greatest 11 [.ref 3, .int (nI q), .int b, .int (nI i)] [] S (fun v9 S' => v9 = some (.int (maxI (fun i => S.1 (72 + i) q) n)) ∧ S' = S) := by
    refine loopUp (n) (fun i hk9 hn9 => ?_)
    intro b hi1 hb
    refine w_iload_n d_c_greatest_11 rfl ?_
    refine w_aload_n d_c_greatest_12 rfl ?_
    refine w_getIV (v := (nI n)) d_c_greatest_13 FL_c_51 (by decide) (rfl) (rfl) (hn) ?_
    refine w_icmp_geN 38 d_c_greatest_16 (by decide) (by omega) (by omega) (fun h16 => ?_) (fun h16 => ?_)
    · refine w_iload_n d_c_greatest_38 rfl ?_
      refine w_iret (st := []) rfl d_c_greatest_39 ?_
      obtain rfl : i = n := by omega
      exact ⟨by rw [hb], rfl⟩
    · refine w_iload_n d_c_greatest_19 rfl ?_
      refine w_aload_n d_c_greatest_20 rfl ?_
      refine w_getR d_c_greatest_21 FL_c_11 (by decide) (rfl) (rfl) ?_
      refine w_iload_n d_c_greatest_24 rfl ?_
      refine w_aaldN d_c_greatest_25 (by decide) (rfl) (show i < 24 from (by omega)) ?_
      show Wp _ _ _ (.ref (72 + i) :: _) _ _
      refine w_iload_n d_c_greatest_26 rfl ?_
      refine w_ialdN d_c_greatest_27 (by omega) (kd_row72 (by omega)) (show q < ln (72 + i) by rw [ln_row72 (by omega)]; omega) ?_
      refine w_callS2 (N := M_j_max) d_c_greatest_28 LK_c_60 MF_j_max MS_j_max NP_j_max (by decide) rfl (Nat.le_of_ble_eq_true rfl) ?_
      refine Ev.det (c_j_max _ _ _) ?_
      refine w_istore_n d_c_greatest_31 (Nat.le_of_ble_eq_true rfl) ?_
      refine w_iincN d_c_greatest_32 rfl ?_
      refine w_goto 11 d_c_greatest_35 (by decide) ?_
      show Wp _ 11 _ _ _ _
      exact hn9 h16 _ (by omega) (by rw [hb]; rfl)
  refine w_aload_n d_c_greatest_0 rfl ?_
  refine w_getR d_c_greatest_1 FL_c_11 (by decide) (rfl) (rfl) ?_
  refine w_iconst (v := nI 0) d_c_greatest_4 (by decide +kernel) ?_
  refine w_aaldN d_c_greatest_5 (by decide) (rfl) (show 0 < 24 from (by omega)) ?_
  show Wp _ _ _ (.ref (72 + 0) :: _) _ _
  refine w_iload_n d_c_greatest_6 rfl ?_
  refine w_ialdN d_c_greatest_7 (by omega) (kd_row72 (by omega)) (show q < ln (72 + 0) by rw [ln_row72 (by omega)]; omega) ?_
  refine w_istore_n d_c_greatest_8 (Nat.le_of_ble_eq_true rfl) ?_
  refine w_iconst (v := nI 1) d_c_greatest_9 (by decide +kernel) ?_
  refine w_istore_n d_c_greatest_10 (Nat.le_of_ble_eq_true rfl) ?_
  exact hk0 1 (by omega) _ (Nat.le_refl 1) (maxI_1 (fun i => S.1 (72 + i) q)).symm
def sprd (lo hi : Int32) (nc j : Nat) : Int32 := if j = 0 then lo else lo + (hi - lo) * nI j / nI (nc - 1)
set_option maxRecDepth 100000 in
set_option maxHeartbeats 4000000 in
theorem c_z_spreadWords (S : St) (part nc : Nat) (lo hi : Int32) (hc : S.1 4 6 = nI nc) (hc1 : 0 < nc) (hc4 : nc ≤ 4) (hp : part < 4) : Ev M_z_spreadWords [.ref 4, .int (nI part), .int lo, .int hi] S (fun v9 S' => v9 = none ∧ S' = setCol S (108 + part * 4) 0 (sprd lo hi nc) nc) := by
  refine Ev.of MF_z_spreadWords (all_cat rfl) (Nat.le_of_ble_eq_true rfl) ?_
  show Wp M_z_spreadWords 0 [.ref 4, .int (nI part), .int lo, .int hi, .null] [] _ _
  have hk0 : ∀ j, j ≤ nc → ∀ (S1 : St), 1 ≤ j → S1 = setCol S (108 + part * 4) 0 (sprd lo hi nc) j → Wp M_z_spreadWords 16 [.ref 4, .int (nI part), .int lo, .int hi, .int (nI j)] [] S1 (fun v9 S' => v9 = none ∧ S' = setCol S (108 + part * 4) 0 (sprd lo hi nc) nc) := by
    refine loopUp (nc) (fun j hk9 hn9 => ?_)
    intro S1 hj1 hS
    have e4 : ∀ i, S1.1 4 i = S.1 4 i := fun i => by rw [hS, setCol_ne (by omega)]
    refine w_iload d_z_spreadWords_16 rfl ?_
    refine w_aload_n d_z_spreadWords_18 rfl ?_
    refine w_getIV (v := (nI nc)) d_z_spreadWords_19 FL_z_34 (by decide) (rfl) (rfl) ((e4 6).trans hc) ?_
    refine w_icmp_geN 59 d_z_spreadWords_22 (by decide) (by omega) (by omega) (fun h22 => ?_) (fun h22 => ?_)
    · refine w_ret (st := []) rfl d_z_spreadWords_59 ?_
      obtain rfl : j = nc := by omega
      exact ⟨rfl, hS⟩
    · refine w_aload_n d_z_spreadWords_25 rfl ?_
      refine w_getR d_z_spreadWords_26 FL_z_16 (by decide) (rfl) (rfl) ?_
      refine w_iload_n d_z_spreadWords_29 rfl ?_
      refine w_iload d_z_spreadWords_30 rfl ?_
      refine w_callS2 (N := M_q_wordRow) d_z_spreadWords_32 LK_z_52 MF_q_wordRow MS_q_wordRow NP_q_wordRow (by decide) rfl (Nat.le_of_ble_eq_true rfl) ?_
      refine Ev.det (c_q_wordRow _ _ _) ?_
      refine w_aaldN d_z_spreadWords_35 (by decide) (rfl) (show part * 4 + j < 16 from (by omega)) ?_
      show Wp _ _ _ (.ref (108 + (part * 4 + j)) :: _) _ _
      refine w_iconst (v := nI 0) d_z_spreadWords_36 (by decide +kernel) ?_
      refine w_iload_n d_z_spreadWords_37 rfl ?_
      refine w_iload_n d_z_spreadWords_38 rfl ?_
      refine w_iload_n d_z_spreadWords_39 rfl ?_
      refine w_isub d_z_spreadWords_40 ?_
      show Wp _ 41 _ _ _ _
      refine w_iload d_z_spreadWords_41 rfl ?_
      refine w_imul d_z_spreadWords_43 ?_
      refine w_aload_n d_z_spreadWords_44 rfl ?_
      refine w_getIV (v := (nI nc)) d_z_spreadWords_45 FL_z_34 (by decide) (rfl) (rfl) ((e4 6).trans hc) ?_
      refine w_iconst (v := nI 1) d_z_spreadWords_48 (by decide +kernel) ?_
      refine w_isubN d_z_spreadWords_49 (by omega) ?_
      refine w_idiv d_z_spreadWords_50 (nI_ne0 (by omega) (by omega)) ?_
      refine w_iadd d_z_spreadWords_51 ?_
      refine w_iastNP d_z_spreadWords_52 (by omega) (kd_row108 (by omega)) (show 0 < ln (108 + (part * 4 + j)) by rw [ln_row108 (by omega)]; omega) ?_
      refine w_iincN d_z_spreadWords_53 rfl ?_
      refine w_goto 16 d_z_spreadWords_56 (by decide) ?_
      refine hn9 h22 _ (by omega) ?_
      rw [hS, ← Nat.add_assoc]
      refine setCol_s ?_
      unfold sprd
      rw [if_neg (by omega)]
  refine w_aload_n d_z_spreadWords_0 rfl ?_
  refine w_getR d_z_spreadWords_1 FL_z_16 (by decide) (rfl) (rfl) ?_
  refine w_iload_n d_z_spreadWords_4 rfl ?_
  refine w_iconst (v := nI 0) d_z_spreadWords_5 (by decide +kernel) ?_
  refine w_callS2 (N := M_q_wordRow) d_z_spreadWords_6 LK_z_52 MF_q_wordRow MS_q_wordRow NP_q_wordRow (by decide) rfl (Nat.le_of_ble_eq_true rfl) ?_
  refine Ev.det (c_q_wordRow _ _ _) ?_
  refine w_aaldN d_z_spreadWords_9 (by decide) (rfl) (show part * 4 + 0 < 16 from (by omega)) ?_
  show Wp _ _ _ (.ref (108 + (part * 4 + 0)) :: _) _ _
  refine w_iconst (v := nI 0) d_z_spreadWords_10 (by decide +kernel) ?_
  refine w_iload_n d_z_spreadWords_11 rfl ?_
  refine w_iastNP d_z_spreadWords_12 (by omega) (kd_row108 (by omega)) (show 0 < ln (108 + (part * 4 + 0)) by rw [ln_row108 (by omega)]; omega) ?_
  refine w_iconst (v := nI 1) d_z_spreadWords_13 (by decide +kernel) ?_
  refine w_istore d_z_spreadWords_14 (Nat.le_of_ble_eq_true rfl) ?_
  show Wp _ 16 _ _ _ _
  refine hk0 1 (by omega) _ (Nat.le_refl 1) ?_
  rw [← setCol_s (n := 0) (f := sprd lo hi nc) (by unfold sprd; rw [if_pos rfl]), setCol_0]
  rfl
