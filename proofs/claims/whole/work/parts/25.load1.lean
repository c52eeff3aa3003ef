/-! Loading. -/
/-- a coordinate of a centre or word in the file -/
def wdN (b : Nat → Nat) (q : Nat) : Int32 := nI (prN b (10 + 2 * q)) - nI 300
def cdN (b : Nat → Nat) (i k : Nat) : Int32 := nI (b (esN b i + 2 + k)) - nI 100
theorem hb_keep {S S1 : St} {b : Nat → Nat} (hb : ∀ p, p < 250 → S.1 25 p = nI (b p) ∧ b p ≤ 255) (h : ∀ p, S1.1 25 p = S.1 25 p) : ∀ p, p < 250 → S1.1 25 p = nI (b p) ∧ b p ≤ 255 := fun p hp => by rw [h p]; exact hb p hp
set_option maxRecDepth 100000 in
set_option maxHeartbeats 4000000 in
theorem c_q_readHead (S : St) (b : Nat → Nat) (hb : ∀ p, p < 250 → S.1 25 p = nI (b p) ∧ b p ≤ 255) : Ev M_q_readHead [.ref 0] S (fun v9 S' => v9 = none ∧ S' = setRow (put (put (put (put S 4 3 (nI 1)) 4 4 (nI (b 2))) 4 5 (nI (b 3))) 4 6 (nI (b 4))) 9 (pt (stN b 0) (stN b 1) (stN b 2) (stN b 3)) 4) := by
  refine Ev.of MF_q_readHead (all_cat rfl) (Nat.le_of_ble_eq_true rfl) ?_
  show Wp M_q_readHead 0 [.ref 0] [] _ _
  refine w_aload_n d_q_readHead_0 rfl ?_
  refine w_getR d_q_readHead_1 FL_q_33 (by decide) (rfl) (rfl) ?_
  refine w_aload_n d_q_readHead_4 rfl ?_
  refine w_getR d_q_readHead_5 FL_q_54 (by decide) (rfl) (rfl) ?_
  refine w_getR d_q_readHead_8 FL_q_215 (by decide) (rfl) (rfl) ?_
  refine w_iconst (v := nI 2) d_q_readHead_11 (by decide +kernel) ?_
  refine w_ialdNV (v := (nI (b 2))) d_q_readHead_12 (by decide) (rfl) (show 2 < 250 from (by omega)) ((hb 2 (by decide)).1) ?_
  refine w_aload_n d_q_readHead_13 rfl ?_
  refine w_getR d_q_readHead_14 FL_q_54 (by decide) (rfl) (rfl) ?_
  refine w_getR d_q_readHead_17 FL_q_215 (by decide) (rfl) (rfl) ?_
  refine w_iconst (v := nI 3) d_q_readHead_20 (by decide +kernel) ?_
  show Wp _ 21 _ _ _ _
  refine w_ialdNV (v := (nI (b 3))) d_q_readHead_21 (by decide) (rfl) (show 3 < 250 from (by omega)) ((hb 3 (by decide)).1) ?_
  refine w_aload_n d_q_readHead_22 rfl ?_
  refine w_getR d_q_readHead_23 FL_q_54 (by decide) (rfl) (rfl) ?_
  refine w_getR d_q_readHead_26 FL_q_215 (by decide) (rfl) (rfl) ?_
  refine w_iconst (v := nI 4) d_q_readHead_29 (by decide +kernel) ?_
  refine w_ialdNV (v := (nI (b 4))) d_q_readHead_30 (by decide) (rfl) (show 4 < 250 from (by omega)) ((hb 4 (by decide)).1) ?_
  refine w_callV3 (N := M_z_become) d_q_readHead_31 LK_q_90 MF_z_become MV_z_become NP_z_become (by decide) (by decide) (rfl) rfl rfl (Nat.le_of_ble_eq_true rfl) ?_
  refine Ev.det (c_z_become S _ _ _) ?_
  have hb1 := hb_keep (S1 := (put (put (put (put S 4 3 (nI 1)) 4 4 (nI (b 2))) 4 5 (nI (b 3))) 4 6 (nI (b 4)))) hb (fun p => by rw [put_ne (by omega), put_ne (by omega), put_ne (by omega), put_ne (by omega)])
  refine w_aload_n d_q_readHead_34 rfl ?_
  refine w_getR d_q_readHead_35 FL_q_10 (by decide) (rfl) (rfl) ?_
  refine w_aload_n d_q_readHead_38 rfl ?_
  refine w_getR d_q_readHead_39 FL_q_54 (by decide) (rfl) (rfl) ?_
  refine w_iconst (v := nI 0) d_q_readHead_42 (by decide +kernel) ?_
  show Wp _ 43 _ _ _ _
  refine w_callV1 (N := M_y_step) d_q_readHead_43 LK_q_300 MF_y_step MV_y_step NP_y_step (by decide) (by decide) (rfl) rfl rfl (Nat.le_of_ble_eq_true rfl) ?_
  refine Ev.det (c_y_step _ b hb1 _ (by decide)) ?_
  refine w_aload_n d_q_readHead_46 rfl ?_
  refine w_getR d_q_readHead_47 FL_q_54 (by decide) (rfl) (rfl) ?_
  refine w_iconst (v := nI 1) d_q_readHead_50 (by decide +kernel) ?_
  refine w_callV1 (N := M_y_step) d_q_readHead_51 LK_q_300 MF_y_step MV_y_step NP_y_step (by decide) (by decide) (rfl) rfl rfl (Nat.le_of_ble_eq_true rfl) ?_
  refine Ev.det (c_y_step _ b hb1 _ (by decide)) ?_
  refine w_aload_n d_q_readHead_54 rfl ?_
  refine w_getR d_q_readHead_55 FL_q_54 (by decide) (rfl) (rfl) ?_
  refine w_iconst (v := nI 2) d_q_readHead_58 (by decide +kernel) ?_
  refine w_callV1 (N := M_y_step) d_q_readHead_59 LK_q_300 MF_y_step MV_y_step NP_y_step (by decide) (by decide) (rfl) rfl rfl (Nat.le_of_ble_eq_true rfl) ?_
  refine Ev.det (c_y_step _ b hb1 _ (by decide)) ?_
  refine w_aload_n d_q_readHead_62 rfl ?_
  refine w_getR d_q_readHead_63 FL_q_54 (by decide) (rfl) (rfl) ?_
  refine w_iconst (v := nI 3) d_q_readHead_66 (by decide +kernel) ?_
  show Wp _ 67 _ _ _ _
  refine w_callV1 (N := M_y_step) d_q_readHead_67 LK_q_300 MF_y_step MV_y_step NP_y_step (by decide) (by decide) (rfl) rfl rfl (Nat.le_of_ble_eq_true rfl) ?_
  refine Ev.det (c_y_step _ b hb1 _ (by decide)) ?_
  refine w_callV4 (N := M_t_become) d_q_readHead_70 LK_q_66 MF_t_become MV_t_become NP_t_become (by decide) (by decide) (rfl) rfl rfl (Nat.le_of_ble_eq_true rfl) ?_
  refine Ev.det (c_t_become _ _ _ _ _) ?_
  refine w_ret (st := []) rfl d_q_readHead_73 ?_
  exact ⟨rfl, rfl⟩
set_option maxRecDepth 100000 in
set_option maxHeartbeats 4000000 in
theorem c_q_readCentres (S : St) (b : Nat → Nat) (hb : ∀ p, p < 250 → S.1 25 p = nI (b p) ∧ b p ≤ 255) (nl : Nat) (hl : S.1 4 5 = nI nl) (hl4 : nl ≤ 4) : Ev M_q_readCentres [.ref 0] S (fun v9 S' => v9 = none ∧ S'.2 = S.2 ∧ (∀ a i, ¬ (104 ≤ a ∧ a < 108) → S'.1 a i = S.1 a i) ∧ ∀ l, l < nl → ∀ k, k < 4 → S'.1 (104 + l) k = wdN b (l * 4 + k)) := by
  refine Ev.of MF_q_readCentres (all_cat rfl) (Nat.le_of_ble_eq_true rfl) ?_
  show Wp M_q_readCentres 0 [.ref 0, .null, .null] [] _ _
  have hk0 : ∀ l, l ≤ nl → ∀ (S1 : St) (x2 : Value), S1.2 = S.2 → (∀ a i, ¬ (104 ≤ a ∧ a < 108) → S1.1 a i = S.1 a i) → (∀ q, q < l → ∀ j, j < 4 → S1.1 (104 + q) j = wdN b (q * 4 + j)) → Wp M_q_readCentres 2 [.ref 0, .int (nI l), x2] [] S1 (fun v9 S' => v9 = none ∧ S'.2 = S.2 ∧ (∀ a i, ¬ (104 ≤ a ∧ a < 108) → S'.1 a i = S.1 a i) ∧ ∀ l, l < nl → ∀ k, k < 4 → S'.1 (104 + l) k = wdN b (l * 4 + k)) := by
    refine loopUp (nl) (fun l hk9 hn9 => ?_)
    intro S1 x2 h1 h2 h3
    refine w_iload_n d_q_readCentres_2 rfl ?_
    refine w_aload_n d_q_readCentres_3 rfl ?_
    refine w_getR d_q_readCentres_4 FL_q_33 (by decide) (rfl) (rfl) ?_
    refine w_getIV (v := (nI nl)) d_q_readCentres_7 FL_q_239 (by decide) (rfl) (rfl) ((h2 4 5 (by decide)).trans hl) ?_
    refine w_icmp_geN 55 d_q_readCentres_10 (by decide) (by omega) (by omega) (fun h10 => ?_) (fun h10 => ?_)
    · refine w_ret (st := []) rfl d_q_readCentres_55 ?_
      obtain rfl : l = nl := by omega
      exact ⟨rfl, h1, h2, h3⟩
    · refine w_iconst (v := nI 0) d_q_readCentres_13 (by decide +kernel) ?_
      refine w_istore_n d_q_readCentres_14 (Nat.le_of_ble_eq_true rfl) ?_
      have hin : ∀ k, k ≤ 4 → ∀ (S2 : St), S2.2 = S.2 → (∀ a i, ¬ (104 ≤ a ∧ a < 108) → S2.1 a i = S.1 a i) → (∀ q, q < l → ∀ j, j < 4 → S2.1 (104 + q) j = wdN b (q * 4 + j)) → (∀ j, j < k → S2.1 (104 + l) j = wdN b (l * 4 + j)) → Wp M_q_readCentres 15 [.ref 0, .int (nI l), .int (nI k)] [] S2 (fun v9 S' => v9 = none ∧ S'.2 = S.2 ∧ (∀ a i, ¬ (104 ≤ a ∧ a < 108) → S'.1 a i = S.1 a i) ∧ ∀ l, l < nl → ∀ k, k < 4 → S'.1 (104 + l) k = wdN b (l * 4 + k)) := by
        refine loopUp (4) (fun k hk8 hn8 => ?_)
        intro S2 g1 g2 g3 g4
        refine w_iload_n d_q_readCentres_15 rfl ?_
        refine w_iconst (v := nI 4) d_q_readCentres_16 (by decide +kernel) ?_
        refine w_icmp_geN 49 d_q_readCentres_17 (by decide) (by omega) (by omega) (fun h17 => ?_) (fun h17 => ?_)
        · refine w_iincN d_q_readCentres_49 rfl ?_
          refine w_goto 2 d_q_readCentres_52 (by decide) ?_
          obtain rfl : k = 4 := by omega
          exact hn9 h10 _ _ g1 g2 (lt_s g3 g4)
        · refine w_aload_n d_q_readCentres_20 rfl ?_
          refine w_getR d_q_readCentres_21 FL_q_33 (by decide) (rfl) (rfl) ?_
          refine w_getR d_q_readCentres_24 FL_q_111 (by decide) (rfl) (rfl) ?_
          refine w_iload_n d_q_readCentres_27 rfl ?_
          refine w_aaldN d_q_readCentres_28 (by decide) (rfl) (show l < 4 from (by omega)) ?_
          show Wp _ _ _ (.ref (104 + l) :: _) _ _
          refine w_iload_n d_q_readCentres_29 rfl ?_
          refine w_aload_n d_q_readCentres_30 rfl ?_
          refine w_getR d_q_readCentres_31 FL_q_54 (by decide) (rfl) (rfl) ?_
          refine w_iload_n d_q_readCentres_34 rfl ?_
          refine w_iconst (v := nI 4) d_q_readCentres_35 (by decide +kernel) ?_
          refine w_imulN d_q_readCentres_36 ?_
          show Wp _ 37 _ _ _ _
          refine w_iload_n d_q_readCentres_37 rfl ?_
          refine w_iaddN d_q_readCentres_38 ?_
          refine w_callV1 (N := M_y_wide) d_q_readCentres_39 LK_q_303 MF_y_wide MV_y_wide NP_y_wide (by decide) (by decide) (rfl) rfl rfl (Nat.le_of_ble_eq_true rfl) ?_
          refine Ev.det (c_y_wide S2 b (hb_keep hb (fun p => g2 25 p (by decide))) _ (by omega)) ?_
          show Wp _ _ _ (.int (wdN b (l * 4 + k)) :: _) _ _
          refine w_iastNP d_q_readCentres_42 (by omega) (kd_row104 (by omega)) (show k < ln (104 + l) by rw [ln_row104 (by omega)]; omega) ?_
          refine w_iincN d_q_readCentres_43 rfl ?_
          refine w_goto 15 d_q_readCentres_46 (by decide) ?_
          refine hn8 h17 _ g1 (fun a i ha => by rw [put_ne (by omega)]; exact g2 a i ha) (fun q hq j hj => by rw [put_ne (by omega)]; exact g3 q hq j hj) ?_
          intro j hj
          by_cases hjk : j = k
          · rw [hjk, put_at]
          · rw [put_ne (by omega)]
            exact g4 j (by omega)
      exact hin 0 (by omega) _ h1 h2 h3 lt_0
  refine w_iconst (v := nI 0) d_q_readCentres_0 (by decide +kernel) ?_
  refine w_istore_n d_q_readCentres_1 (Nat.le_of_ble_eq_true rfl) ?_
  exact hk0 0 (by omega) _ _ rfl (fun _ _ _ => rfl) lt_0
set_option maxRecDepth 100000 in
set_option maxHeartbeats 4000000 in
theorem c_q_readWords (S : St) (b : Nat → Nat) (hb : ∀ p, p < 250 → S.1 25 p = nI (b p) ∧ b p ≤ 255) (kind : Int32) (nl nc : Nat) (hk : S.1 4 4 = kind) (hl : S.1 4 5 = nI nl) (hl4 : nl ≤ 4) (hc : S.1 4 6 = nI nc) (hc4 : nc ≤ 4) : Ev M_q_readWords [.ref 0] S (fun v9 S' => v9 = none ∧ S'.2 = S.2 ∧ (∀ a i, ¬ (108 ≤ a ∧ a < 124) → S'.1 a i = S.1 a i) ∧ ∀ part, part < parts kind → ∀ j, j < nc → ∀ k, k < pwid kind → S'.1 (108 + (part * 4 + j)) k = wdN b (nl * 4 + wix nc (pwid kind) part j k)) := by
  refine Ev.of MF_q_readWords (all_cat rfl) (Nat.le_of_ble_eq_true rfl) ?_
  show Wp M_q_readWords 0 [.ref 0, .null, .null, .null, .null] [] _ _
  have hpar := parts_le kind
  have hpwl := pwid_le kind
  have hbd := pw_bd kind hc4
  have hk0 : ∀ p, p ≤ parts kind → ∀ (S1 : St) (y : Nat) (x3 : Value) (x4 : Value), y = nl * 4 + wix nc (pwid kind) p 0 0 → S1.2 = S.2 → (∀ a i, ¬ (108 ≤ a ∧ a < 124) → S1.1 a i = S.1 a i) → (∀ q, q < p → ∀ u, u < nc → ∀ z, z < pwid kind → S1.1 (108 + (q * 4 + u)) z = wdN b (nl * 4 + wix nc (pwid kind) q u z)) → Wp M_q_readWords 12 [.ref 0, .int (nI y), .int (nI p), x3, x4] [] S1 (fun v9 S' => v9 = none ∧ S'.2 = S.2 ∧ (∀ a i, ¬ (108 ≤ a ∧ a < 124) → S'.1 a i = S.1 a i) ∧ ∀ part, part < parts kind → ∀ j, j < nc → ∀ k, k < pwid kind → S'.1 (108 + (part * 4 + j)) k = wdN b (nl * 4 + wix nc (pwid kind) part j k)) := by
    refine loopUp (parts kind) (fun p hk9 hn9 => ?_)
    intro S1 y x3 x4 hy h1 h2 h3
    refine w_iload_n d_q_readWords_12 rfl ?_
    refine w_aload_n d_q_readWords_13 rfl ?_
    refine w_getR d_q_readWords_14 FL_q_33 (by decide) (rfl) (rfl) ?_
    refine w_getIV (v := kind) d_q_readWords_17 FL_q_118 (by decide) (rfl) (rfl) ((h2 4 4 (by decide)).trans hk) ?_
    refine w_callS1 (N := M_q_partsOf) d_q_readWords_20 LK_q_257 MF_q_partsOf MS_q_partsOf NP_q_partsOf (by decide) rfl (Nat.le_of_ble_eq_true rfl) ?_
    refine Ev.det (c_q_partsOf _ _) ?_
    refine w_icmp_geN 102 d_q_readWords_23 (by decide) (by omega) (by omega) (fun h23 => ?_) (fun h23 => ?_)
    · refine w_ret (st := []) rfl d_q_readWords_102 ?_
      obtain rfl : p = parts kind := by omega
      exact ⟨rfl, h1, h2, h3⟩
    · refine w_iconst (v := nI 0) d_q_readWords_26 (by decide +kernel) ?_
      refine w_istore_n d_q_readWords_27 (Nat.le_of_ble_eq_true rfl) ?_
      have hb2 : ∀ j, j ≤ nc → ∀ (S2 : St) (y : Nat) (x4 : Value), y = nl * 4 + wix nc (pwid kind) p j 0 → S2.2 = S.2 → (∀ a i, ¬ (108 ≤ a ∧ a < 124) → S2.1 a i = S.1 a i) → (∀ q, q < p → ∀ u, u < nc → ∀ z, z < pwid kind → S2.1 (108 + (q * 4 + u)) z = wdN b (nl * 4 + wix nc (pwid kind) q u z)) → (∀ u, u < j → ∀ z, z < pwid kind → S2.1 (108 + (p * 4 + u)) z = wdN b (nl * 4 + wix nc (pwid kind) p u z)) → Wp M_q_readWords 28 [.ref 0, .int (nI y), .int (nI p), .int (nI j), x4] [] S2 (fun v9 S' => v9 = none ∧ S'.2 = S.2 ∧ (∀ a i, ¬ (108 ≤ a ∧ a < 124) → S'.1 a i = S.1 a i) ∧ ∀ part, part < parts kind → ∀ j, j < nc → ∀ k, k < pwid kind → S'.1 (108 + (part * 4 + j)) k = wdN b (nl * 4 + wix nc (pwid kind) part j k)) := by
        refine loopUp (nc) (fun j hk8 hn8 => ?_)
        intro S2 y x4 hy g1 g2 g3 g4
        refine w_iload_n d_q_readWords_28 rfl ?_
        refine w_aload_n d_q_readWords_29 rfl ?_
        refine w_getR d_q_readWords_30 FL_q_33 (by decide) (rfl) (rfl) ?_
        refine w_getIV (v := (nI nc)) d_q_readWords_33 FL_q_260 (by decide) (rfl) (rfl) ((g2 4 6 (by decide)).trans hc) ?_
        refine w_icmp_geN 96 d_q_readWords_36 (by decide) (by omega) (by omega) (fun h36 => ?_) (fun h36 => ?_)
        · refine w_iincN d_q_readWords_96 rfl ?_
          refine w_goto 12 d_q_readWords_99 (by decide) ?_
          have hjn : j = nc := by omega
          exact hn9 h23 _ _ _ _ (by rw [hy, hjn, wix_p]) g1 g2 (lt_s g3 (fun u hu z hz => g4 u (by omega) z hz))
        · refine w_iconst (v := nI 0) d_q_readWords_39 (by decide +kernel) ?_
          refine w_istore d_q_readWords_40 (Nat.le_of_ble_eq_true rfl) ?_
          have hc3 : ∀ k, k ≤ pwid kind → ∀ (S3 : St) (y : Nat), y = nl * 4 + wix nc (pwid kind) p j k → S3.2 = S.2 → (∀ a i, ¬ (108 ≤ a ∧ a < 124) → S3.1 a i = S.1 a i) → (∀ q, q < p → ∀ u, u < nc → ∀ z, z < pwid kind → S3.1 (108 + (q * 4 + u)) z = wdN b (nl * 4 + wix nc (pwid kind) q u z)) → (∀ u, u < j → ∀ z, z < pwid kind → S3.1 (108 + (p * 4 + u)) z = wdN b (nl * 4 + wix nc (pwid kind) p u z)) → (∀ z, z < k → S3.1 (108 + (p * 4 + j)) z = wdN b (nl * 4 + wix nc (pwid kind) p j z)) → Wp M_q_readWords 42 [.ref 0, .int (nI y), .int (nI p), .int (nI j), .int (nI k)] [] S3 (fun v9 S' => v9 = none ∧ S'.2 = S.2 ∧ (∀ a i, ¬ (108 ≤ a ∧ a < 124) → S'.1 a i = S.1 a i) ∧ ∀ part, part < parts kind → ∀ j, j < nc → ∀ k, k < pwid kind → S'.1 (108 + (part * 4 + j)) k = wdN b (nl * 4 + wix nc (pwid kind) part j k)) := by
            refine loopUp (pwid kind) (fun k hk7 hn7 => ?_)
            intro S3 y hy u1 u2 u3 u4 u5
            have hpj : p < 4 ∧ j < 4 := by omega
            refine w_iload d_q_readWords_42 rfl ?_
            refine w_aload_n d_q_readWords_44 rfl ?_
            refine w_getR d_q_readWords_45 FL_q_33 (by decide) (rfl) (rfl) ?_
            refine w_getIV (v := kind) d_q_readWords_48 FL_q_118 (by decide) (rfl) (rfl) ((u2 4 4 (by decide)).trans hk) ?_
            refine w_callS1 (N := M_q_partWidthOf) d_q_readWords_51 LK_q_121 MF_q_partWidthOf MS_q_partWidthOf NP_q_partWidthOf (by decide) rfl (Nat.le_of_ble_eq_true rfl) ?_
            refine Ev.det (c_q_partWidthOf _ _) ?_
            refine w_icmp_geN 90 d_q_readWords_54 (by decide) (by omega) (by omega) (fun h54 => ?_) (fun h54 => ?_)
            · refine w_iincN d_q_readWords_90 rfl ?_
              refine w_goto 28 d_q_readWords_93 (by decide) ?_
              have hkw : k = pwid kind := by omega
              exact hn8 h36 _ _ _ (by rw [hy, hkw, wix_j]) u1 u2 u3 (lt_s u4 (fun z hz => u5 z (by omega)))
            · refine w_aload_n d_q_readWords_57 rfl ?_
              refine w_getR d_q_readWords_58 FL_q_33 (by decide) (rfl) (rfl) ?_
              refine w_getR d_q_readWords_61 FL_q_125 (by decide) (rfl) (rfl) ?_
              refine w_iload_n d_q_readWords_64 rfl ?_
              refine w_iload_n d_q_readWords_65 rfl ?_
              refine w_callS2 (N := M_q_wordRow) d_q_readWords_66 LK_q_128 MF_q_wordRow MS_q_wordRow NP_q_wordRow (by decide) rfl (Nat.le_of_ble_eq_true rfl) ?_
              refine Ev.det (c_q_wordRow _ _ _) ?_
              refine w_aaldN d_q_readWords_69 (by decide) (rfl) (show p * 4 + j < 16 from (by omega)) ?_
              show Wp _ _ _ (.ref (108 + (p * 4 + j)) :: _) _ _
              refine w_iload d_q_readWords_70 rfl ?_
              refine w_aload_n d_q_readWords_72 rfl ?_
              refine w_getR d_q_readWords_73 FL_q_54 (by decide) (rfl) (rfl) ?_
              refine w_iload_n d_q_readWords_76 rfl ?_
              show Wp _ 77 _ _ _ _
              refine w_callV1 (N := M_y_wide) d_q_readWords_77 LK_q_303 MF_y_wide MV_y_wide NP_y_wide (by decide) (by decide) (rfl) rfl rfl (Nat.le_of_ble_eq_true rfl) ?_
              have hwx := wix_lt h23 h36 h54
              refine Ev.det (c_y_wide S3 b (hb_keep hb (fun p => u2 25 p (by decide))) _ (by omega)) ?_
              show Wp _ _ _ (.int (wdN b y) :: _) _ _
              refine w_iastNP d_q_readWords_80 (by omega) (kd_row108 (by omega)) (show k < ln (108 + (p * 4 + j)) by rw [ln_row108 (by omega)]; omega) ?_
              refine w_iincN d_q_readWords_81 rfl ?_
              refine w_iincN d_q_readWords_84 rfl ?_
              refine w_goto 42 d_q_readWords_87 (by decide) ?_
              refine hn7 h54 _ _ (by rw [hy]; unfold wix; omega) u1 (fun a i ha => by rw [put_ne (by omega)]; exact u2 a i ha) (fun q hq u hu z hz => by rw [put_ne (by omega)]; exact u3 q hq u hu z hz) (fun u hu z hz => by rw [put_ne (by omega)]; exact u4 u hu z hz) ?_
              intro z hz
              by_cases hzk : z = k
              · rw [hzk, put_at, hy]
              · rw [put_ne (by omega)]
                exact u5 z (by omega)
          exact hc3 0 (by omega) _ _ hy g1 g2 g3 g4 lt_0
      exact hb2 0 (by omega) _ _ _ hy h1 h2 h3 lt_0
  refine w_aload_n d_q_readWords_0 rfl ?_
  refine w_getR d_q_readWords_1 FL_q_33 (by decide) (rfl) (rfl) ?_
  refine w_getIV (v := (nI nl)) d_q_readWords_4 FL_q_239 (by decide) (rfl) (rfl) (hl) ?_
  refine w_iconst (v := nI 4) d_q_readWords_7 (by decide +kernel) ?_
  refine w_imulN d_q_readWords_8 ?_
  refine w_istore_n d_q_readWords_9 (Nat.le_of_ble_eq_true rfl) ?_
  refine w_iconst (v := nI 0) d_q_readWords_10 (by decide +kernel) ?_
  refine w_istore_n d_q_readWords_11 (Nat.le_of_ble_eq_true rfl) ?_
  exact hk0 0 (by omega) _ _ _ _ (by rw [wix_0]; rfl) rfl (fun _ _ _ => rfl) lt_0
/-- the first m rows of the table are the file's entries -/
def LE (S S' : St) (b : Nat → Nat) (kind : Int32) (nl nc m : Nat) : Prop := S'.2 = S.2 ∧ (∀ a i, ¬ ((124 ≤ a ∧ a < 204) ∨ a = 18 ∨ (a = 5 ∧ i = 1)) → S'.1 a i = S.1 a i) ∧ S'.1 5 1 = nI m ∧ ∀ i, i < m → S'.1 (S.2 i) 3 = nI (prN b (esN b i)) ∧ S'.1 (S.2 i) 4 = nI (lsOf S nl (tv S (cdN b i 0) (cdN b i 1) (cdN b i 2) (cdN b i 3))) ∧
  (∀ k, k < 4 → S'.1 (S.2 i + 20) k = cdN b i k ∧ S'.1 (S.2 i + 40) k = tv S (cdN b i 0) (cdN b i 1) (cdN b i 2) (cdN b i 3) k) ∧ ∀ q, q < parts kind → S'.1 (S.2 i + 60) q = nI (cdOf S kind nc (lfOf S (lsOf S nl (tv S (cdN b i 0) (cdN b i 1) (cdN b i 2) (cdN b i 3))) (tv S (cdN b i 0) (cdN b i 1) (cdN b i 2) (cdN b i 3))) q)
theorem pt_k {b : Nat → Nat} {i k : Nat} (hk : k < 4) : pt (cdN b i 0) (cdN b i 1) (cdN b i 2) (cdN b i 3) k = cdN b i k := by
  match k, hk with
  | 0, _ => rfl
  | 1, _ => rfl
  | 2, _ => rfl
  | 3, _ => rfl
set_option maxRecDepth 100000 in
set_option maxHeartbeats 4000000 in
theorem c_q_readEntries (S : St) (b : Nat → Nat) (hb : ∀ p, p < 250 → S.1 25 p = nI (b p) ∧ b p ≤ 255) (kind : Int32) (nl nc : Nat) (hk : S.1 4 4 = kind) (hl : S.1 4 5 = nI nl) (hl1 : 0 < nl) (hl4 : nl ≤ 4) (hc : S.1 4 6 = nI nc) (hc1 : 0 < nc) (hc4 : nc ≤ 4) (hT : ∀ i, i < 20 → 124 ≤ S.2 i ∧ S.2 i < 144) (hinj : ∀ i j, i < 20 → j < 20 → S.2 i = S.2 j → i = j) (ho : ∀ k, k < 4 → okStep (S.1 9 k)) (he : esN b (b 5) < 250) (h520 : b 5 ≤ 20) (pv : ∀ i, i < b 5 → prN b (esN b i) ≤ 999) (hinc : ∀ i j, i < j → j < b 5 → prN b (esN b i) < prN b (esN b j)) : Ev M_q_readEntries [.ref 0] S (fun v9 S' => v9 = none ∧ LE S S' b kind nl nc (b 5)) := by
  refine Ev.of MF_q_readEntries (all_cat rfl) (Nat.le_of_ble_eq_true rfl) ?_
  show Wp M_q_readEntries 0 [.ref 0, .null] [] _ _
  have h5 := (hb 5 (by decide)).2
  have hk0 : ∀ i, i ≤ b 5 → ∀ (S1 : St), LE S S1 b kind nl nc i → Wp M_q_readEntries 10 [.ref 0, .int (nI i)] [] S1 (fun v9 S' => v9 = none ∧ LE S S' b kind nl nc (b 5)) := by
    refine loopUp (b 5) (fun i hk9 hn9 => ?_)
    intro S1 h1
    have hb1 := hb_keep hb (fun p => h1.2.1 25 p (by omega))
    refine w_iload_n d_q_readEntries_10 rfl ?_
    refine w_aload_n d_q_readEntries_11 rfl ?_
    refine w_getR d_q_readEntries_12 FL_q_54 (by decide) (rfl) (rfl) ?_
    refine w_getR d_q_readEntries_15 FL_q_215 (by decide) (rfl) (rfl) ?_
    refine w_iconst (v := nI 5) d_q_readEntries_18 (by decide +kernel) ?_
    refine w_ialdNV (v := (nI (b 5))) d_q_readEntries_19 (by decide) (rfl) (show 5 < 250 from (by omega)) ((hb1 5 (by decide)).1) ?_
    refine w_icmp_geN 78 d_q_readEntries_20 (by decide) (by omega) (by omega) (fun h20 => ?_) (fun h20 => ?_)
    · refine w_ret (st := []) rfl d_q_readEntries_78 ?_
      have hi9 : i = b 5 := by omega
      exact ⟨rfl, hi9 ▸ h1⟩
    · refine w_aload_n d_q_readEntries_23 rfl ?_
      refine w_aload_n d_q_readEntries_24 rfl ?_
      refine w_getR d_q_readEntries_25 FL_q_54 (by decide) (rfl) (rfl) ?_
      refine w_iload_n d_q_readEntries_28 rfl ?_
      refine w_callV1 (N := M_y_entryId) d_q_readEntries_29 LK_q_306 MF_y_entryId MV_y_entryId NP_y_entryId (by decide) (by decide) (rfl) rfl rfl (Nat.le_of_ble_eq_true rfl) ?_
      have hei : esN b i + 6 ≤ 250 := by have := he; unfold esN at this ⊢; omega
      have hpi := pv i h20
      refine Ev.det (c_y_entryId S1 b hb1 i (by omega)) ?_
      refine w_aload_n d_q_readEntries_32 rfl ?_
      refine w_getR d_q_readEntries_33 FL_q_54 (by decide) (rfl) (rfl) ?_
      refine w_iload_n d_q_readEntries_36 rfl ?_
      refine w_iconst (v := nI 0) d_q_readEntries_37 (by decide +kernel) ?_
      refine w_callV2 (N := M_y_entryCoordinate) d_q_readEntries_38 LK_q_309 MF_y_entryCoordinate MV_y_entryCoordinate NP_y_entryCoordinate (by decide) (by decide) (rfl) rfl rfl (Nat.le_of_ble_eq_true rfl) ?_
      refine Ev.det (c_y_entryCoordinate S1 b hb1 i 0 (by omega)) ?_
      show Wp _ _ _ (.int (cdN b i 0) :: _) _ _
      refine w_aload_n d_q_readEntries_41 rfl ?_
      show Wp _ 42 _ _ _ _
      refine w_getR d_q_readEntries_42 FL_q_54 (by decide) (rfl) (rfl) ?_
      refine w_iload_n d_q_readEntries_45 rfl ?_
      refine w_iconst (v := nI 1) d_q_readEntries_46 (by decide +kernel) ?_
      refine w_callV2 (N := M_y_entryCoordinate) d_q_readEntries_47 LK_q_309 MF_y_entryCoordinate MV_y_entryCoordinate NP_y_entryCoordinate (by decide) (by decide) (rfl) rfl rfl (Nat.le_of_ble_eq_true rfl) ?_
      refine Ev.det (c_y_entryCoordinate S1 b hb1 i 1 (by omega)) ?_
      show Wp _ _ _ (.int (cdN b i 1) :: _) _ _
      refine w_aload_n d_q_readEntries_50 rfl ?_
      refine w_getR d_q_readEntries_51 FL_q_54 (by decide) (rfl) (rfl) ?_
      refine w_iload_n d_q_readEntries_54 rfl ?_
      refine w_iconst (v := nI 2) d_q_readEntries_55 (by decide +kernel) ?_
      refine w_callV2 (N := M_y_entryCoordinate) d_q_readEntries_56 LK_q_309 MF_y_entryCoordinate MV_y_entryCoordinate NP_y_entryCoordinate (by decide) (by decide) (rfl) rfl rfl (Nat.le_of_ble_eq_true rfl) ?_
      refine Ev.det (c_y_entryCoordinate S1 b hb1 i 2 (by omega)) ?_
      show Wp _ _ _ (.int (cdN b i 2) :: _) _ _
      refine w_aload_n d_q_readEntries_59 rfl ?_
      refine w_getR d_q_readEntries_60 FL_q_54 (by decide) (rfl) (rfl) ?_
      refine w_iload_n d_q_readEntries_63 rfl ?_
      show Wp _ 64 _ _ _ _
      refine w_iconst (v := nI 3) d_q_readEntries_64 (by decide +kernel) ?_
      refine w_callV2 (N := M_y_entryCoordinate) d_q_readEntries_65 LK_q_309 MF_y_entryCoordinate MV_y_entryCoordinate NP_y_entryCoordinate (by decide) (by decide) (rfl) rfl rfl (Nat.le_of_ble_eq_true rfl) ?_
      refine Ev.det (c_y_entryCoordinate S1 b hb1 i 3 (by omega)) ?_
      show Wp _ _ _ (.int (cdN b i 3) :: _) _ _
      refine w_callV5 (N := M_q_putEntry) d_q_readEntries_68 LK_q_135 MF_q_putEntry MV_q_putEntry NP_q_putEntry (by decide) (by decide) (rfl) rfl rfl (Nat.le_of_ble_eq_true rfl) ?_
      refine Ev.mono (c_q_putEntry S1 kind nl nc i (nI (prN b (esN b i))) (cdN b i 0) (cdN b i 1) (cdN b i 2) (cdN b i 3) ((h1.2.1 4 4 (by decide)).trans hk) ((h1.2.1 4 5 (by decide)).trans hl) hl1 hl4 ((h1.2.1 4 6 (by decide)).trans hc) hc1 hc4 h1.2.2.1 (by omega) (by rw [h1.1]; exact hT) (by rw [h1.1]; exact fun q hq z => by have := hinj q i (by omega) (by omega) z; omega) (fun k hk => by rw [h1.2.1 9 k (by omega)]; exact ho k hk)) (fun r9 S2 hq => ?_)
      obtain ⟨rfl, p, hpe⟩ := hq
      show Wp _ _ _ (.int _ :: _) _ _
      refine w_pop d_q_readEntries_71 rfl ?_
      refine w_iincN d_q_readEntries_72 rfl ?_
      refine w_goto 10 d_q_readEntries_75 (by decide) ?_
      refine hn9 h20 _ ?_
      obtain ⟨q1, q2, q3, q4, q5, q6, q7, q8, q9, q10⟩ := hpe
      rw [h1.1] at q2 q3 q4 q5 q7 q8 q9 q10
      have hlow : ∀ q, q < i → S1.1 (S.2 q) 3 ≤ nI (prN b (esN b i)) := fun q hq => by
        rw [(h1.2.2.2 q hq).1, nI_leI (by have := pv q (by omega); omega) (by omega)]
        exact Nat.le_of_lt (hinc q i hq h20)
      have hp : p = i := by
        by_cases h : p = i
        · exact h
        · exact absurd (hlow p (by omega)) (q2 p (Nat.le_refl p) (by omega))
      subst hp
      have hTp := hT p (by omega)
      have etv : ∀ a b' c d, tv S1 a b' c d = tv S a b' c d := fun a b' c d => by funext k; unfold tv; rw [h1.2.1 9 k (by omega)]
      have els : ∀ x, lsOf S1 nl x = lsOf S nl x := fun x => lsOf_congr (fun l hl k hk => h1.2.1 _ _ (by omega)) (fun _ _ => rfl)
      refine ⟨?_, fun a j ha => ?_, q6, fun q hq => ?_⟩
      · funext j
        rw [q4 j]
        by_cases hj : j = p
        · rw [if_pos hj, hj]
        · rw [if_neg hj, if_neg (by omega)]
      · rw [q5 a j (by omega)]
        exact h1.2.1 a j ha
      · by_cases hqp : q = p
        · subst hqp
          rw [etv] at q8 q9 q10
          rw [els] at q8 q10
          refine ⟨q7, q8, fun k hk => ⟨by rw [(q9 k hk).1]; exact pt_k hk, (q9 k hk).2⟩, fun z hz => ?_⟩
          rw [q10 z hz]
          refine congrArg nI (cdOf_congr hz (fun j hj k hk => ?_) (fun k hk => ?_))
          · have := parts_le kind
            exact h1.2.1 _ _ (by omega)
          · unfold lfOf
            have := lsOf_lt (S := S) (x := tv S (cdN b q 0) (cdN b q 1) (cdN b q 2) (cdN b q 3)) hl1
            rw [h1.2.1 (104 + lsOf S nl (tv S (cdN b q 0) (cdN b q 1) (cdN b q 2) (cdN b q 3))) k (by omega)]
        · have hTq := hT q (by omega)
          have hne : S.2 q ≠ S.2 p := fun z => hqp (hinj q p (by omega) (by omega) z)
          obtain ⟨z1, z2, z3, z4⟩ := h1.2.2.2 q (by omega)
          refine ⟨by rw [q5 _ _ (by omega)]; exact z1, by rw [q5 _ _ (by omega)]; exact z2, fun k hk => ⟨by rw [q5 _ _ (by omega)]; exact (z3 k hk).1, by rw [q5 _ _ (by omega)]; exact (z3 k hk).2⟩, fun z hz => by rw [q5 _ _ (by omega)]; exact z4 z hz⟩
  refine w_aload_n d_q_readEntries_0 rfl ?_
  refine w_getR d_q_readEntries_1 FL_q_40 (by decide) (rfl) (rfl) ?_
  refine w_iconst (v := nI 0) d_q_readEntries_4 (by decide +kernel) ?_
  refine w_putIP d_q_readEntries_5 FL_q_85 FW_5_1 (by decide) (rfl) (rfl) ?_
  refine w_iconst (v := nI 0) d_q_readEntries_8 (by decide +kernel) ?_
  refine w_istore_n d_q_readEntries_9 (Nat.le_of_ble_eq_true rfl) ?_
  exact hk0 0 (by omega) _ ⟨rfl, fun a i ha => put_ne (by omega), put_at, lt_0⟩
