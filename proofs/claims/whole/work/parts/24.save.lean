/-! Writing the file: g is what it shall hold. -/
/-- the number of a word's coordinate among all -/
def wix (nc w part j k : Nat) : Nat := (part * nc + j) * w + k
def e0N (nl nc np w : Nat) : Nat := 10 + 8 * nl + 2 * (np * nc * w)
theorem wix_lt {nc w np part j k : Nat} (hp : part < np) (hj : j < nc) (hk : k < w) : wix nc w part j k < np * nc * w := by
  unfold wix
  have h1 : part * nc + j + 1 ≤ np * nc := by
    have := Nat.mul_le_mul_right nc (show part + 1 ≤ np from hp)
    rw [Nat.succ_mul] at this
    omega
  have h2 := Nat.mul_le_mul_right w h1
  rw [Nat.succ_mul] at h2
  omega
theorem wix_j (nc w part j : Nat) : wix nc w part j w = wix nc w part (j + 1) 0 := by
  unfold wix
  rw [← Nat.add_assoc, Nat.succ_mul]
  rfl
theorem wix_p (nc w part : Nat) : wix nc w part nc 0 = wix nc w (part + 1) 0 0 := by
  unfold wix
  rw [Nat.succ_mul]
  rfl
theorem wix_0 (nc w : Nat) : wix nc w 0 0 0 = 0 := by unfold wix; rw [Nat.zero_mul, Nat.zero_add, Nat.zero_mul]
theorem wix_e (nc w np : Nat) : wix nc w np 0 0 = np * nc * w := by unfold wix; rw [Nat.add_zero, Nat.add_zero]
theorem pw_mul (kind : Int32) : parts kind * pwid kind ≤ 4 := by
  unfold parts pwid
  by_cases h0 : kind = 0
  · rw [if_pos h0, if_pos h0]; decide
  · rw [if_neg h0, if_neg h0]
    by_cases h1 : kind = 1
    · rw [if_pos h1, if_pos h1]; decide
    · rw [if_neg h1, if_neg h1]; decide
theorem pw_bd (kind : Int32) {nc : Nat} (hc : nc ≤ 4) : parts kind * nc * pwid kind ≤ 16 := by
  rw [Nat.mul_right_comm]
  exact Nat.le_trans (Nat.mul_le_mul (pw_mul kind) hc) (by decide)
def FG (g : Nat → Int32) (kind : Int32) (nl nc m : Nat) (t : Nat → Int32) (C : Nat → Nat → Int32) (V : Nat → Nat → Nat → Int32) (ids : Nat → Int32) (P : Nat → Nat → Int32) : Prop :=
  (g 0 = nI 86 ∧ g 1 = nI 1 ∧ g 2 = kind ∧ g 3 = nI nl ∧ g 4 = nI nc ∧ g 5 = nI m ∧ ∀ k, k < 4 → g (6 + k) = t k + nI 4) ∧
  (∀ l, l < nl → ∀ k, k < 4 → g (10 + 2 * (4 * l + k)) = fby (C l k + nI 300) 0 ∧ g (10 + 2 * (4 * l + k) + 1) = fby (C l k + nI 300) 1) ∧
  (∀ part, part < parts kind → ∀ j, j < nc → ∀ k, k < pwid kind → g (10 + 8 * nl + 2 * wix nc (pwid kind) part j k) = fby (V part j k + nI 300) 0 ∧ g (10 + 8 * nl + 2 * wix nc (pwid kind) part j k + 1) = fby (V part j k + nI 300) 1) ∧
  ∀ i, i < m → g (e0N nl nc (parts kind) (pwid kind) + 6 * i) = fby (ids i) 0 ∧ g (e0N nl nc (parts kind) (pwid kind) + 6 * i + 1) = fby (ids i) 1 ∧ ∀ k, k < 4 → g (e0N nl nc (parts kind) (pwid kind) + 6 * i + 2 + k) = P i k + nI 100
set_option maxRecDepth 100000 in
set_option maxHeartbeats 4000000 in
theorem c_q_writeHead (S : St) (g : Nat → Int32) (kind : Int32) (nl nc m : Nat) (hk : S.1 4 4 = kind) (hl : S.1 4 5 = nI nl) (hl4 : nl ≤ 4) (hc : S.1 4 6 = nI nc) (hc4 : nc ≤ 4) (hm : S.1 5 1 = nI m) (hm20 : m ≤ 20) (hG : FG g kind nl nc m (fun k => S.1 9 k) (fun l k => S.1 (104 + l) k) (fun p j k => S.1 (108 + (p * 4 + j)) k) (fun i => S.1 (S.2 i) 3) (fun i k => S.1 (S.2 i + 20) k)) : Ev M_q_writeHead [.ref 0] (wrt S g 0) ((fun v9 S' => v9 = none ∧ S' = wrt S g 10)) := by
  refine Ev.of MF_q_writeHead (all_cat rfl) (Nat.le_of_ble_eq_true rfl) ?_
  show Wp M_q_writeHead 0 [.ref 0, .null] [] _ _
  obtain ⟨⟨h0, h1, h2, h3, h4, h5, h6⟩, -⟩ := hG
  have hk0 : ∀ k, k ≤ 4 → ∀ (S1 : St), S1 = wrt S g (6 + k) → Wp M_q_writeHead 75 [.ref 0, .int (nI k)] [] S1 (fun v9 S' => v9 = none ∧ S' = wrt S g 10) := by
    refine loopUp (4) (fun k hk9 hn9 => ?_)
    intro S1 hS
    refine w_iload_n d_q_writeHead_75 rfl ?_
    refine w_iconst (v := nI 4) d_q_writeHead_76 (by decide +kernel) ?_
    refine w_icmp_geN 104 d_q_writeHead_77 (by decide) (by omega) (by omega) (fun h77 => ?_) (fun h77 => ?_)
    · refine w_ret (st := []) rfl d_q_writeHead_104 ?_
      obtain rfl : k = 4 := by omega
      exact ⟨rfl, hS⟩
    · refine w_aload_n d_q_writeHead_80 rfl ?_
      refine w_getR d_q_writeHead_81 FL_q_54 (by decide) (rfl) (rfl) ?_
      refine w_aload_n d_q_writeHead_84 rfl ?_
      refine w_getR d_q_writeHead_85 FL_q_10 (by decide) (rfl) (rfl) ?_
      refine w_getR d_q_writeHead_88 FL_q_291 (by decide) (rfl) (rfl) ?_
      refine w_iload_n d_q_writeHead_91 rfl ?_
      refine w_ialdNV (v := ((S.1 9 k))) d_q_writeHead_92 (by decide) (rfl) (show k < 4 from (by omega)) (by rw [hS, wrt_ne (by omega) (by omega)]) ?_
      refine w_iconst (v := nI 4) d_q_writeHead_93 (by decide +kernel) ?_
      refine w_iadd d_q_writeHead_94 ?_
      refine w_callV1 (N := M_y_put) d_q_writeHead_95 LK_q_212 MF_y_put MV_y_put NP_y_put (by decide) (by decide) (rfl) rfl rfl (Nat.le_of_ble_eq_true rfl) ?_
      subst hS
      refine Ev.det (c_put S g (6 + k) _ (by omega) (h6 k h77).symm) ?_
      refine w_iincN d_q_writeHead_98 rfl ?_
      show Wp _ 101 _ _ _ _
      refine w_goto 75 d_q_writeHead_101 (by decide) ?_
      exact hn9 h77 _ rfl
  refine w_aload_n d_q_writeHead_0 rfl ?_
  refine w_getR d_q_writeHead_1 FL_q_54 (by decide) (rfl) (rfl) ?_
  refine w_bipush (v := nI 86) d_q_writeHead_4 (by decide +kernel) ?_
  refine w_callV1 (N := M_y_put) d_q_writeHead_6 LK_q_212 MF_y_put MV_y_put NP_y_put (by decide) (by decide) (rfl) rfl rfl (Nat.le_of_ble_eq_true rfl) ?_
  refine Ev.det (c_put S g (0) _ (by omega) (h0.symm)) ?_
  refine w_aload_n d_q_writeHead_9 rfl ?_
  refine w_getR d_q_writeHead_10 FL_q_54 (by decide) (rfl) (rfl) ?_
  refine w_iconst (v := nI 1) d_q_writeHead_13 (by decide +kernel) ?_
  refine w_callV1 (N := M_y_put) d_q_writeHead_14 LK_q_212 MF_y_put MV_y_put NP_y_put (by decide) (by decide) (rfl) rfl rfl (Nat.le_of_ble_eq_true rfl) ?_
  refine Ev.det (c_put S g (1) _ (by omega) (h1.symm)) ?_
  refine w_aload_n d_q_writeHead_17 rfl ?_
  refine w_getR d_q_writeHead_18 FL_q_54 (by decide) (rfl) (rfl) ?_
  refine w_aload_n d_q_writeHead_21 rfl ?_
  show Wp _ 22 _ _ _ _
  refine w_getR d_q_writeHead_22 FL_q_33 (by decide) (rfl) (rfl) ?_
  refine w_getIV (v := kind) d_q_writeHead_25 FL_q_118 (by decide) (rfl) (rfl) (by rw [wrt_ne (by decide) (by decide)]; exact hk) ?_
  refine w_callV1 (N := M_y_put) d_q_writeHead_28 LK_q_212 MF_y_put MV_y_put NP_y_put (by decide) (by decide) (rfl) rfl rfl (Nat.le_of_ble_eq_true rfl) ?_
  refine Ev.det (c_put S g (2) _ (by omega) (h2.symm)) ?_
  refine w_aload_n d_q_writeHead_31 rfl ?_
  refine w_getR d_q_writeHead_32 FL_q_54 (by decide) (rfl) (rfl) ?_
  refine w_aload_n d_q_writeHead_35 rfl ?_
  refine w_getR d_q_writeHead_36 FL_q_33 (by decide) (rfl) (rfl) ?_
  refine w_getIV (v := (nI nl)) d_q_writeHead_39 FL_q_239 (by decide) (rfl) (rfl) (by rw [wrt_ne (by decide) (by decide)]; exact hl) ?_
  refine w_callV1 (N := M_y_put) d_q_writeHead_42 LK_q_212 MF_y_put MV_y_put NP_y_put (by decide) (by decide) (rfl) rfl rfl (Nat.le_of_ble_eq_true rfl) ?_
  refine Ev.det (c_put S g (3) _ (by omega) (h3.symm)) ?_
  refine w_aload_n d_q_writeHead_45 rfl ?_
  refine w_getR d_q_writeHead_46 FL_q_54 (by decide) (rfl) (rfl) ?_
  refine w_aload_n d_q_writeHead_49 rfl ?_
  show Wp _ 50 _ _ _ _
  refine w_getR d_q_writeHead_50 FL_q_33 (by decide) (rfl) (rfl) ?_
  refine w_getIV (v := (nI nc)) d_q_writeHead_53 FL_q_260 (by decide) (rfl) (rfl) (by rw [wrt_ne (by decide) (by decide)]; exact hc) ?_
  refine w_callV1 (N := M_y_put) d_q_writeHead_56 LK_q_212 MF_y_put MV_y_put NP_y_put (by decide) (by decide) (rfl) rfl rfl (Nat.le_of_ble_eq_true rfl) ?_
  refine Ev.det (c_put S g (4) _ (by omega) (h4.symm)) ?_
  refine w_aload_n d_q_writeHead_59 rfl ?_
  refine w_getR d_q_writeHead_60 FL_q_54 (by decide) (rfl) (rfl) ?_
  refine w_aload_n d_q_writeHead_63 rfl ?_
  refine w_getR d_q_writeHead_64 FL_q_40 (by decide) (rfl) (rfl) ?_
  refine w_getIV (v := (nI m)) d_q_writeHead_67 FL_q_85 (by decide) (rfl) (rfl) (by rw [wrt_ne (by decide) (by decide)]; exact hm) ?_
  refine w_callV1 (N := M_y_put) d_q_writeHead_70 LK_q_212 MF_y_put MV_y_put NP_y_put (by decide) (by decide) (rfl) rfl rfl (Nat.le_of_ble_eq_true rfl) ?_
  refine Ev.det (c_put S g (5) _ (by omega) (h5.symm)) ?_
  refine w_iconst (v := nI 0) d_q_writeHead_73 (by decide +kernel) ?_
  refine w_istore_n d_q_writeHead_74 (Nat.le_of_ble_eq_true rfl) ?_
  exact hk0 0 (by omega) _ rfl
set_option maxRecDepth 100000 in
set_option maxHeartbeats 4000000 in
theorem c_q_writeCentres (S : St) (g : Nat → Int32) (kind : Int32) (nl nc m : Nat) (hk : S.1 4 4 = kind) (hl : S.1 4 5 = nI nl) (hl4 : nl ≤ 4) (hc : S.1 4 6 = nI nc) (hc4 : nc ≤ 4) (hm : S.1 5 1 = nI m) (hm20 : m ≤ 20) (hG : FG g kind nl nc m (fun k => S.1 9 k) (fun l k => S.1 (104 + l) k) (fun p j k => S.1 (108 + (p * 4 + j)) k) (fun i => S.1 (S.2 i) 3) (fun i k => S.1 (S.2 i + 20) k)) : Ev M_q_writeCentres [.ref 0] (wrt S g 10) ((fun v9 S' => v9 = none ∧ S' = wrt S g (10 + 8 * nl))) := by
  refine Ev.of MF_q_writeCentres (all_cat rfl) (Nat.le_of_ble_eq_true rfl) ?_
  show Wp M_q_writeCentres 0 [.ref 0, .null, .null] [] _ _
  have hk0 : ∀ l, l ≤ nl → ∀ (S1 : St) (x2 : Value), S1 = wrt S g (10 + 8 * l) → Wp M_q_writeCentres 2 [.ref 0, .int (nI l), x2] [] S1 (fun v9 S' => v9 = none ∧ S' = wrt S g (10 + 8 * nl)) := by
    refine loopUp (nl) (fun l hk9 hn9 => ?_)
    intro S1 x2 hS
    refine w_iload_n d_q_writeCentres_2 rfl ?_
    refine w_aload_n d_q_writeCentres_3 rfl ?_
    refine w_getR d_q_writeCentres_4 FL_q_33 (by decide) (rfl) (rfl) ?_
    refine w_getIV (v := (nI nl)) d_q_writeCentres_7 FL_q_239 (by decide) (rfl) (rfl) (by rw [hS, wrt_ne (by omega) (by omega)]; exact hl) ?_
    refine w_icmp_geN 54 d_q_writeCentres_10 (by decide) (by omega) (by omega) (fun h10 => ?_) (fun h10 => ?_)
    · refine w_ret (st := []) rfl d_q_writeCentres_54 ?_
      obtain rfl : l = nl := by omega
      exact ⟨rfl, hS⟩
    · refine w_iconst (v := nI 0) d_q_writeCentres_13 (by decide +kernel) ?_
      refine w_istore_n d_q_writeCentres_14 (Nat.le_of_ble_eq_true rfl) ?_
      have hin : ∀ k, k ≤ 4 → ∀ (S2 : St), S2 = wrt S g (10 + 2 * (4 * l + k)) → Wp M_q_writeCentres 15 [.ref 0, .int (nI l), .int (nI k)] [] S2 (fun v9 S' => v9 = none ∧ S' = wrt S g (10 + 8 * nl)) := by
        refine loopUp (4) (fun k hk8 hn8 => ?_)
        intro S2 hS2
        refine w_iload_n d_q_writeCentres_15 rfl ?_
        refine w_iconst (v := nI 4) d_q_writeCentres_16 (by decide +kernel) ?_
        refine w_icmp_geN 48 d_q_writeCentres_17 (by decide) (by omega) (by omega) (fun h17 => ?_) (fun h17 => ?_)
        · refine w_iincN d_q_writeCentres_48 rfl ?_
          refine w_goto 2 d_q_writeCentres_51 (by decide) ?_
          obtain rfl : k = 4 := by omega
          exact hn9 h10 _ _ (by rw [hS2]; exact congrArg (wrt S g) (by omega))
        · refine w_aload_n d_q_writeCentres_20 rfl ?_
          refine w_getR d_q_writeCentres_21 FL_q_54 (by decide) (rfl) (rfl) ?_
          refine w_aload_n d_q_writeCentres_24 rfl ?_
          refine w_getR d_q_writeCentres_25 FL_q_33 (by decide) (rfl) (rfl) ?_
          refine w_getR d_q_writeCentres_28 FL_q_111 (by decide) (rfl) (rfl) ?_
          refine w_iload_n d_q_writeCentres_31 rfl ?_
          refine w_aaldN d_q_writeCentres_32 (by decide) (rfl) (show l < 4 from (by omega)) ?_
          show Wp _ _ _ (.ref (104 + l) :: _) _ _
          refine w_iload_n d_q_writeCentres_33 rfl ?_
          refine w_ialdNV (v := ((S.1 (104 + l) k))) d_q_writeCentres_34 (by omega) (kd_row104 (by omega)) (show k < ln (104 + l) by rw [ln_row104 (by omega)]; omega) (by rw [hS2, wrt_ne (by omega) (by omega)]) ?_
          refine w_sipush (v := nI 300) d_q_writeCentres_35 (by decide +kernel) ?_
          refine w_iadd d_q_writeCentres_38 ?_
          show Wp _ 39 _ _ _ _
          refine w_callV1 (N := M_y_putPair) d_q_writeCentres_39 LK_q_294 MF_y_putPair MV_y_putPair NP_y_putPair (by decide) (by decide) (rfl) rfl rfl (Nat.le_of_ble_eq_true rfl) ?_
          subst hS2
          refine Ev.det (c_y_putPair S g (10 + 2 * (4 * l + k)) _ (by omega) (hG.2.1 l h10 k h17 |>.1).symm (hG.2.1 l h10 k h17 |>.2).symm _ rfl) ?_
          refine w_iincN d_q_writeCentres_42 rfl ?_
          refine w_goto 15 d_q_writeCentres_45 (by decide) ?_
          exact hn8 h17 _ (congrArg (wrt S g) (by omega))
      exact hin 0 (by omega) _ (by rw [hS]; exact congrArg (wrt S g) (by omega))
  refine w_iconst (v := nI 0) d_q_writeCentres_0 (by decide +kernel) ?_
  refine w_istore_n d_q_writeCentres_1 (Nat.le_of_ble_eq_true rfl) ?_
  exact hk0 0 (by omega) _ _ rfl
set_option maxRecDepth 100000 in
set_option maxHeartbeats 4000000 in
theorem c_q_writeWords (S : St) (g : Nat → Int32) (kind : Int32) (nl nc m : Nat) (hk : S.1 4 4 = kind) (hl : S.1 4 5 = nI nl) (hl4 : nl ≤ 4) (hc : S.1 4 6 = nI nc) (hc4 : nc ≤ 4) (hm : S.1 5 1 = nI m) (hm20 : m ≤ 20) (hG : FG g kind nl nc m (fun k => S.1 9 k) (fun l k => S.1 (104 + l) k) (fun p j k => S.1 (108 + (p * 4 + j)) k) (fun i => S.1 (S.2 i) 3) (fun i k => S.1 (S.2 i + 20) k)) : Ev M_q_writeWords [.ref 0] (wrt S g (10 + 8 * nl)) ((fun v9 S' => v9 = none ∧ S' = wrt S g (e0N nl nc (parts kind) (pwid kind)))) := by
  refine Ev.of MF_q_writeWords (all_cat rfl) (Nat.le_of_ble_eq_true rfl) ?_
  show Wp M_q_writeWords 0 [.ref 0, .null, .null, .null] [] _ _
  have hpar := parts_le kind
  have hpwl := pwid_le kind
  have hbd := pw_bd kind hc4
  have hk0 : ∀ p, p ≤ parts kind → ∀ (S1 : St) (x2 : Value) (x3 : Value), S1 = wrt S g (10 + 8 * nl + 2 * wix nc (pwid kind) p 0 0) → Wp M_q_writeWords 2 [.ref 0, .int (nI p), x2, x3] [] S1 (fun v9 S' => v9 = none ∧ S' = wrt S g (e0N nl nc (parts kind) (pwid kind))) := by
    refine loopUp (parts kind) (fun p hk9 hn9 => ?_)
    intro S1 x2 x3 hS
    refine w_iload_n d_q_writeWords_2 rfl ?_
    refine w_aload_n d_q_writeWords_3 rfl ?_
    refine w_getR d_q_writeWords_4 FL_q_33 (by decide) (rfl) (rfl) ?_
    refine w_getIV (v := kind) d_q_writeWords_7 FL_q_118 (by decide) (rfl) (rfl) (by rw [hS, wrt_ne (by omega) (by omega)]; exact hk) ?_
    refine w_callS1 (N := M_q_partsOf) d_q_writeWords_10 LK_q_257 MF_q_partsOf MS_q_partsOf NP_q_partsOf (by decide) rfl (Nat.le_of_ble_eq_true rfl) ?_
    refine Ev.det (c_q_partsOf _ _) ?_
    refine w_icmp_geN 89 d_q_writeWords_13 (by decide) (by omega) (by omega) (fun h13 => ?_) (fun h13 => ?_)
    · refine w_ret (st := []) rfl d_q_writeWords_89 ?_
      have hpp : p = parts kind := by omega
      exact ⟨rfl, by rw [hS, hpp, wix_e]; rfl⟩
    · refine w_iconst (v := nI 0) d_q_writeWords_16 (by decide +kernel) ?_
      refine w_istore_n d_q_writeWords_17 (Nat.le_of_ble_eq_true rfl) ?_
      have hb2 : ∀ j, j ≤ nc → ∀ (S2 : St) (x3 : Value), S2 = wrt S g (10 + 8 * nl + 2 * wix nc (pwid kind) p j 0) → Wp M_q_writeWords 18 [.ref 0, .int (nI p), .int (nI j), x3] [] S2 (fun v9 S' => v9 = none ∧ S' = wrt S g (e0N nl nc (parts kind) (pwid kind))) := by
        refine loopUp (nc) (fun j hk8 hn8 => ?_)
        intro S2 x3 hS2
        refine w_iload_n d_q_writeWords_18 rfl ?_
        refine w_aload_n d_q_writeWords_19 rfl ?_
        refine w_getR d_q_writeWords_20 FL_q_33 (by decide) (rfl) (rfl) ?_
        refine w_getIV (v := (nI nc)) d_q_writeWords_23 FL_q_260 (by decide) (rfl) (rfl) (by rw [hS2, wrt_ne (by omega) (by omega)]; exact hc) ?_
        refine w_icmp_geN 83 d_q_writeWords_26 (by decide) (by omega) (by omega) (fun h26 => ?_) (fun h26 => ?_)
        · refine w_iincN d_q_writeWords_83 rfl ?_
          refine w_goto 2 d_q_writeWords_86 (by decide) ?_
          have hjn : j = nc := by omega
          exact hn9 h13 _ _ _ (by rw [hS2, hjn, wix_p])
        · refine w_iconst (v := nI 0) d_q_writeWords_29 (by decide +kernel) ?_
          refine w_istore_n d_q_writeWords_30 (Nat.le_of_ble_eq_true rfl) ?_
          have hc3 : ∀ k, k ≤ pwid kind → ∀ (S3 : St), S3 = wrt S g (10 + 8 * nl + 2 * wix nc (pwid kind) p j k) → Wp M_q_writeWords 31 [.ref 0, .int (nI p), .int (nI j), .int (nI k)] [] S3 (fun v9 S' => v9 = none ∧ S' = wrt S g (e0N nl nc (parts kind) (pwid kind))) := by
            refine loopUp (pwid kind) (fun k hk7 hn7 => ?_)
            intro S3 hS3
            refine w_iload_n d_q_writeWords_31 rfl ?_
            refine w_aload_n d_q_writeWords_32 rfl ?_
            refine w_getR d_q_writeWords_33 FL_q_33 (by decide) (rfl) (rfl) ?_
            refine w_getIV (v := kind) d_q_writeWords_36 FL_q_118 (by decide) (rfl) (rfl) (by rw [hS3, wrt_ne (by omega) (by omega)]; exact hk) ?_
            refine w_callS1 (N := M_q_partWidthOf) d_q_writeWords_39 LK_q_121 MF_q_partWidthOf MS_q_partWidthOf NP_q_partWidthOf (by decide) rfl (Nat.le_of_ble_eq_true rfl) ?_
            refine Ev.det (c_q_partWidthOf _ _) ?_
            refine w_icmp_geN 77 d_q_writeWords_42 (by decide) (by omega) (by omega) (fun h42 => ?_) (fun h42 => ?_)
            · refine w_iincN d_q_writeWords_77 rfl ?_
              refine w_goto 18 d_q_writeWords_80 (by decide) ?_
              have hkw : k = pwid kind := by omega
              exact hn8 h26 _ _ (by rw [hS3, hkw, wix_j])
            · refine w_aload_n d_q_writeWords_45 rfl ?_
              refine w_getR d_q_writeWords_46 FL_q_54 (by decide) (rfl) (rfl) ?_
              refine w_aload_n d_q_writeWords_49 rfl ?_
              refine w_getR d_q_writeWords_50 FL_q_33 (by decide) (rfl) (rfl) ?_
              refine w_getR d_q_writeWords_53 FL_q_125 (by decide) (rfl) (rfl) ?_
              refine w_iload_n d_q_writeWords_56 rfl ?_
              refine w_iload_n d_q_writeWords_57 rfl ?_
              refine w_callS2 (N := M_q_wordRow) d_q_writeWords_58 LK_q_128 MF_q_wordRow MS_q_wordRow NP_q_wordRow (by decide) rfl (Nat.le_of_ble_eq_true rfl) ?_
              refine Ev.det (c_q_wordRow _ _ _) ?_
              refine w_aaldN d_q_writeWords_61 (by decide) (rfl) (show p * 4 + j < 16 from (by omega)) ?_
              show Wp _ _ _ (.ref (108 + (p * 4 + j)) :: _) _ _
              refine w_iload_n d_q_writeWords_62 rfl ?_
              refine w_ialdNV (v := ((S.1 (108 + (p * 4 + j)) k))) d_q_writeWords_63 (by omega) (kd_row108 (by omega)) (show k < ln (108 + (p * 4 + j)) by rw [ln_row108 (by omega)]; omega) (by rw [hS3, wrt_ne (by omega) (by omega)]) ?_
              show Wp _ 64 _ _ _ _
              refine w_sipush (v := nI 300) d_q_writeWords_64 (by decide +kernel) ?_
              refine w_iadd d_q_writeWords_67 ?_
              refine w_callV1 (N := M_y_putPair) d_q_writeWords_68 LK_q_294 MF_y_putPair MV_y_putPair NP_y_putPair (by decide) (by decide) (rfl) rfl rfl (Nat.le_of_ble_eq_true rfl) ?_
              subst hS3
              have hwx := wix_lt h13 h26 h42
              refine Ev.det (c_y_putPair S g (10 + 8 * nl + 2 * wix nc (pwid kind) p j k) _ (by omega) ((hG.2.2.1 p h13 j h26 k h42).1).symm ((hG.2.2.1 p h13 j h26 k h42).2).symm _ rfl) ?_
              refine w_iincN d_q_writeWords_71 rfl ?_
              refine w_goto 31 d_q_writeWords_74 (by decide) ?_
              exact hn7 h42 _ (congrArg (wrt S g) (by unfold wix; omega))
          exact hc3 0 (by omega) _ hS2
      exact hb2 0 (by omega) _ _ hS
  refine w_iconst (v := nI 0) d_q_writeWords_0 (by decide +kernel) ?_
  refine w_istore_n d_q_writeWords_1 (Nat.le_of_ble_eq_true rfl) ?_
  exact hk0 0 (by omega) _ _ _ (by rw [wix_0]; rfl)
set_option maxRecDepth 100000 in
set_option maxHeartbeats 4000000 in
theorem c_q_writeEntries (S : St) (g : Nat → Int32) (kind : Int32) (nl nc m : Nat) (hk : S.1 4 4 = kind) (hl : S.1 4 5 = nI nl) (hl4 : nl ≤ 4) (hc : S.1 4 6 = nI nc) (hc4 : nc ≤ 4) (hm : S.1 5 1 = nI m) (hm20 : m ≤ 20) (hG : FG g kind nl nc m (fun k => S.1 9 k) (fun l k => S.1 (104 + l) k) (fun p j k => S.1 (108 + (p * 4 + j)) k) (fun i => S.1 (S.2 i) 3) (fun i k => S.1 (S.2 i + 20) k)) (hT : ∀ i, i < 20 → 124 ≤ S.2 i ∧ S.2 i < 144) : Ev M_q_writeEntries [.ref 0] (wrt S g (e0N nl nc (parts kind) (pwid kind))) ((fun v9 S' => v9 = none ∧ S' = wrt S g (e0N nl nc (parts kind) (pwid kind) + 6 * m))) := by
  refine Ev.of MF_q_writeEntries (all_cat rfl) (Nat.le_of_ble_eq_true rfl) ?_
  show Wp M_q_writeEntries 0 [.ref 0, .null, .null, .null] [] _ _
  have hbd := pw_bd kind hc4
  have he0 : e0N nl nc (parts kind) (pwid kind) ≤ 74 := by unfold e0N; omega
  have hk0 : ∀ i, i ≤ m → ∀ (S1 : St) (x2 : Value) (x3 : Value), S1 = wrt S g (e0N nl nc (parts kind) (pwid kind) + 6 * i) → Wp M_q_writeEntries 2 [.ref 0, .int (nI i), x2, x3] [] S1 (fun v9 S' => v9 = none ∧ S' = wrt S g (e0N nl nc (parts kind) (pwid kind) + 6 * m)) := by
    refine loopUp (m) (fun i hk9 hn9 => ?_)
    intro S1 x2 x3 hS
    refine w_iload_n d_q_writeEntries_2 rfl ?_
    refine w_aload_n d_q_writeEntries_3 rfl ?_
    refine w_getR d_q_writeEntries_4 FL_q_40 (by decide) (rfl) (rfl) ?_
    refine w_getIV (v := (nI m)) d_q_writeEntries_7 FL_q_85 (by decide) (rfl) (rfl) (by rw [hS, wrt_ne (by omega) (by omega)]; exact hm) ?_
    refine w_icmp_geN 69 d_q_writeEntries_10 (by decide) (by omega) (by omega) (fun h10 => ?_) (fun h10 => ?_)
    · refine w_ret (st := []) rfl d_q_writeEntries_69 ?_
      obtain rfl : i = m := by omega
      exact ⟨rfl, hS⟩
    · refine w_aload_n d_q_writeEntries_13 rfl ?_
      refine w_getR d_q_writeEntries_14 FL_q_40 (by decide) (rfl) (rfl) ?_
      refine w_getR d_q_writeEntries_17 FL_q_142 (by decide) (rfl) (rfl) ?_
      refine w_iload_n d_q_writeEntries_20 rfl ?_
      refine w_ealdNV (b := ((S.2 i))) d_q_writeEntries_21 (by omega) (by rw [hS]; rfl) ?_
      refine w_astore_n d_q_writeEntries_22 (Nat.le_of_ble_eq_true rfl) ?_
      refine w_aload_n d_q_writeEntries_23 rfl ?_
      refine w_getR d_q_writeEntries_24 FL_q_54 (by decide) (rfl) (rfl) ?_
      refine w_aload_n d_q_writeEntries_27 rfl ?_
      refine w_getIV (v := ((S.1 (S.2 i) 3))) d_q_writeEntries_28 FL_q_297 (by have := hT i (by omega); omega) (kd_ent ((hT i (by omega)).1) ((hT i (by omega)).2)) (fref_entI ((hT i (by omega)).1) (by decide)) (by rw [hS, wrt_ne (by have := hT i (by omega); omega) (by have := hT i (by omega); omega)]) ?_
      refine w_callV1 (N := M_y_putPair) d_q_writeEntries_31 LK_q_294 MF_y_putPair MV_y_putPair NP_y_putPair (by decide) (by decide) (rfl) rfl rfl (Nat.le_of_ble_eq_true rfl) ?_
      subst hS
      refine Ev.det (c_y_putPair S g (e0N nl nc (parts kind) (pwid kind) + 6 * i) _ (by omega) ((hG.2.2.2 i h10).1).symm ((hG.2.2.2 i h10).2.1).symm _ rfl) ?_
      show Wp _ 34 _ _ _ _
      refine w_iconst (v := nI 0) d_q_writeEntries_34 (by decide +kernel) ?_
      refine w_istore_n d_q_writeEntries_35 (Nat.le_of_ble_eq_true rfl) ?_
      have hin : ∀ k, k ≤ 4 → ∀ (S2 : St), S2 = wrt S g (e0N nl nc (parts kind) (pwid kind) + 6 * i + 2 + k) → Wp M_q_writeEntries 36 [.ref 0, .int (nI i), .ref ((S.2 i)), .int (nI k)] [] S2 (fun v9 S' => v9 = none ∧ S' = wrt S g (e0N nl nc (parts kind) (pwid kind) + 6 * m)) := by
        refine loopUp (4) (fun k hk8 hn8 => ?_)
        intro S2 hS2
        have hTi := hT i (by omega)
        refine w_iload_n d_q_writeEntries_36 rfl ?_
        refine w_iconst (v := nI 4) d_q_writeEntries_37 (by decide +kernel) ?_
        refine w_icmp_geN 63 d_q_writeEntries_38 (by decide) (by omega) (by omega) (fun h38 => ?_) (fun h38 => ?_)
        · refine w_iincN d_q_writeEntries_63 rfl ?_
          refine w_goto 2 d_q_writeEntries_66 (by decide) ?_
          obtain rfl : k = 4 := by omega
          exact hn9 h10 _ _ _ (by rw [hS2]; exact congrArg (wrt S g) (by omega))
        · refine w_aload_n d_q_writeEntries_41 rfl ?_
          refine w_getR d_q_writeEntries_42 FL_q_54 (by decide) (rfl) (rfl) ?_
          refine w_aload_n d_q_writeEntries_45 rfl ?_
          refine w_getR d_q_writeEntries_46 FL_q_283 (by have := hT i (by omega); omega) (kd_ent ((hT i (by omega)).1) ((hT i (by omega)).2)) (fref_ent0 ((hT i (by omega)).1)) ?_
          refine w_iload_n d_q_writeEntries_49 rfl ?_
          refine w_ialdNV (v := ((S.1 (S.2 i + 20) k))) d_q_writeEntries_50 (by omega) (kd_enta (by omega) (by omega)) (by rw [ln_enta (by omega) (by omega)]; omega) (by rw [hS2, wrt_ne (by have := hT i (by omega); omega) (by have := hT i (by omega); omega)]) ?_
          refine w_bipush (v := nI 100) d_q_writeEntries_51 (by decide +kernel) ?_
          refine w_iadd d_q_writeEntries_53 ?_
          refine w_callV1 (N := M_y_put) d_q_writeEntries_54 LK_q_212 MF_y_put MV_y_put NP_y_put (by decide) (by decide) (rfl) rfl rfl (Nat.le_of_ble_eq_true rfl) ?_
          subst hS2
          refine Ev.det (c_put S g (e0N nl nc (parts kind) (pwid kind) + 6 * i + 2 + k) _ (by omega) ((hG.2.2.2 i h10).2.2 k h38).symm) ?_
          refine w_iincN d_q_writeEntries_57 rfl ?_
          refine w_goto 36 d_q_writeEntries_60 (by decide) ?_
          show Wp _ 36 _ _ _ _
          exact hn8 h38 _ rfl
      exact hin 0 (by omega) _ rfl
  refine w_iconst (v := nI 0) d_q_writeEntries_0 (by decide +kernel) ?_
  refine w_istore_n d_q_writeEntries_1 (Nat.le_of_ble_eq_true rfl) ?_
  exact hk0 0 (by omega) _ _ _ rfl
theorem wrt_0 {S : St} {g : Nat → Int32} : wrt S g 0 = put S 7 1 (nI 0) := by unfold wrt; rw [setRow_0]
theorem csN_congr {b c : Nat → Nat} : ∀ {n : Nat}, (∀ p, p < n → b p = c p) → csN b n = csN c n
  | 0, _ => rfl
  | n + 1, h => by
    show csN b n + b n * (n + 1) = csN c n + c n * (n + 1)
    rw [csN_congr (fun p hp => h p (by omega)), h n (by omega)]
set_option maxRecDepth 100000 in
set_option maxHeartbeats 4000000 in
theorem c_q_save (S : St) (g : Nat → Int32) (kind : Int32) (nl nc m : Nat) (hk : S.1 4 4 = kind) (hl : S.1 4 5 = nI nl) (hl4 : nl ≤ 4) (hc : S.1 4 6 = nI nc) (hc4 : nc ≤ 4) (hm : S.1 5 1 = nI m) (hm20 : m ≤ 20) (hG : FG g kind nl nc m (fun k => S.1 9 k) (fun l k => S.1 (104 + l) k) (fun p j k => S.1 (108 + (p * 4 + j)) k) (fun i => S.1 (S.2 i) 3) (fun i k => S.1 (S.2 i + 20) k)) (hT : ∀ i, i < 20 → 124 ≤ S.2 i ∧ S.2 i < 144) (bo bn : Nat → Nat) (hbo : ∀ p, p < 250 → S.1 25 p = nI (bo p) ∧ bo p ≤ 255) (hbn : ∀ p, p < (e0N nl nc (parts kind) (pwid kind) + 6 * m) → g p = nI (bn p) ∧ bn p ≤ 255) : Ev M_q_save [.ref 0] S (fun v9 S' => (S.1 4 3 = 0 → v9 = some (.int (-1)) ∧ S' = S) ∧ (¬ S.1 4 3 = 0 → v9 = some (.int (nI ((e0N nl nc (parts kind) (pwid kind) + 6 * m) + 1))) ∧ S' = put (put (wrt S g (e0N nl nc (parts kind) (pwid kind) + 6 * m)) 25 (e0N nl nc (parts kind) (pwid kind) + 6 * m) (nI (csN bn (e0N nl nc (parts kind) (pwid kind) + 6 * m) % 251))) 7 1 (nI ((e0N nl nc (parts kind) (pwid kind) + 6 * m) + 1)))) := by
  refine Ev.of MF_q_save (all_cat rfl) (Nat.le_of_ble_eq_true rfl) ?_
  show Wp M_q_save 0 [.ref 0] [] _ _
  have hbd := pw_bd kind hc4
  have he0 : e0N nl nc (parts kind) (pwid kind) ≤ 74 := by unfold e0N; omega
  refine w_aload_n d_q_save_0 rfl ?_
  refine w_getR d_q_save_1 FL_q_33 (by decide) (rfl) (rfl) ?_
  refine w_getI d_q_save_4 FL_q_62 (by decide) (rfl) (rfl) ?_
  refine w_if_ne 12 d_q_save_7 (by decide) (fun h7 => ?_) (fun h7 => ?_)
  · refine w_aload_n d_q_save_12 rfl ?_
    refine w_getR d_q_save_13 FL_q_54 (by decide) (rfl) (rfl) ?_
    refine w_iconst (v := nI 0) d_q_save_16 (by decide +kernel) ?_
    refine w_putIP d_q_save_17 FL_q_194 FW_7_1 (by decide) (rfl) (rfl) ?_
    refine w_aload_n d_q_save_20 rfl ?_
    refine w_callV0 (N := M_q_writeHead) d_q_save_21 LK_q_197 MF_q_writeHead MV_q_writeHead NP_q_writeHead (by decide) (by decide) (rfl) rfl rfl (Nat.le_of_ble_eq_true rfl) ?_
    rw [← wrt_0 (g := g)]
    refine Ev.det (c_q_writeHead S g kind nl nc m hk hl hl4 hc hc4 hm hm20 hG) ?_
    refine w_aload_n d_q_save_24 rfl ?_
    refine w_callV0 (N := M_q_writeCentres) d_q_save_25 LK_q_200 MF_q_writeCentres MV_q_writeCentres NP_q_writeCentres (by decide) (by decide) (rfl) rfl rfl (Nat.le_of_ble_eq_true rfl) ?_
    refine Ev.det (c_q_writeCentres S g kind nl nc m hk hl hl4 hc hc4 hm hm20 hG) ?_
    refine w_aload_n d_q_save_28 rfl ?_
    refine w_callV0 (N := M_q_writeWords) d_q_save_29 LK_q_203 MF_q_writeWords MV_q_writeWords NP_q_writeWords (by decide) (by decide) (rfl) rfl rfl (Nat.le_of_ble_eq_true rfl) ?_
    refine Ev.det (c_q_writeWords S g kind nl nc m hk hl hl4 hc hc4 hm hm20 hG) ?_
    refine w_aload_n d_q_save_32 rfl ?_
    show Wp _ 33 _ _ _ _
    refine w_callV0 (N := M_q_writeEntries) d_q_save_33 LK_q_206 MF_q_writeEntries MV_q_writeEntries NP_q_writeEntries (by decide) (by decide) (rfl) rfl rfl (Nat.le_of_ble_eq_true rfl) ?_
    refine Ev.det (c_q_writeEntries S g kind nl nc m hk hl hl4 hc hc4 hm hm20 hG hT) ?_
    refine w_aload_n d_q_save_36 rfl ?_
    refine w_getR d_q_save_37 FL_q_54 (by decide) (rfl) (rfl) ?_
    refine w_aload_n d_q_save_40 rfl ?_
    refine w_getR d_q_save_41 FL_q_54 (by decide) (rfl) (rfl) ?_
    refine w_aload_n d_q_save_44 rfl ?_
    refine w_getR d_q_save_45 FL_q_54 (by decide) (rfl) (rfl) ?_
    refine w_getIV (v := (nI ((e0N nl nc (parts kind) (pwid kind) + 6 * m)))) d_q_save_48 FL_q_194 (by decide) (rfl) (rfl) (wrt_ln) ?_
    refine w_callV1 (N := M_y_checkOf) d_q_save_51 LK_q_209 MF_y_checkOf MV_y_checkOf NP_y_checkOf (by decide) (by decide) (rfl) rfl rfl (Nat.le_of_ble_eq_true rfl) ?_
    refine Ev.det (c_y_checkOf (wrt S g (e0N nl nc (parts kind) (pwid kind) + 6 * m)) (fun p => if p < (e0N nl nc (parts kind) (pwid kind) + 6 * m) then bn p else bo p) (fun p hp => by
      by_cases hpe : p < (e0N nl nc (parts kind) (pwid kind) + 6 * m)
      · rw [if_pos hpe, wrt_at hpe]
        exact hbn p hpe
      · rw [if_neg hpe]
        have : (wrt S g (e0N nl nc (parts kind) (pwid kind) + 6 * m)).1 25 p = S.1 25 p := by unfold wrt; rw [put_ne (by omega), setRow_hi hpe]
        rw [this]
        exact hbo p hp) (e0N nl nc (parts kind) (pwid kind) + 6 * m) (by omega)) ?_
    rw [csN_congr (fun p hp => if_pos hp)]
    refine w_callV1 (N := M_y_put) d_q_save_54 LK_q_212 MF_y_put MV_y_put NP_y_put (by decide) (by decide) (rfl) rfl rfl (Nat.le_of_ble_eq_true rfl) ?_
    refine Ev.det (c_y_put (wrt S g (e0N nl nc (parts kind) (pwid kind) + 6 * m)) (e0N nl nc (parts kind) (pwid kind) + 6 * m) _ wrt_ln (by omega)) ?_
    refine w_aload_n d_q_save_57 rfl ?_
    refine w_getR d_q_save_58 FL_q_54 (by decide) (rfl) (rfl) ?_
    show Wp _ 61 _ _ _ _
    refine w_getIV (v := (nI ((e0N nl nc (parts kind) (pwid kind) + 6 * m) + 1))) d_q_save_61 FL_q_194 (by decide) (rfl) (rfl) (put_at) ?_
    refine w_iret (st := []) rfl d_q_save_64 ?_
    exact ⟨fun q => absurd q h7, fun _ => ⟨rfl, rfl⟩⟩
  · refine w_iconst (v := -1) d_q_save_10 (by decide +kernel) ?_
    refine w_iret (st := []) rfl d_q_save_11 ?_
    exact ⟨fun _ => ⟨rfl, rfl⟩, fun q => absurd h7 q⟩
