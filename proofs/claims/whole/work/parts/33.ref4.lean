theorem memC_0 {f : Nat → Nat} {c : Nat} : ∀ {n : Nat}, (∀ i, i < n → f i ≠ c) → memC f c n = 0
  | 0, _ => rfl
  | n + 1, h => by
    show memC f c n + (if f n = c then 1 else 0) = 0
    rw [memC_0 (fun i hi => h i (by omega)), if_neg (h n (by omega))]
theorem memC_pos {f : Nat → Nat} {c : Nat} : ∀ {n i : Nat}, i < n → f i = c → 0 < memC f c n
  | 0, i, h, _ => absurd h (by omega)
  | n + 1, i, h, hf => by
    show 0 < memC f c n + (if f n = c then 1 else 0)
    by_cases hi : i = n
    · rw [if_pos (by rw [← hi]; exact hf)]; omega
    · have := memC_pos (n := n) (show i < n by omega) hf
      omega
/-- what the reference's clustering may write -/
def FrK (S S' : St) : Prop := S'.2 = S.2 ∧ ∀ a i, ¬ (a = 41 ∨ a = 42 ∨ a = 43) → S'.1 a i = S.1 a i
theorem FrK.rf (S : St) : FrK S S := ⟨rfl, fun _ _ _ => rfl⟩
theorem FrK.tr {S S1 S2 : St} (h : FrK S S1) (h2 : FrK S1 S2) : FrK S S2 := ⟨h2.1.trans h.1, fun a i q => (h2.2 a i q).trans (h.2 a i q)⟩
theorem FrK.put {S S1 : St} {c i : Nat} {v : Int32} (h : FrK S S1) (hc : c = 41 ∨ c = 42 ∨ c = 43) : FrK S (put S1 c i v) := ⟨h.1, fun a j q => (put_ne (c := c) (i := i) (c' := a) (i' := j) (fun z => q (by rw [z.1]; exact hc))).trans (h.2 a j q)⟩
theorem FrK.seg {S S1 : St} {c o n : Nat} {f : Nat → Int32} (h : FrK S S1) (hc : c = 41 ∨ c = 42 ∨ c = 43) : FrK S (setSeg S1 c o f n) := ⟨h.1, fun a j q => (setSeg_ne (c := c) (d := a) (fun z => q (by rw [z.1]; exact hc))).trans (h.2 a j q)⟩
theorem itM_keep {S S1 : St} (h : FrK S S1) (i k : Nat) : itM S1 i k = itM S i k := h.2 39 _ (by decide)
def MB (S : St) (f : Nat → Nat) (ns : Nat) : Prop := S.1 8 2 = nI ns ∧ ns ≤ 24 ∧ ∀ i, i < ns → S.1 42 i = nI (f i) ∧ f i < 4
set_option maxRecDepth 100000 in
set_option maxHeartbeats 4000000 in
theorem c_m_hasMember (S : St) (f : Nat → Nat) (ns : Nat) (hB : MB S f ns) (c : Nat) (hc : c < 4) : Ev M_m_hasMember [.ref 8, .int (nI c)] S (fun v9 S' => v9 = some (.int (bI (decide (¬ memC f c ns = 0)))) ∧ S' = S) := by
  refine Ev.of MF_m_hasMember (all_cat rfl) (Nat.le_of_ble_eq_true rfl) ?_
  show Wp M_m_hasMember 0 [.ref 8, .int (nI c), .null] [] _ _
  obtain ⟨hn, hn24, hf⟩ := hB
  have hk0 : ∀ i, i ≤ ns → (∀ j, j < i → f j ≠ c) → Wp M_m_hasMember 2 [.ref 8, .int (nI c), .int (nI i)] [] S (fun v9 S' => v9 = some (.int (bI (decide (¬ memC f c ns = 0)))) ∧ S' = S) := by
    refine loopUp (ns) (fun i hk9 hn9 => ?_)
    intro h1
    refine w_iload_n d_m_hasMember_2 rfl ?_
    refine w_aload_n d_m_hasMember_3 rfl ?_
    refine w_getIV (v := (nI ns)) d_m_hasMember_4 FL_m_103 (by decide) (rfl) (rfl) (hn) ?_
    refine w_icmp_geN 28 d_m_hasMember_7 (by decide) (by omega) (by omega) (fun h7 => ?_) (fun h7 => ?_)
    · refine w_iconst (v := nI 0) d_m_hasMember_28 (by decide +kernel) ?_
      refine w_zret (st := []) rfl d_m_hasMember_29 (by decide) ?_
      obtain rfl : i = ns := by omega
      exact ⟨rb0 (decide_eq_false (fun q => q (memC_0 h1))), rfl⟩
    · refine w_aload_n d_m_hasMember_10 rfl ?_
      refine w_getR d_m_hasMember_11 FL_m_59 (by decide) (rfl) (rfl) ?_
      refine w_iload_n d_m_hasMember_14 rfl ?_
      refine w_ialdNV (v := (nI (f i))) d_m_hasMember_15 (by decide) (rfl) (show i < 24 from (by omega)) ((hf i h7).1) ?_
      refine w_iload_n d_m_hasMember_16 rfl ?_
      have hf4 := (hf i h7).2
      refine w_icmp_neN 22 d_m_hasMember_17 (by decide) (by omega) (by omega) (fun h17 => ?_) (fun h17 => ?_)
      · refine w_iincN d_m_hasMember_22 rfl ?_
        refine w_goto 2 d_m_hasMember_25 (by decide) ?_
        exact hn9 h7 (lt_s h1 h17)
      · refine w_iconst (v := nI 1) d_m_hasMember_20 (by decide +kernel) ?_
        refine w_zret (st := []) rfl d_m_hasMember_21 (by decide) ?_
        exact ⟨rb1 (decide_eq_true (by have := memC_pos h7 h17; omega)), rfl⟩
  refine w_iconst (v := nI 0) d_m_hasMember_0 (by decide +kernel) ?_
  refine w_istore_n d_m_hasMember_1 (Nat.le_of_ble_eq_true rfl) ?_
  exact hk0 0 (by omega) lt_0
set_option maxRecDepth 100000 in
set_option maxHeartbeats 4000000 in
theorem c_m_mean (S : St) (f : Nat → Nat) (ns : Nat) (hB : MB S f ns) (c w : Nat) (hc : c < 4) (hw : w ≤ 4) : Ev M_m_mean [.ref 8, .int (nI c), .int (nI w)] S (fun v9 S' => v9 = none ∧ S'.2 = S.2 ∧ (∀ a i, ¬ (a = 43 ∧ i = c) → ¬ (a = 41 ∧ 4 * c ≤ i ∧ i < 4 * c + w) → S'.1 a i = S.1 a i) ∧ S'.1 43 c = nI (memC f c ns) ∧ ∀ k, k < w → S'.1 41 (4 * c + k) = (if 0 < memC f c ns then fdv (sumC f (itM S) c k ns) (nI (memC f c ns)) else S.1 41 (4 * c + k))) := by
  refine Ev.of MF_m_mean (all_cat rfl) (Nat.le_of_ble_eq_true rfl) ?_
  show Wp M_m_mean 0 [.ref 8, .int (nI c), .int (nI w), .null, .null, .null, .null] [] _ _
  have hB0 := hB
  obtain ⟨hn, hn24, hf⟩ := hB
  have hml := memC_le f c ns
  have hk1 : ∀ k, k ≤ w → ∀ (S1 : St) (x5 : Value) (x6 : Value), S1 = setSeg (put S 43 c (nI (memC f c ns))) 41 (4 * c) (fun k => fdv (sumC f (itM S) c k ns) (nI (memC f c ns))) (if 0 < memC f c ns then k else 0) → Wp M_m_mean 49 [.ref 8, .int (nI c), .int (nI w), .int (nI ((memC f c ns))), .int (nI k), x5, x6] [] S1 (fun v9 S' => v9 = none ∧ S'.2 = S.2 ∧ (∀ a i, ¬ (a = 43 ∧ i = c) → ¬ (a = 41 ∧ 4 * c ≤ i ∧ i < 4 * c + w) → S'.1 a i = S.1 a i) ∧ S'.1 43 c = nI (memC f c ns) ∧ ∀ k, k < w → S'.1 41 (4 * c + k) = (if 0 < memC f c ns then fdv (sumC f (itM S) c k ns) (nI (memC f c ns)) else S.1 41 (4 * c + k))) := by
    refine loopUp (w) (fun k hk9 hn9 => ?_)
    intro S1 x5 x6 hS
    have q1 : ∀ a i, ¬ (a = 43 ∧ i = c) → ¬ (a = 41 ∧ 4 * c ≤ i ∧ i < 4 * c + w) → S1.1 a i = S.1 a i := fun a i h1 h2 => by rw [hS, setSeg_ne (by split <;> omega), put_ne h1]
    refine w_iload d_m_mean_49 rfl ?_
    refine w_iload_n d_m_mean_51 rfl ?_
    refine w_icmp_geN 135 d_m_mean_52 (by decide) (by omega) (by omega) (fun h52 => ?_) (fun h52 => ?_)
    · refine w_ret (st := []) rfl d_m_mean_135 ?_
      refine ⟨rfl, by rw [hS]; rfl, q1, by rw [hS, setSeg_ne (by omega), put_at], fun j hj => ?_⟩
      rw [hS]
      have hkw : k = w := by omega
      by_cases hm : 0 < memC f c ns
      · rw [if_pos hm, if_pos hm, hkw, setSeg_at hj]
      · rw [if_neg hm, if_neg hm, setSeg_0, put_ne (by omega)]
    · refine w_iload_n d_m_mean_55 rfl ?_
      refine w_if_leN 135 d_m_mean_56 (by decide) (by omega) (fun h56 => ?_) (fun h56 => ?_)
      · refine w_ret (st := []) rfl d_m_mean_135 ?_
        refine ⟨rfl, by rw [hS]; rfl, q1, by rw [hS, setSeg_ne (by omega), put_at], fun j hj => ?_⟩
        rw [hS]
        have hm : ¬ 0 < memC f c ns := by omega
        rw [if_neg hm, if_neg hm, setSeg_0, put_ne (by omega)]
      · refine w_iconst (v := nI 0) d_m_mean_59 (by decide +kernel) ?_
        refine w_istore d_m_mean_60 (Nat.le_of_ble_eq_true rfl) ?_
        refine w_iconst (v := nI 0) d_m_mean_62 (by decide +kernel) ?_
        refine w_istore d_m_mean_63 (Nat.le_of_ble_eq_true rfl) ?_
        rw [if_pos h56] at hS
        have hin : ∀ i, i ≤ ns → ∀ (u : Int32), u = sumC f (itM S) c k i → Wp M_m_mean 65 [.ref 8, .int (nI c), .int (nI w), .int (nI ((memC f c ns))), .int (nI k), .int u, .int (nI i)] [] S1 (fun v9 S' => v9 = none ∧ S'.2 = S.2 ∧ (∀ a i, ¬ (a = 43 ∧ i = c) → ¬ (a = 41 ∧ 4 * c ≤ i ∧ i < 4 * c + w) → S'.1 a i = S.1 a i) ∧ S'.1 43 c = nI (memC f c ns) ∧ ∀ k, k < w → S'.1 41 (4 * c + k) = (if 0 < memC f c ns then fdv (sumC f (itM S) c k ns) (nI (memC f c ns)) else S.1 41 (4 * c + k))) := by
          refine loopUp (ns) (fun i hk8 hn8 => ?_)
          intro u hu
          refine w_iload d_m_mean_65 rfl ?_
          refine w_aload_n d_m_mean_67 rfl ?_
          refine w_getIV (v := (nI ns)) d_m_mean_68 FL_m_103 (by decide) (rfl) (rfl) ((q1 8 2 (by omega) (by omega)).trans hn) ?_
          refine w_icmp_geN 112 d_m_mean_71 (by decide) (by omega) (by omega) (fun h71 => ?_) (fun h71 => ?_)
          · refine w_aload_n d_m_mean_112 rfl ?_
            refine w_getR d_m_mean_113 FL_m_56 (by decide) (rfl) (rfl) ?_
            refine w_iconst (v := nI 4) d_m_mean_116 (by decide +kernel) ?_
            refine w_iload_n d_m_mean_117 rfl ?_
            refine w_imulN d_m_mean_118 ?_
            refine w_iload d_m_mean_119 rfl ?_
            refine w_iaddN d_m_mean_121 ?_
            refine w_iload d_m_mean_122 rfl ?_
            refine w_iload_n d_m_mean_124 rfl ?_
            refine w_callS2 (N := M_m_floor) d_m_mean_125 LK_m_120 MF_m_floor MS_m_floor NP_m_floor (by decide) rfl (Nat.le_of_ble_eq_true rfl) ?_
            have hin9 : i = ns := by omega
            refine Ev.det (c_m_floor S1 _ _ (nI_ne0 (by omega) (by omega))) ?_
            rw [mfl_fdv (by omega), hu, hin9]
            refine w_iastNP d_m_mean_128 (by decide) (rfl) (show (4 * c) + k < 16 from (by omega)) ?_
            show Wp _ 129 _ _ _ _
            refine w_iincN d_m_mean_129 rfl ?_
            refine w_goto 49 d_m_mean_132 (by decide) ?_
            refine hn9 h52 _ _ _ ?_
            rw [if_pos h56, hS]
            exact setSeg_s rfl
          · refine w_iload d_m_mean_74 rfl ?_
            refine w_aload_n d_m_mean_76 rfl ?_
            refine w_getR d_m_mean_77 FL_m_59 (by decide) (rfl) (rfl) ?_
            refine w_iload d_m_mean_80 rfl ?_
            refine w_ialdNV (v := (nI (f i))) d_m_mean_82 (by decide) (rfl) (show i < 24 from (by omega)) ((q1 42 i (by omega) (by omega)).trans (hf i h71).1) ?_
            refine w_iload_n d_m_mean_83 rfl ?_
            have hf4 := (hf i h71).2
            refine w_icmp_neN 102 d_m_mean_84 (by decide) (by omega) (by omega) (fun h84 => ?_) (fun h84 => ?_)
            · refine w_iconst (v := nI 0) d_m_mean_102 (by decide +kernel) ?_
              refine w_iadd d_m_mean_103 ?_
              refine w_istore d_m_mean_104 (Nat.le_of_ble_eq_true rfl) ?_
              refine w_iincN d_m_mean_106 rfl ?_
              refine w_goto 65 d_m_mean_109 (by decide) ?_
              exact hn8 h71 _ (by show _ = (if f i = c then _ else _); rw [if_neg h84, show (nI 0 : Int32) = 0 from rfl, Int32.add_zero, hu])
            · refine w_aload_n d_m_mean_87 rfl ?_
              refine w_getR d_m_mean_88 FL_m_50 (by decide) (rfl) (rfl) ?_
              refine w_iconst (v := nI 4) d_m_mean_91 (by decide +kernel) ?_
              refine w_iload d_m_mean_92 rfl ?_
              refine w_imulN d_m_mean_94 ?_
              refine w_iload d_m_mean_95 rfl ?_
              refine w_iaddN d_m_mean_97 ?_
              refine w_ialdNV (v := ((itM S i k))) d_m_mean_98 (by decide) (rfl) (show (4 * i) + k < 96 from (by omega)) (q1 39 _ (by omega) (by omega)) ?_
              refine w_goto 103 d_m_mean_99 (by decide) ?_
              refine w_iadd d_m_mean_103 ?_
              refine w_istore d_m_mean_104 (Nat.le_of_ble_eq_true rfl) ?_
              show Wp _ 106 _ _ _ _
              refine w_iincN d_m_mean_106 rfl ?_
              refine w_goto 65 d_m_mean_109 (by decide) ?_
              exact hn8 h71 _ (by show _ = (if f i = c then _ else _); rw [if_pos h84, hu])
        exact hin 0 (by omega) _ rfl
  have hk0 : ∀ i, i ≤ ns → ∀ (b : Nat) (x5 : Value) (x6 : Value), b = memC f c i → Wp M_m_mean 5 [.ref 8, .int (nI c), .int (nI w), .int (nI b), .int (nI i), x5, x6] [] S (fun v9 S' => v9 = none ∧ S'.2 = S.2 ∧ (∀ a i, ¬ (a = 43 ∧ i = c) → ¬ (a = 41 ∧ 4 * c ≤ i ∧ i < 4 * c + w) → S'.1 a i = S.1 a i) ∧ S'.1 43 c = nI (memC f c ns) ∧ ∀ k, k < w → S'.1 41 (4 * c + k) = (if 0 < memC f c ns then fdv (sumC f (itM S) c k ns) (nI (memC f c ns)) else S.1 41 (4 * c + k))) := by
    refine loopUp (ns) (fun i hk9 hn9 => ?_)
    intro b x5 x6 hb
    have hmi := memC_le f c i
    refine w_iload d_m_mean_5 rfl ?_
    refine w_aload_n d_m_mean_7 rfl ?_
    refine w_getIV (v := (nI ns)) d_m_mean_8 FL_m_103 (by decide) (rfl) (rfl) (hn) ?_
    refine w_icmp_geN 39 d_m_mean_11 (by decide) (by omega) (by omega) (fun h11 => ?_) (fun h11 => ?_)
    · refine w_aload_n d_m_mean_39 rfl ?_
      refine w_getR d_m_mean_40 FL_m_62 (by decide) (rfl) (rfl) ?_
      refine w_iload_n d_m_mean_43 rfl ?_
      refine w_iload_n d_m_mean_44 rfl ?_
      refine w_iastNP d_m_mean_45 (by decide) (rfl) (show c < 4 from (by omega)) ?_
      refine w_iconst (v := nI 0) d_m_mean_46 (by decide +kernel) ?_
      refine w_istore d_m_mean_47 (Nat.le_of_ble_eq_true rfl) ?_
      obtain rfl : i = ns := by omega
      subst hb
      exact hk1 0 (by omega) _ _ _ (by rw [show (if 0 < memC f c i then 0 else 0) = 0 by split <;> rfl, setSeg_0])
    · refine w_iload_n d_m_mean_14 rfl ?_
      refine w_aload_n d_m_mean_15 rfl ?_
      refine w_getR d_m_mean_16 FL_m_59 (by decide) (rfl) (rfl) ?_
      refine w_iload d_m_mean_19 rfl ?_
      refine w_ialdNV (v := (nI (f i))) d_m_mean_21 (by decide) (rfl) (show i < 24 from (by omega)) ((hf i h11).1) ?_
      refine w_iload_n d_m_mean_22 rfl ?_
      have hf4 := (hf i h11).2
      refine w_icmp_neN 30 d_m_mean_23 (by decide) (by omega) (by omega) (fun h23 => ?_) (fun h23 => ?_)
      · refine w_iconst (v := nI 0) d_m_mean_30 (by decide +kernel) ?_
        refine w_iaddN d_m_mean_31 ?_
        refine w_istore_n d_m_mean_32 (Nat.le_of_ble_eq_true rfl) ?_
        refine w_iincN d_m_mean_33 rfl ?_
        refine w_goto 5 d_m_mean_36 (by decide) ?_
        exact hn9 h11 _ _ _ (by show _ = memC f c i + (if f i = c then 1 else 0); rw [if_neg h23, hb])
      · refine w_iconst (v := nI 1) d_m_mean_26 (by decide +kernel) ?_
        refine w_goto 31 d_m_mean_27 (by decide) ?_
        refine w_iaddN d_m_mean_31 ?_
        refine w_istore_n d_m_mean_32 (Nat.le_of_ble_eq_true rfl) ?_
        refine w_iincN d_m_mean_33 rfl ?_
        refine w_goto 5 d_m_mean_36 (by decide) ?_
        exact hn9 h11 _ _ _ (by show _ = memC f c i + (if f i = c then 1 else 0); rw [if_pos h23, hb])
  refine w_iconst (v := nI 0) d_m_mean_0 (by decide +kernel) ?_
  refine w_istore_n d_m_mean_1 (Nat.le_of_ble_eq_true rfl) ?_
  refine w_iconst (v := nI 0) d_m_mean_2 (by decide +kernel) ?_
  refine w_istore d_m_mean_3 (Nat.le_of_ble_eq_true rfl) ?_
  exact hk0 0 (by omega) 0 _ _ rfl
set_option maxRecDepth 100000 in
set_option maxHeartbeats 4000000 in
theorem c_m_fill (S : St) (f : Nat → Nat) (ns : Nat) (hB : MB S f ns) (m w : Nat) (hm0 : 0 < m) (hm4 : m ≤ 4) (hw0 : 0 < w) (hw : w ≤ 4) (hsh : ∀ c, c < m → S.1 43 c = nI (memC f c ns)) : Ev M_m_fill [.ref 8, .int (nI m), .int (nI w)] S (fun v9 S' => v9 = none ∧ FrK S S' ∧ ∀ c, c < m → ∀ k, k < w → S'.1 41 (4 * c + k) = (fil (mdM S) (fun c => memC f c ns) m m).1 c k) := by
  refine Ev.of MF_m_fill (all_cat rfl) (Nat.le_of_ble_eq_true rfl) ?_
  show Wp M_m_fill 0 [.ref 8, .int (nI m), .int (nI w), .null, .null, .null] [] _ _
  have hB0 := hB
  obtain ⟨hn, hn24, hf⟩ := hB
  have hle : ∀ e c, (fil (mdM S) (fun c => memC f c ns) m e).2 c ≤ 24 := fun e c => fil_le (fun c => Nat.le_trans (memC_le f c ns) hn24) e c
  have hk0 : ∀ e, e ≤ m → ∀ (S1 : St) (x4 : Value) (x5 : Value), FrK S S1 → (∀ i, i < ns → S1.1 42 i = S.1 42 i) → (∀ c, c < m → ∀ k, k < w → S1.1 41 (4 * c + k) = (fil (mdM S) (fun c => memC f c ns) m e).1 c k) → (∀ c, c < m → S1.1 43 c = nI ((fil (mdM S) (fun c => memC f c ns) m e).2 c)) → Wp M_m_fill 2 [.ref 8, .int (nI m), .int (nI w), .int (nI e), x4, x5] [] S1 (fun v9 S' => v9 = none ∧ FrK S S' ∧ ∀ c, c < m → ∀ k, k < w → S'.1 41 (4 * c + k) = (fil (mdM S) (fun c => memC f c ns) m m).1 c k) := by
    refine loopUp (m) (fun e hk9 hn9 => ?_)
    intro S1 x4 x5 h1 h2 h3 h5
    refine w_iload_n d_m_fill_2 rfl ?_
    refine w_iload_n d_m_fill_3 rfl ?_
    refine w_icmp_geN 145 d_m_fill_4 (by decide) (by omega) (by omega) (fun h4 => ?_) (fun h4 => ?_)
    · refine w_ret (st := []) rfl d_m_fill_145 ?_
      obtain rfl : e = m := by omega
      exact ⟨rfl, h1, h3⟩
    · refine w_aload_n d_m_fill_7 rfl ?_
      refine w_iload_n d_m_fill_8 rfl ?_
      refine w_callV1 (N := M_m_hasMember) d_m_fill_9 LK_m_124 MF_m_hasMember MV_m_hasMember NP_m_hasMember (by decide) (by decide) (rfl) rfl rfl (Nat.le_of_ble_eq_true rfl) ?_
      refine Ev.det (c_m_hasMember S1 f ns ⟨(h1.2 8 2 (by decide)).trans hn, hn24, fun i hi => by rw [h2 i hi]; exact hf i hi⟩ e (by omega)) ?_
      refine w_if_neB 139 d_m_fill_12 (by decide) (fun h12 => ?_) (fun h12 => ?_)
      · refine w_iincN d_m_fill_139 rfl ?_
        refine w_goto 2 d_m_fill_142 (by decide) ?_
        have hme : ¬ (fun c => memC f c ns) e = 0 := of_decide_eq_true h12
        have e1 : fil (mdM S) (fun c => memC f c ns) m (e + 1) = (fil (mdM S) (fun c => memC f c ns) m e) := by show (if (fun c => memC f c ns) e = 0 then _ else _) = _; rw [if_neg hme]
        refine hn9 h4 _ _ _ h1 h2 ?_ ?_
        · rw [e1]; exact h3
        · rw [e1]; exact h5
      · refine w_iconst (v := nI 0) d_m_fill_15 (by decide +kernel) ?_
        refine w_istore d_m_fill_16 (Nat.le_of_ble_eq_true rfl) ?_
        refine w_iconst (v := nI 1) d_m_fill_18 (by decide +kernel) ?_
        refine w_istore d_m_fill_19 (Nat.le_of_ble_eq_true rfl) ?_
        have hme : (fun c => memC f c ns) e = 0 := Decidable.byContradiction (fun q => of_decide_eq_false h12 q)
        have hbg : ∀ j, j ≤ m → ∀ (b : Nat), 1 ≤ j → b = gst (fil (mdM S) (fun c => memC f c ns) m e).2 j → Wp M_m_fill 21 [.ref 8, .int (nI m), .int (nI w), .int (nI e), .int (nI b), .int (nI j)] [] S1 (fun v9 S' => v9 = none ∧ FrK S S' ∧ ∀ c, c < m → ∀ k, k < w → S'.1 41 (4 * c + k) = (fil (mdM S) (fun c => memC f c ns) m m).1 c k) := by
          refine loopUp (m) (fun j hk8 hn8 => ?_)
          intro b hj1 hb
          have hbl := gst_lt (fil (mdM S) (fun c => memC f c ns) m e).2 j (by omega)
          have hf1 := hle e j
          have hf2 := hle e b
          refine w_iload d_m_fill_21 rfl ?_
          refine w_iload_n d_m_fill_23 rfl ?_
          refine w_icmp_geN 59 d_m_fill_24 (by decide) (by omega) (by omega) (fun h24 => ?_) (fun h24 => ?_)
          · refine w_iconst (v := nI 0) d_m_fill_59 (by decide +kernel) ?_
            refine w_istore d_m_fill_60 (Nat.le_of_ble_eq_true rfl) ?_
            have hjm : j = m := by omega
            rw [hjm] at hb
            have hb9 := hb
            have hbm : b < m := by rw [hb]; exact gst_lt _ m hm0
            have hcp : ∀ k, k ≤ w → ∀ (S2 : St), S2 = setSeg S1 41 (4 * e) (fun k => S1.1 41 (4 * b + k) + (if k = 0 then nI 1 else nI 0)) k → Wp M_m_fill 62 [.ref 8, .int (nI m), .int (nI w), .int (nI e), .int (nI b), .int (nI k)] [] S2 (fun v9 S' => v9 = none ∧ FrK S S' ∧ ∀ c, c < m → ∀ k, k < w → S'.1 41 (4 * c + k) = (fil (mdM S) (fun c => memC f c ns) m m).1 c k) := by
              refine loopUp (w) (fun k hk7 hn7 => ?_)
              intro S2 hS2
              have hfb := hle e b
              refine w_iload d_m_fill_62 rfl ?_
              refine w_iload_n d_m_fill_64 rfl ?_
              refine w_icmp_geN 108 d_m_fill_65 (by decide) (by omega) (by omega) (fun h65 => ?_) (fun h65 => ?_)
              · refine w_aload_n d_m_fill_108 rfl ?_
                refine w_getR d_m_fill_109 FL_m_62 (by decide) (rfl) (rfl) ?_
                refine w_iload d_m_fill_112 rfl ?_
                refine w_ialdNV (v := (nI ((fil (mdM S) (fun c => memC f c ns) m e).2 b))) d_m_fill_114 (by decide) (rfl) (show b < 4 from (by omega)) (by rw [hS2, setSeg_ne (by omega)]; exact h5 b hbm) ?_
                refine w_iconst (v := nI 2) d_m_fill_115 (by decide +kernel) ?_
                refine w_idivN d_m_fill_116 (by omega) (by omega) (by omega) ?_
                refine w_istore d_m_fill_117 (Nat.le_of_ble_eq_true rfl) ?_
                refine w_aload_n d_m_fill_119 rfl ?_
                refine w_getR d_m_fill_120 FL_m_62 (by decide) (rfl) (rfl) ?_
                refine w_iload d_m_fill_123 rfl ?_
                refine w_dup2 d_m_fill_125 rfl rfl ?_
                show Wp _ 126 _ _ _ _
                refine w_ialdNV (v := (nI ((fil (mdM S) (fun c => memC f c ns) m e).2 b))) d_m_fill_126 (by decide) (rfl) (show b < 4 from (by omega)) (by rw [hS2, setSeg_ne (by omega)]; exact h5 b hbm) ?_
                refine w_iload d_m_fill_127 rfl ?_
                refine w_isubN d_m_fill_129 (by omega) ?_
                refine w_iastNP d_m_fill_130 (by decide) (rfl) (show b < 4 from (by omega)) ?_
                refine w_aload_n d_m_fill_131 rfl ?_
                refine w_getR d_m_fill_132 FL_m_62 (by decide) (rfl) (rfl) ?_
                refine w_iload_n d_m_fill_135 rfl ?_
                refine w_iload d_m_fill_136 rfl ?_
                refine w_iastNP d_m_fill_138 (by decide) (rfl) (show e < 4 from (by omega)) ?_
                refine w_iincN d_m_fill_139 rfl ?_
                refine w_goto 2 d_m_fill_142 (by decide) ?_
                have hkw : k = w := by omega
                rw [hkw] at hS2
                subst hS2
                have e1 : fil (mdM S) (fun c => memC f c ns) m (e + 1) = spl (fil (mdM S) (fun c => memC f c ns) m e) e (gst (fil (mdM S) (fun c => memC f c ns) m e).2 m) := by show (if (fun c => memC f c ns) e = 0 then _ else _) = _; rw [if_pos hme]
                refine hn9 h4 _ _ _ ?_ ?_ ?_ ?_
                · exact ((h1.seg (by omega)).put (by omega)).put (by omega)
                · intro i hi
                  rw [put_ne (by omega), put_ne (by omega), setSeg_ne (by omega)]
                  exact h2 i hi
                · rw [e1]
                  intro c hc z hz
                  rw [put_ne (by omega), put_ne (by omega)]
                  show _ = (if c = e then (fil (mdM S) (fun c => memC f c ns) m e).1 (gst (fil (mdM S) (fun c => memC f c ns) m e).2 m) z + (if z = 0 then 1 else 0) else (fil (mdM S) (fun c => memC f c ns) m e).1 c z)
                  by_cases hce : c = e
                  · rw [hce, if_pos rfl, setSeg_at hz, h3 b hbm z hz, hb9]
                    rfl
                  · rw [if_neg hce, setSeg_ne (by omega)]
                    exact h3 c hc z hz
                · rw [e1]
                  intro c hc
                  show _ = nI (if c = e then (fil (mdM S) (fun c => memC f c ns) m e).2 (gst (fil (mdM S) (fun c => memC f c ns) m e).2 m) / 2 else if c = gst (fil (mdM S) (fun c => memC f c ns) m e).2 m then (fil (mdM S) (fun c => memC f c ns) m e).2 (gst (fil (mdM S) (fun c => memC f c ns) m e).2 m) - (fil (mdM S) (fun c => memC f c ns) m e).2 (gst (fil (mdM S) (fun c => memC f c ns) m e).2 m) / 2 else (fil (mdM S) (fun c => memC f c ns) m e).2 c)
                  rw [← hb9]
                  by_cases hce : c = e
                  · rw [if_pos hce, hce, put_at]
                  · rw [if_neg hce, put_ne (by omega)]
                    by_cases hcb : c = b
                    · rw [if_pos hcb, hcb, put_at]
                    · rw [if_neg hcb, put_ne (by omega), setSeg_ne (by omega)]
                      exact h5 c hc
              · refine w_aload_n d_m_fill_68 rfl ?_
                refine w_getR d_m_fill_69 FL_m_56 (by decide) (rfl) (rfl) ?_
                refine w_iconst (v := nI 4) d_m_fill_72 (by decide +kernel) ?_
                refine w_iload_n d_m_fill_73 rfl ?_
                refine w_imulN d_m_fill_74 ?_
                refine w_iload d_m_fill_75 rfl ?_
                refine w_iaddN d_m_fill_77 ?_
                refine w_aload_n d_m_fill_78 rfl ?_
                refine w_getR d_m_fill_79 FL_m_56 (by decide) (rfl) (rfl) ?_
                refine w_iconst (v := nI 4) d_m_fill_82 (by decide +kernel) ?_
                refine w_iload d_m_fill_83 rfl ?_
                show Wp _ 85 _ _ _ _
                refine w_imulN d_m_fill_85 ?_
                refine w_iload d_m_fill_86 rfl ?_
                refine w_iaddN d_m_fill_88 ?_
                refine w_ialdNV (v := ((S1.1 41 (4 * b + k)))) d_m_fill_89 (by decide) (rfl) (show (4 * b) + k < 16 from (by omega)) (by rw [hS2]; exact (if hbe : b = e then (by rw [setSeg_ne (by omega)]) else (by rw [setSeg_ne (by omega)]))) ?_
                refine w_iload d_m_fill_90 rfl ?_
                refine w_if_neN 99 d_m_fill_92 (by decide) (by omega) (fun h92 => ?_) (fun h92 => ?_)
                · refine w_iconst (v := nI 0) d_m_fill_99 (by decide +kernel) ?_
                  refine w_iadd d_m_fill_100 ?_
                  refine w_iastNP d_m_fill_101 (by decide) (rfl) (show (4 * e) + k < 16 from (by omega)) ?_
                  refine w_iincN d_m_fill_102 rfl ?_
                  refine w_goto 62 d_m_fill_105 (by decide) ?_
                  refine hn7 h65 _ ?_
                  rw [hS2]
                  refine setSeg_s ?_
                  show _ = S1.1 41 (4 * b + k) + (if k = 0 then nI 1 else nI 0)
                  rw [if_neg h92]
                · refine w_iconst (v := nI 1) d_m_fill_95 (by decide +kernel) ?_
                  refine w_goto 100 d_m_fill_96 (by decide) ?_
                  refine w_iadd d_m_fill_100 ?_
                  refine w_iastNP d_m_fill_101 (by decide) (rfl) (show (4 * e) + k < 16 from (by omega)) ?_
                  refine w_iincN d_m_fill_102 rfl ?_
                  refine w_goto 62 d_m_fill_105 (by decide) ?_
                  refine hn7 h65 _ ?_
                  rw [hS2]
                  refine setSeg_s ?_
                  show _ = S1.1 41 (4 * b + k) + (if k = 0 then nI 1 else nI 0)
                  rw [if_pos h92]
            exact hcp 0 (by omega) _ (setSeg_0 _ _ _ _).symm
          · refine w_aload_n d_m_fill_27 rfl ?_
            refine w_getR d_m_fill_28 FL_m_62 (by decide) (rfl) (rfl) ?_
            refine w_iload d_m_fill_31 rfl ?_
            refine w_ialdNV (v := (nI ((fil (mdM S) (fun c => memC f c ns) m e).2 j))) d_m_fill_33 (by decide) (rfl) (show j < 4 from (by omega)) (h5 j h24) ?_
            refine w_aload_n d_m_fill_34 rfl ?_
            refine w_getR d_m_fill_35 FL_m_62 (by decide) (rfl) (rfl) ?_
            refine w_iload d_m_fill_38 rfl ?_
            refine w_ialdNV (v := (nI ((fil (mdM S) (fun c => memC f c ns) m e).2 b))) d_m_fill_40 (by decide) (rfl) (show b < 4 from (by omega)) (h5 b (by omega)) ?_
            refine w_icmp_leN 49 d_m_fill_41 (by decide) (by omega) (by omega) (fun h41 => ?_) (fun h41 => ?_)
            · refine w_iload d_m_fill_49 rfl ?_
              refine w_istore d_m_fill_51 (Nat.le_of_ble_eq_true rfl) ?_
              refine w_iincN d_m_fill_53 rfl ?_
              refine w_goto 21 d_m_fill_56 (by decide) ?_
              exact hn8 h24 _ (by omega) (by show _ = (if (fil (mdM S) (fun c => memC f c ns) m e).2 (gst (fil (mdM S) (fun c => memC f c ns) m e).2 j) < (fil (mdM S) (fun c => memC f c ns) m e).2 j then j else gst (fil (mdM S) (fun c => memC f c ns) m e).2 j); rw [← hb, if_neg (by omega)])
            · refine w_iload d_m_fill_44 rfl ?_
              refine w_goto 51 d_m_fill_46 (by decide) ?_
              refine w_istore d_m_fill_51 (Nat.le_of_ble_eq_true rfl) ?_
              refine w_iincN d_m_fill_53 rfl ?_
              refine w_goto 21 d_m_fill_56 (by decide) ?_
              exact hn8 h24 _ (by omega) (by show _ = (if (fil (mdM S) (fun c => memC f c ns) m e).2 (gst (fil (mdM S) (fun c => memC f c ns) m e).2 j) < (fil (mdM S) (fun c => memC f c ns) m e).2 j then j else gst (fil (mdM S) (fun c => memC f c ns) m e).2 j); rw [← hb, if_pos (by omega)])
        exact hbg 1 (by omega) 0 (Nat.le_refl 1) (gst_1 _).symm
  refine w_iconst (v := nI 0) d_m_fill_0 (by decide +kernel) ?_
  refine w_istore_n d_m_fill_1 (Nat.le_of_ble_eq_true rfl) ?_
  exact hk0 0 (by omega) _ _ _ (FrK.rf S) (fun _ _ => rfl) (fun _ _ _ _ => rfl) hsh
