/-! The reference. -/
theorem nI_m1 (a : Nat) : nI a + Int32.ofInt (-1) = nI a - nI 1 := by
  rw [Int32.sub_eq_add_neg]
  rfl
theorem m1_lt {k : Nat} (hk : k ≤ 5000) : nI k - nI 1 < 0 ↔ k = 0 := by
  rw [Int32.lt_iff_toInt_lt, pk_sub_toInt (by omega) (by decide), Int32.toInt_zero]
  omega
theorem near_spec {d : Nat → Int32} : ∀ {n : Nat}, 0 < n → (∀ j, j < n → d (near d n) ≤ d j) ∧ ∀ j, j < near d n → d (near d n) < d j
  | 0, h => absurd h (by omega)
  | 1, _ => by
    rw [near_1]
    exact ⟨fun j hj => by obtain rfl : j = 0 := by omega
                          exact Int32.le_refl _, fun j hj => absurd hj (by omega)⟩
  | n + 2, _ => by
    obtain ⟨h1, h2⟩ := near_spec (d := d) (n := n + 1) (by omega)
    by_cases hq : d (near d (n + 1)) ≤ d (n + 1)
    · rw [near_no hq]
      exact ⟨lt_s h1 hq, h2⟩
    · rw [near_yes hq]
      have hq := Int32.not_le.mp hq
      refine ⟨lt_s (fun j hj => Int32.le_trans (Int32.le_of_lt hq) (h1 j hj)) (Int32.le_refl _), fun j hj => ?_⟩
      rcases Int32.le_iff_lt_or_eq.mp (h1 j hj) with z | z
      · exact Int32.lt_trans hq z
      · rw [← z]; exact hq
theorem near_uniq {d : Nat → Int32} {n b : Nat} (hb : b < n) (h1 : ∀ j, j < n → d b ≤ d j) (h2 : ∀ j, j < b → d b < d j) : near d n = b := by
  obtain ⟨k1, k2⟩ := near_spec (d := d) (n := n) (by omega)
  have hl := near_lt d n (by omega)
  by_cases q1 : near d n < b
  · exact absurd (h2 _ q1) (Int32.not_lt.mpr (k1 b hb))
  · by_cases q2 : b < near d n
    · exact absurd (k2 b q2) (Int32.not_lt.mpr (h1 _ hl))
    · omega
def mfl (a b : Int32) : Int32 := if a < 0 then if a / b * b = a then a / b else a / b - nI 1 else a / b
theorem xor_neg {a : Int32} {n : Nat} (hn : n < 2 ^ 31) : (a ^^^ nI n) < 0 ↔ a < 0 := by
  have key : ∀ x : Int32, x < 0 ↔ x.toBitVec.msb = true := fun x => by
    rw [Int32.lt_iff_toInt_lt, Int32.toInt_zero, BitVec.msb_eq_toInt, decide_eq_true_iff]
    rfl
  rw [key, key, Int32.toBitVec_xor, BitVec.msb_xor]
  have h0 : (nI n).toBitVec.msb = false := by
    have : ¬ (nI n) < 0 := nI_pos hn
    rw [key] at this
    simpa using this
  rw [h0, Bool.xor_false]
theorem mfl_fdv {a : Int32} {n : Nat} (hn : n < 2 ^ 31) : mfl a (nI n) = fdv a (nI n) := by
  unfold mfl fdv
  by_cases h : a < 0
  · rw [if_pos h, if_pos ((xor_neg hn).mpr h)]
  · rw [if_neg h, if_neg (fun q => h ((xor_neg hn).mp q))]
def msz (kind : Int32) : Nat := if kind = 0 then 2 else 1
theorem msz_pw {kind : Int32} {p : Nat} (h : p < parts kind) : msz kind = pwid kind := by
  unfold parts at h
  unfold msz pwid
  by_cases h0 : kind = 0
  · rw [if_pos h0, if_pos h0]
  · rw [if_neg h0] at h ⊢
    rw [if_neg h0]
    by_cases h1 : kind = 1
    · rw [if_pos h1]
    · rw [if_neg h1] at h
      omega
def itM (S : St) : Nat → Nat → Int32 := fun i k => S.1 39 (4 * i + k)
def mdM (S : St) : Nat → Nat → Int32 := fun c k => S.1 41 (4 * c + k)
def mtv (S : St) (id : Nat) : Nat → Int32 := fun k => tval (S.1 26 k) (fun k => S.1 31 (4 * id + k))
def lsM (S : St) (nl : Nat) (x : Nat → Int32) : Nat := near (fun l => dst (fun k => S.1 28 (4 * l + k)) x 4) nl
def lfM (S : St) (l : Nat) (x : Nat → Int32) : Nat → Int32 := fun k => x k - S.1 28 (4 * l + k)
def wdM (S : St) (kind : Int32) (y : Nat → Int32) (p j : Nat) : Int32 := dst (fun k => S.1 29 (8 * p + 2 * j + k)) (fun k => y (p * pwid kind + k)) (pwid kind)
def cdM (S : St) (kind : Int32) (nc : Nat) (y : Nat → Int32) (p : Nat) : Nat := near (wdM S kind y p) nc
theorem lsM_lt {S : St} {nl : Nat} {x : Nat → Int32} (h : 0 < nl) : lsM S nl x < nl := near_lt _ _ h
theorem cdM_lt {S : St} {kind : Int32} {nc : Nat} {y : Nat → Int32} {p : Nat} (h : 0 < nc) : cdM S kind nc y p < nc := near_lt _ _ h
theorem lsM_congr {S S' : St} {nl : Nat} {x x' : Nat → Int32} (h : ∀ i, S.1 28 i = S'.1 28 i) (hx : ∀ k, k < 4 → x k = x' k) : lsM S nl x = lsM S' nl x' := near_congr (fun l _ => dst_congr (fun k _ => h _) hx)
theorem wdM_congr {S S' : St} {kind : Int32} {y y' : Nat → Int32} {p j : Nat} (hp : p < parts kind) (h : ∀ i, S.1 29 i = S'.1 29 i) (hy : ∀ k, k < 4 → y k = y' k) : wdM S kind y p j = wdM S' kind y' p j := dst_congr (fun k _ => h _) (fun k hk => hy _ (pw_in hp hk))
theorem cdM_congr {S S' : St} {kind : Int32} {nc : Nat} {y y' : Nat → Int32} {p : Nat} (hp : p < parts kind) (h : ∀ i, S.1 29 i = S'.1 29 i) (hy : ∀ k, k < 4 → y k = y' k) : cdM S kind nc y p = cdM S' kind nc y' p := near_congr (fun j _ => wdM_congr hp h hy)
theorem okStep_neg {s : Int32} (h : okStep s) (hs : ¬ 0 ≤ s) : -s - nI 1 = nI (ax s) := by
  have := (okStep_ax h).1
  unfold absI at this
  rw [if_neg hs] at this
  exact this
theorem okStep_pos {s : Int32} (h : okStep s) (hs : 0 ≤ s) : s - nI 1 = nI (ax s) := by
  have := (okStep_ax h).1
  unfold absI at this
  rw [if_pos hs] at this
  exact this
set_option maxRecDepth 100000 in
set_option maxHeartbeats 4000000 in
theorem c_m_bit (S : St) (v : Int32) : Ev M_m_bit [.int v] S (fun v9 S' => v9 = some (.int (bitOf v)) ∧ S' = S) := by
  refine Ev.of MF_m_bit (all_cat rfl) (Nat.le_of_ble_eq_true rfl) ?_
  show Wp M_m_bit 0 [.int v] [] _ _
  refine w_iload_n d_m_bit_0 rfl ?_
  refine w_iconst (v := nI 1) d_m_bit_1 (by decide +kernel) ?_
  refine w_icmp_lt 16 d_m_bit_2 (by decide) (fun h2 => ?_) (fun h2 => ?_)
  · refine w_iload_n d_m_bit_16 rfl ?_
    refine w_iconst (v := -1) d_m_bit_17 (by decide +kernel) ?_
    refine w_icmp_gt 34 d_m_bit_18 (by decide) (fun h18 => ?_) (fun h18 => ?_)
    · refine w_iconst (v := nI 0) d_m_bit_34 (by decide +kernel) ?_
      refine w_iret (st := []) rfl d_m_bit_35 ?_
      have e1 : (nI 1 : Int32) = 1 := by decide
      have e4 : (nI 4 : Int32) = 4 := by decide
      have e0 : (nI 0 : Int32) = 0 := by decide
      refine ⟨?_, rfl⟩
      unfold bitOf
      rw [if_neg (fun q => absurd q.1 (Int32.not_le.mpr (e1 ▸ h2))), if_neg (fun q => absurd q.1 (Int32.not_le.mpr h18))]
      rfl
    · refine w_iload_n d_m_bit_21 rfl ?_
      refine w_bipush (v := -4) d_m_bit_22 (by decide +kernel) ?_
      refine w_icmp_lt 34 d_m_bit_24 (by decide) (fun h24 => ?_) (fun h24 => ?_)
      · refine w_iconst (v := nI 0) d_m_bit_34 (by decide +kernel) ?_
        refine w_iret (st := []) rfl d_m_bit_35 ?_
        have e1 : (nI 1 : Int32) = 1 := by decide
        have e4 : (nI 4 : Int32) = 4 := by decide
        have e0 : (nI 0 : Int32) = 0 := by decide
        refine ⟨?_, rfl⟩
        unfold bitOf
        rw [if_neg (fun q => absurd q.1 (Int32.not_le.mpr (e1 ▸ h2))), if_neg (fun q => absurd q.2 (Int32.not_le.mpr h24))]
        rfl
      · refine w_iconst (v := nI 1) d_m_bit_27 (by decide +kernel) ?_
        refine w_iload_n d_m_bit_28 rfl ?_
        refine w_ineg d_m_bit_29 ?_
        refine w_ishl d_m_bit_30 ?_
        refine w_goto 35 d_m_bit_31 (by decide) ?_
        refine w_iret (st := []) rfl d_m_bit_35 ?_
        have e1 : (nI 1 : Int32) = 1 := by decide
        have e4 : (nI 4 : Int32) = 4 := by decide
        have e0 : (nI 0 : Int32) = 0 := by decide
        refine ⟨?_, rfl⟩
        unfold bitOf
        rw [if_neg (fun q => absurd q.1 (Int32.not_le.mpr (e1 ▸ h2))), if_pos ⟨Int32.not_lt.mp h18, Int32.not_lt.mp h24⟩, e1]
  · refine w_iload_n d_m_bit_5 rfl ?_
    refine w_iconst (v := nI 4) d_m_bit_6 (by decide +kernel) ?_
    refine w_icmp_gt 16 d_m_bit_7 (by decide) (fun h7 => ?_) (fun h7 => ?_)
    · refine w_iload_n d_m_bit_16 rfl ?_
      refine w_iconst (v := -1) d_m_bit_17 (by decide +kernel) ?_
      refine w_icmp_gt 34 d_m_bit_18 (by decide) (fun h18 => ?_) (fun h18 => ?_)
      · refine w_iconst (v := nI 0) d_m_bit_34 (by decide +kernel) ?_
        refine w_iret (st := []) rfl d_m_bit_35 ?_
        have e1 : (nI 1 : Int32) = 1 := by decide
        have e4 : (nI 4 : Int32) = 4 := by decide
        have e0 : (nI 0 : Int32) = 0 := by decide
        refine ⟨?_, rfl⟩
        unfold bitOf
        rw [if_neg (fun q => absurd q.2 (Int32.not_le.mpr (e4 ▸ h7))), if_neg (fun q => absurd q.1 (Int32.not_le.mpr h18))]
        rfl
      · refine w_iload_n d_m_bit_21 rfl ?_
        refine w_bipush (v := -4) d_m_bit_22 (by decide +kernel) ?_
        refine w_icmp_lt 34 d_m_bit_24 (by decide) (fun h24 => ?_) (fun h24 => ?_)
        · refine w_iconst (v := nI 0) d_m_bit_34 (by decide +kernel) ?_
          refine w_iret (st := []) rfl d_m_bit_35 ?_
          have e1 : (nI 1 : Int32) = 1 := by decide
          have e4 : (nI 4 : Int32) = 4 := by decide
          have e0 : (nI 0 : Int32) = 0 := by decide
          refine ⟨?_, rfl⟩
          unfold bitOf
          rw [if_neg (fun q => absurd q.2 (Int32.not_le.mpr (e4 ▸ h7))), if_neg (fun q => absurd q.2 (Int32.not_le.mpr h24))]
          rfl
        · refine w_iconst (v := nI 1) d_m_bit_27 (by decide +kernel) ?_
          refine w_iload_n d_m_bit_28 rfl ?_
          refine w_ineg d_m_bit_29 ?_
          refine w_ishl d_m_bit_30 ?_
          refine w_goto 35 d_m_bit_31 (by decide) ?_
          refine w_iret (st := []) rfl d_m_bit_35 ?_
          have e1 : (nI 1 : Int32) = 1 := by decide
          have e4 : (nI 4 : Int32) = 4 := by decide
          have e0 : (nI 0 : Int32) = 0 := by decide
          refine ⟨?_, rfl⟩
          unfold bitOf
          rw [if_neg (fun q => absurd q.2 (Int32.not_le.mpr (e4 ▸ h7))), if_pos ⟨Int32.not_lt.mp h18, Int32.not_lt.mp h24⟩, e1]
    · refine w_iconst (v := nI 1) d_m_bit_10 (by decide +kernel) ?_
      refine w_iload_n d_m_bit_11 rfl ?_
      refine w_ishl d_m_bit_12 ?_
      refine w_goto 35 d_m_bit_13 (by decide) ?_
      refine w_iret (st := []) rfl d_m_bit_35 ?_
      have e1 : (nI 1 : Int32) = 1 := by decide
      have e4 : (nI 4 : Int32) = 4 := by decide
      have e0 : (nI 0 : Int32) = 0 := by decide
      refine ⟨?_, rfl⟩
      unfold bitOf
      rw [if_pos ⟨e1 ▸ Int32.not_lt.mp h2, e4 ▸ Int32.not_lt.mp h7⟩, e1]
set_option maxRecDepth 100000 in
set_option maxHeartbeats 4000000 in
theorem c_m_isTurn (S : St) (a b c d : Int32) : Ev M_m_isTurn [.int a, .int b, .int c, .int d] S (fun v9 S' => v9 = some (.int (bI (turnOK a b c d))) ∧ S' = S) := by
  refine Ev.of MF_m_isTurn (all_cat rfl) (Nat.le_of_ble_eq_true rfl) ?_
  show Wp M_m_isTurn 0 [.int a, .int b, .int c, .int d] [] _ _
  refine w_iload_n d_m_isTurn_0 rfl ?_
  refine w_callS1 (N := M_m_bit) d_m_isTurn_1 LK_m_81 MF_m_bit MS_m_bit NP_m_bit (by decide) rfl (Nat.le_of_ble_eq_true rfl) ?_
  refine Ev.det (c_m_bit _ _) ?_
  refine w_iload_n d_m_isTurn_4 rfl ?_
  refine w_callS1 (N := M_m_bit) d_m_isTurn_5 LK_m_81 MF_m_bit MS_m_bit NP_m_bit (by decide) rfl (Nat.le_of_ble_eq_true rfl) ?_
  refine Ev.det (c_m_bit _ _) ?_
  refine w_ior d_m_isTurn_8 ?_
  refine w_iload_n d_m_isTurn_9 rfl ?_
  refine w_callS1 (N := M_m_bit) d_m_isTurn_10 LK_m_81 MF_m_bit MS_m_bit NP_m_bit (by decide) rfl (Nat.le_of_ble_eq_true rfl) ?_
  refine Ev.det (c_m_bit _ _) ?_
  refine w_ior d_m_isTurn_13 ?_
  refine w_iload_n d_m_isTurn_14 rfl ?_
  refine w_callS1 (N := M_m_bit) d_m_isTurn_15 LK_m_81 MF_m_bit MS_m_bit NP_m_bit (by decide) rfl (Nat.le_of_ble_eq_true rfl) ?_
  refine Ev.det (c_m_bit _ _) ?_
  refine w_ior d_m_isTurn_18 ?_
  show Wp _ 19 _ _ _ _
  refine w_bipush (v := nI 30) d_m_isTurn_19 (by decide +kernel) ?_
  refine w_icmp_ne 28 d_m_isTurn_21 (by decide) (fun h21 => ?_) (fun h21 => ?_)
  · refine w_iconst (v := nI 0) d_m_isTurn_28 (by decide +kernel) ?_
    refine w_zret (st := []) rfl d_m_isTurn_29 (by decide) ?_
    exact ⟨rb0 (decide_eq_false h21), rfl⟩
  · refine w_iconst (v := nI 1) d_m_isTurn_24 (by decide +kernel) ?_
    refine w_goto 29 d_m_isTurn_25 (by decide) ?_
    refine w_zret (st := []) rfl d_m_isTurn_29 (by decide) ?_
    exact ⟨rb1 (decide_eq_true h21), rfl⟩
set_option maxRecDepth 100000 in
set_option maxHeartbeats 4000000 in
theorem c_m_give (S : St) (a b c d : Int32) : Ev M_m_give [.ref 8, .int a, .int b, .int c, .int d] S (fun v9 S' => v9 = some (.int (bI (!badPt a b c d))) ∧ S' = setRow S 35 (pt a b c d) 4) := by
  refine Ev.of MF_m_give (all_cat rfl) (Nat.le_of_ble_eq_true rfl) ?_
  show Wp M_m_give 0 [.ref 8, .int a, .int b, .int c, .int d] [] _ _
  refine w_aload_n d_m_give_0 rfl ?_
  refine w_getR d_m_give_1 FL_m_38 (by decide) (rfl) (rfl) ?_
  refine w_iconst (v := nI 0) d_m_give_4 (by decide +kernel) ?_
  refine w_iload_n d_m_give_5 rfl ?_
  refine w_iastNP d_m_give_6 (by decide) (rfl) (show 0 < 4 from (by omega)) ?_
  refine w_aload_n d_m_give_7 rfl ?_
  refine w_getR d_m_give_8 FL_m_38 (by decide) (rfl) (rfl) ?_
  refine w_iconst (v := nI 1) d_m_give_11 (by decide +kernel) ?_
  refine w_iload_n d_m_give_12 rfl ?_
  refine w_iastNP d_m_give_13 (by decide) (rfl) (show 1 < 4 from (by omega)) ?_
  refine w_aload_n d_m_give_14 rfl ?_
  show Wp _ 15 _ _ _ _
  refine w_getR d_m_give_15 FL_m_38 (by decide) (rfl) (rfl) ?_
  refine w_iconst (v := nI 2) d_m_give_18 (by decide +kernel) ?_
  refine w_iload_n d_m_give_19 rfl ?_
  refine w_iastNP d_m_give_20 (by decide) (rfl) (show 2 < 4 from (by omega)) ?_
  refine w_aload_n d_m_give_21 rfl ?_
  refine w_getR d_m_give_22 FL_m_38 (by decide) (rfl) (rfl) ?_
  refine w_iconst (v := nI 3) d_m_give_25 (by decide +kernel) ?_
  refine w_iload d_m_give_26 rfl ?_
  refine w_iastNP d_m_give_28 (by decide) (rfl) (show 3 < 4 from (by omega)) ?_
  refine w_iload_n d_m_give_29 rfl ?_
  refine w_bipush (v := -100) d_m_give_30 (by decide +kernel) ?_
  refine w_bipush (v := nI 100) d_m_give_32 (by decide +kernel) ?_
  show Wp _ 34 _ _ _ _
  refine w_callS3 (N := M_m_within) d_m_give_34 LK_m_85 MF_m_within MS_m_within NP_m_within (by decide) rfl (Nat.le_of_ble_eq_true rfl) ?_
  refine Ev.det (c_m_within _ _ _ _) ?_
  refine w_if_eqB 78 d_m_give_37 (by decide) (fun h37 => ?_) (fun h37 => ?_)
  · refine w_iconst (v := nI 0) d_m_give_78 (by decide +kernel) ?_
    refine w_zret (st := []) rfl d_m_give_79 (by decide) ?_
    exact ⟨rb0 (by unfold badPt; rw [Bool.not_not]; exact decide_eq_false (fun q => of_decide_eq_false h37 (by first | exact q.1 | exact q.2.1 | exact q.2.2.1 | exact q.2.2.2))), (by rw [← setRow_s (f := pt a b c d) (n := 3) rfl, ← setRow_s (f := pt a b c d) (n := 2) rfl, ← setRow_s (f := pt a b c d) (n := 1) rfl, ← setRow_s (f := pt a b c d) (n := 0) rfl, setRow_0]; rfl)⟩
  · refine w_iload_n d_m_give_40 rfl ?_
    refine w_bipush (v := -100) d_m_give_41 (by decide +kernel) ?_
    refine w_bipush (v := nI 100) d_m_give_43 (by decide +kernel) ?_
    refine w_callS3 (N := M_m_within) d_m_give_45 LK_m_85 MF_m_within MS_m_within NP_m_within (by decide) rfl (Nat.le_of_ble_eq_true rfl) ?_
    refine Ev.det (c_m_within _ _ _ _) ?_
    refine w_if_eqB 78 d_m_give_48 (by decide) (fun h48 => ?_) (fun h48 => ?_)
    · refine w_iconst (v := nI 0) d_m_give_78 (by decide +kernel) ?_
      refine w_zret (st := []) rfl d_m_give_79 (by decide) ?_
      exact ⟨rb0 (by unfold badPt; rw [Bool.not_not]; exact decide_eq_false (fun q => of_decide_eq_false h48 (by first | exact q.1 | exact q.2.1 | exact q.2.2.1 | exact q.2.2.2))), (by rw [← setRow_s (f := pt a b c d) (n := 3) rfl, ← setRow_s (f := pt a b c d) (n := 2) rfl, ← setRow_s (f := pt a b c d) (n := 1) rfl, ← setRow_s (f := pt a b c d) (n := 0) rfl, setRow_0]; rfl)⟩
    · refine w_iload_n d_m_give_51 rfl ?_
      refine w_bipush (v := -100) d_m_give_52 (by decide +kernel) ?_
      refine w_bipush (v := nI 100) d_m_give_54 (by decide +kernel) ?_
      refine w_callS3 (N := M_m_within) d_m_give_56 LK_m_85 MF_m_within MS_m_within NP_m_within (by decide) rfl (Nat.le_of_ble_eq_true rfl) ?_
      refine Ev.det (c_m_within _ _ _ _) ?_
      refine w_if_eqB 78 d_m_give_59 (by decide) (fun h59 => ?_) (fun h59 => ?_)
      · refine w_iconst (v := nI 0) d_m_give_78 (by decide +kernel) ?_
        refine w_zret (st := []) rfl d_m_give_79 (by decide) ?_
        exact ⟨rb0 (by unfold badPt; rw [Bool.not_not]; exact decide_eq_false (fun q => of_decide_eq_false h59 (by first | exact q.1 | exact q.2.1 | exact q.2.2.1 | exact q.2.2.2))), (by rw [← setRow_s (f := pt a b c d) (n := 3) rfl, ← setRow_s (f := pt a b c d) (n := 2) rfl, ← setRow_s (f := pt a b c d) (n := 1) rfl, ← setRow_s (f := pt a b c d) (n := 0) rfl, setRow_0]; rfl)⟩
      · refine w_iload d_m_give_62 rfl ?_
        refine w_bipush (v := -100) d_m_give_64 (by decide +kernel) ?_
        refine w_bipush (v := nI 100) d_m_give_66 (by decide +kernel) ?_
        refine w_callS3 (N := M_m_within) d_m_give_68 LK_m_85 MF_m_within MS_m_within NP_m_within (by decide) rfl (Nat.le_of_ble_eq_true rfl) ?_
        refine Ev.det (c_m_within _ _ _ _) ?_
        refine w_if_eqB 78 d_m_give_71 (by decide) (fun h71 => ?_) (fun h71 => ?_)
        · refine w_iconst (v := nI 0) d_m_give_78 (by decide +kernel) ?_
          refine w_zret (st := []) rfl d_m_give_79 (by decide) ?_
          exact ⟨rb0 (by unfold badPt; rw [Bool.not_not]; exact decide_eq_false (fun q => of_decide_eq_false h71 (by first | exact q.1 | exact q.2.1 | exact q.2.2.1 | exact q.2.2.2))), (by rw [← setRow_s (f := pt a b c d) (n := 3) rfl, ← setRow_s (f := pt a b c d) (n := 2) rfl, ← setRow_s (f := pt a b c d) (n := 1) rfl, ← setRow_s (f := pt a b c d) (n := 0) rfl, setRow_0]; rfl)⟩
        · refine w_iconst (v := nI 1) d_m_give_74 (by decide +kernel) ?_
          refine w_goto 79 d_m_give_75 (by decide) ?_
          refine w_zret (st := []) rfl d_m_give_79 (by decide) ?_
          exact ⟨rb1 (by unfold badPt; rw [Bool.not_not]; exact decide_eq_true ⟨of_decide_eq_true h37, of_decide_eq_true h48, of_decide_eq_true h59, of_decide_eq_true h71⟩), (by rw [← setRow_s (f := pt a b c d) (n := 3) rfl, ← setRow_s (f := pt a b c d) (n := 2) rfl, ← setRow_s (f := pt a b c d) (n := 1) rfl, ← setRow_s (f := pt a b c d) (n := 0) rfl, setRow_0]; rfl)⟩
set_option maxRecDepth 100000 in
set_option maxHeartbeats 4000000 in
theorem c_m_turnIt (S : St) (ho : ∀ k, k < 4 → okStep (S.1 26 k)) : Ev M_m_turnIt [.ref 8] S (fun v9 S' => v9 = none ∧ S' = setRow S 36 (fun k => tval (S.1 26 k) (S.1 35)) 4) := by
  refine Ev.of MF_m_turnIt (all_cat rfl) (Nat.le_of_ble_eq_true rfl) ?_
  show Wp M_m_turnIt 0 [.ref 8, .null] [] _ _
  have hk0 : ∀ k, k ≤ 4 → ∀ (S1 : St), S1 = setRow S 36 (fun k => tval (S.1 26 k) (S.1 35)) k → Wp M_m_turnIt 2 [.ref 8, .int (nI k)] [] S1 (fun v9 S' => v9 = none ∧ S' = setRow S 36 (fun k => tval (S.1 26 k) (S.1 35)) 4) := by
    refine loopUp (4) (fun k hk9 hn9 => ?_)
    intro S1 hS
    have e9 : S1.1 26 k = S.1 26 k := by rw [hS, setRow_ne (by decide)]
    have eg : S1.1 35 = S.1 35 := by rw [hS, setRow_row (by decide)]
    refine w_iload_n d_m_turnIt_2 rfl ?_
    refine w_iconst (v := nI 4) d_m_turnIt_3 (by decide +kernel) ?_
    refine w_icmp_geN 59 d_m_turnIt_4 (by decide) (by omega) (by omega) (fun h4 => ?_) (fun h4 => ?_)
    · refine w_ret (st := []) rfl d_m_turnIt_59 ?_
      obtain rfl : k = 4 := by omega
      exact ⟨rfl, hS⟩
    · refine w_aload_n d_m_turnIt_7 rfl ?_
      refine w_getR d_m_turnIt_8 FL_m_41 (by decide) (rfl) (rfl) ?_
      refine w_iload_n d_m_turnIt_11 rfl ?_
      refine w_aload_n d_m_turnIt_12 rfl ?_
      refine w_getR d_m_turnIt_13 FL_m_7 (by decide) (rfl) (rfl) ?_
      refine w_iload_n d_m_turnIt_16 rfl ?_
      refine w_ialdNV (v := ((S.1 26 k))) d_m_turnIt_17 (by decide) (rfl) (show k < 4 from (by omega)) (e9) ?_
      refine w_if_ge 39 d_m_turnIt_18 (by decide) (fun h18 => ?_) (fun h18 => ?_)
      · refine w_aload_n d_m_turnIt_39 rfl ?_
        refine w_getR d_m_turnIt_40 FL_m_38 (by decide) (rfl) (rfl) ?_
        refine w_aload_n d_m_turnIt_43 rfl ?_
        refine w_getR d_m_turnIt_44 FL_m_7 (by decide) (rfl) (rfl) ?_
        refine w_iload_n d_m_turnIt_47 rfl ?_
        refine w_ialdNV (v := ((S.1 26 k))) d_m_turnIt_48 (by decide) (rfl) (show k < 4 from (by omega)) (e9) ?_
        refine w_iconst (v := nI 1) d_m_turnIt_49 (by decide +kernel) ?_
        refine w_isub d_m_turnIt_50 ?_
        refine w_iald (n := ax (S.1 26 k)) d_m_turnIt_51 (okStep_pos (ho k h4) h18) (by decide) (rfl) (show ax (S.1 26 k) < 4 from (by have := (okStep_ax (ho k h4)).2; omega)) ?_
        refine w_iastNP d_m_turnIt_52 (by decide) (rfl) (show k < 4 from (by omega)) ?_
        refine w_iincN d_m_turnIt_53 rfl ?_
        show Wp _ 56 _ _ _ _
        refine w_goto 2 d_m_turnIt_56 (by decide) ?_
        refine hn9 h4 _ ?_
        subst hS
        refine setRow_s ?_
        show _ = tval (S.1 26 k) (S.1 35)
        rw [eg]
        unfold tval
        rw [if_neg (Int32.not_lt.mpr h18)]
      · refine w_aload_n d_m_turnIt_21 rfl ?_
        refine w_getR d_m_turnIt_22 FL_m_38 (by decide) (rfl) (rfl) ?_
        refine w_aload_n d_m_turnIt_25 rfl ?_
        refine w_getR d_m_turnIt_26 FL_m_7 (by decide) (rfl) (rfl) ?_
        refine w_iload_n d_m_turnIt_29 rfl ?_
        refine w_ialdNV (v := ((S.1 26 k))) d_m_turnIt_30 (by decide) (rfl) (show k < 4 from (by omega)) (e9) ?_
        refine w_ineg d_m_turnIt_31 ?_
        refine w_iconst (v := nI 1) d_m_turnIt_32 (by decide +kernel) ?_
        refine w_isub d_m_turnIt_33 ?_
        refine w_iald (n := ax (S.1 26 k)) d_m_turnIt_34 (okStep_neg (ho k h4) h18) (by decide) (rfl) (show ax (S.1 26 k) < 4 from (by have := (okStep_ax (ho k h4)).2; omega)) ?_
        refine w_ineg d_m_turnIt_35 ?_
        show Wp _ 36 _ _ _ _
        refine w_goto 52 d_m_turnIt_36 (by decide) ?_
        refine w_iastNP d_m_turnIt_52 (by decide) (rfl) (show k < 4 from (by omega)) ?_
        refine w_iincN d_m_turnIt_53 rfl ?_
        refine w_goto 2 d_m_turnIt_56 (by decide) ?_
        refine hn9 h4 _ ?_
        subst hS
        refine setRow_s ?_
        show _ = tval (S.1 26 k) (S.1 35)
        rw [eg]
        unfold tval
        rw [if_pos (Int32.not_le.mp h18)]
  refine w_iconst (v := nI 0) d_m_turnIt_0 (by decide +kernel) ?_
  refine w_istore_n d_m_turnIt_1 (Nat.le_of_ble_eq_true rfl) ?_
  exact hk0 0 (by omega) _ (setRow_0 _ _ _).symm
def tE (S : St) (id : Nat) : St := setRow (setRow S 35 (fun k => S.1 31 (4 * id + k)) 4) 36 (mtv S id) 4
theorem tE_ne {S : St} {id a i : Nat} (h1 : a ≠ 35) (h2 : a ≠ 36) : (tE S id).1 a i = S.1 a i := by unfold tE; rw [setRow_ne h2, setRow_ne h1]
theorem tE_row {S : St} {id a : Nat} (h1 : a ≠ 35) (h2 : a ≠ 36) : (tE S id).1 a = S.1 a := by funext i; exact tE_ne h1 h2
theorem tE_at {S : St} {id k : Nat} (h : k < 4) : (tE S id).1 36 k = mtv S id k := by unfold tE; rw [setRow_at h]
set_option maxRecDepth 100000 in
set_option maxHeartbeats 4000000 in
theorem c_m_turnEntry (S : St) (id : Nat) (hid : id < 1000) (ho : ∀ k, k < 4 → okStep (S.1 26 k)) : Ev M_m_turnEntry [.ref 8, .int (nI id)] S (fun v9 S' => v9 = none ∧ S' = tE S id) := by
  refine Ev.of MF_m_turnEntry (all_cat rfl) (Nat.le_of_ble_eq_true rfl) ?_
  show Wp M_m_turnEntry 0 [.ref 8, .int (nI id), .null] [] _ _
  have hk0 : ∀ k, k ≤ 4 → ∀ (S1 : St), S1 = setRow S 35 (fun k => S.1 31 (4 * id + k)) k → Wp M_m_turnEntry 2 [.ref 8, .int (nI id), .int (nI k)] [] S1 (fun v9 S' => v9 = none ∧ S' = tE S id) := by
    refine loopUp (4) (fun k hk9 hn9 => ?_)
    intro S1 hS
    refine w_iload_n d_m_turnEntry_2 rfl ?_
    refine w_iconst (v := nI 4) d_m_turnEntry_3 (by decide +kernel) ?_
    refine w_icmp_geN 29 d_m_turnEntry_4 (by decide) (by omega) (by omega) (fun h4 => ?_) (fun h4 => ?_)
    · refine w_aload_n d_m_turnEntry_29 rfl ?_
      refine w_callV0 (N := M_m_turnIt) d_m_turnEntry_30 LK_m_89 MF_m_turnIt MV_m_turnIt NP_m_turnIt (by decide) (by decide) (rfl) rfl rfl (Nat.le_of_ble_eq_true rfl) ?_
      have hk4 : k = 4 := by omega
      refine Ev.det (c_m_turnIt S1 (fun j hj => by rw [hS, setRow_ne (by decide)]; exact ho j hj)) ?_
      refine w_ret (st := []) rfl d_m_turnEntry_33 ?_
      refine ⟨rfl, ?_⟩
      unfold tE
      rw [hS, hk4]
      refine setRow_congr (fun j hj => ?_)
      show tval _ _ = tval _ _
      rw [setRow_ne (by decide)]
      exact tval_congr (ho j hj) (fun i hi => setRow_at hi)
    · refine w_aload_n d_m_turnEntry_7 rfl ?_
      refine w_getR d_m_turnEntry_8 FL_m_38 (by decide) (rfl) (rfl) ?_
      refine w_iload_n d_m_turnEntry_11 rfl ?_
      refine w_aload_n d_m_turnEntry_12 rfl ?_
      refine w_getR d_m_turnEntry_13 FL_m_26 (by decide) (rfl) (rfl) ?_
      refine w_iconst (v := nI 4) d_m_turnEntry_16 (by decide +kernel) ?_
      refine w_iload_n d_m_turnEntry_17 rfl ?_
      refine w_imulN d_m_turnEntry_18 ?_
      refine w_iload_n d_m_turnEntry_19 rfl ?_
      refine w_iaddN d_m_turnEntry_20 ?_
      refine w_ialdNV (v := ((S.1 31 (4 * id + k)))) d_m_turnEntry_21 (by decide) (rfl) (show (4 * id) + k < 4000 from (by omega)) (by rw [hS, setRow_ne (by decide)]) ?_
      show Wp _ 22 _ _ _ _
      refine w_iastNP d_m_turnEntry_22 (by decide) (rfl) (show k < 4 from (by omega)) ?_
      refine w_iincN d_m_turnEntry_23 rfl ?_
      refine w_goto 2 d_m_turnEntry_26 (by decide) ?_
      refine hn9 h4 _ ?_
      rw [hS]
      exact setRow_s rfl
  refine w_iconst (v := nI 0) d_m_turnEntry_0 (by decide +kernel) ?_
  refine w_istore_n d_m_turnEntry_1 (Nat.le_of_ble_eq_true rfl) ?_
  exact hk0 0 (by omega) _ (setRow_0 _ _ _).symm
set_option maxRecDepth 100000 in
set_option maxHeartbeats 4000000 in
theorem c_m_turn (S : St) (a b c d : Int32) : Ev M_m_turn [.ref 8, .int a, .int b, .int c, .int d] S (fun v9 S' => v9 = some (.int (bI (decide (turnOK a b c d = true ∧ S.1 8 3 = 0)))) ∧ S' = (if turnOK a b c d = true ∧ S.1 8 3 = 0 then setRow S 26 (pt a b c d) 4 else S)) := by
  refine Ev.of MF_m_turn (all_cat rfl) (Nat.le_of_ble_eq_true rfl) ?_
  show Wp M_m_turn 0 [.ref 8, .int a, .int b, .int c, .int d] [] _ _
  refine w_aload_n d_m_turn_0 rfl ?_
  refine w_getI d_m_turn_1 FL_m_92 (by decide) (rfl) (rfl) ?_
  refine w_if_ne 18 d_m_turn_4 (by decide) (fun h4 => ?_) (fun h4 => ?_)
  · refine w_iconst (v := nI 0) d_m_turn_18 (by decide +kernel) ?_
    refine w_zret (st := []) rfl d_m_turn_19 (by decide) ?_
    exact ⟨rb0 (decide_eq_false (fun q => h4 q.2)), by rw [if_neg (fun q => h4 q.2)]⟩
  · refine w_iload_n d_m_turn_7 rfl ?_
    refine w_iload_n d_m_turn_8 rfl ?_
    refine w_iload_n d_m_turn_9 rfl ?_
    refine w_iload d_m_turn_10 rfl ?_
    refine w_callS4 (N := M_m_isTurn) d_m_turn_12 LK_m_96 MF_m_isTurn MS_m_isTurn NP_m_isTurn (by decide) rfl (Nat.le_of_ble_eq_true rfl) ?_
    refine Ev.det (c_m_isTurn _ _ _ _ _) ?_
    refine w_if_neB 20 d_m_turn_15 (by decide) (fun h15 => ?_) (fun h15 => ?_)
    · refine w_aload_n d_m_turn_20 rfl ?_
      refine w_getR d_m_turn_21 FL_m_7 (by decide) (rfl) (rfl) ?_
      refine w_iconst (v := nI 0) d_m_turn_24 (by decide +kernel) ?_
      refine w_iload_n d_m_turn_25 rfl ?_
      refine w_iastNP d_m_turn_26 (by decide) (rfl) (show 0 < 4 from (by omega)) ?_
      refine w_aload_n d_m_turn_27 rfl ?_
      refine w_getR d_m_turn_28 FL_m_7 (by decide) (rfl) (rfl) ?_
      refine w_iconst (v := nI 1) d_m_turn_31 (by decide +kernel) ?_
      refine w_iload_n d_m_turn_32 rfl ?_
      refine w_iastNP d_m_turn_33 (by decide) (rfl) (show 1 < 4 from (by omega)) ?_
      refine w_aload_n d_m_turn_34 rfl ?_
      show Wp _ 35 _ _ _ _
      refine w_getR d_m_turn_35 FL_m_7 (by decide) (rfl) (rfl) ?_
      refine w_iconst (v := nI 2) d_m_turn_38 (by decide +kernel) ?_
      refine w_iload_n d_m_turn_39 rfl ?_
      refine w_iastNP d_m_turn_40 (by decide) (rfl) (show 2 < 4 from (by omega)) ?_
      refine w_aload_n d_m_turn_41 rfl ?_
      refine w_getR d_m_turn_42 FL_m_7 (by decide) (rfl) (rfl) ?_
      refine w_iconst (v := nI 3) d_m_turn_45 (by decide +kernel) ?_
      refine w_iload d_m_turn_46 rfl ?_
      refine w_iastNP d_m_turn_48 (by decide) (rfl) (show 3 < 4 from (by omega)) ?_
      refine w_iconst (v := nI 1) d_m_turn_49 (by decide +kernel) ?_
      refine w_zret (st := []) rfl d_m_turn_50 (by decide) ?_
      refine ⟨rb1 (decide_eq_true ⟨h15, h4⟩), ?_⟩
      rw [if_pos ⟨h15, h4⟩]
      exact (by rw [← setRow_s (f := pt a b c d) (n := 3) rfl, ← setRow_s (f := pt a b c d) (n := 2) rfl, ← setRow_s (f := pt a b c d) (n := 1) rfl, ← setRow_s (f := pt a b c d) (n := 0) rfl, setRow_0]; rfl)
    · refine w_iconst (v := nI 0) d_m_turn_18 (by decide +kernel) ?_
      refine w_zret (st := []) rfl d_m_turn_19 (by decide) ?_
      exact ⟨rb0 (decide_eq_false (fun q => by rw [q.1] at h15; cases h15)), by rw [if_neg (fun q => by rw [q.1] at h15; cases h15)]⟩
/-- n places of the array c, from o on, become f -/
def setSeg (S : St) (c o : Nat) (f : Nat → Int32) (n : Nat) : St := (fun d i => if d = c ∧ o ≤ i ∧ i < o + n then f (i - o) else S.1 d i, S.2)
theorem setSeg_0 (S : St) (c o : Nat) (f : Nat → Int32) : setSeg S c o f 0 = S := by
  refine Prod.ext ?_ rfl
  funext d i
  show (if d = c ∧ o ≤ i ∧ i < o + 0 then f (i - o) else S.1 d i) = S.1 d i
  rw [if_neg (by omega)]
theorem setSeg_at {S : St} {c o : Nat} {f : Nat → Int32} {n j : Nat} (h : j < n) : (setSeg S c o f n).1 c (o + j) = f j := by
  show (if c = c ∧ o ≤ o + j ∧ o + j < o + n then f (o + j - o) else S.1 c (o + j)) = f j
  rw [if_pos (by omega), Nat.add_sub_cancel_left]
theorem setSeg_ne {S : St} {c o d i : Nat} {f : Nat → Int32} {n : Nat} (h : ¬ (d = c ∧ o ≤ i ∧ i < o + n)) : (setSeg S c o f n).1 d i = S.1 d i := if_neg h
theorem setSeg_s {S : St} {c o : Nat} {f : Nat → Int32} {n : Nat} {v : Int32} (h : v = f n) : put (setSeg S c o f n) c (o + n) v = setSeg S c o f (n + 1) := by
  subst h
  refine Prod.ext ?_ rfl
  funext d i
  by_cases h1 : d = c ∧ i = o + n
  · obtain ⟨rfl, rfl⟩ := h1
    rw [put_at, setSeg_at (Nat.lt_succ_self n)]
  · rw [put_ne h1]
    show (if d = c ∧ o ≤ i ∧ i < o + n then f (i - o) else S.1 d i) = (if d = c ∧ o ≤ i ∧ i < o + (n + 1) then f (i - o) else S.1 d i)
    by_cases h2 : d = c ∧ o ≤ i ∧ i < o + n
    · rw [if_pos h2, if_pos (by omega)]
    · rw [if_neg h2, if_neg (by omega)]
set_option maxRecDepth 100000 in
set_option maxHeartbeats 4000000 in
theorem c_m_sample (S : St) (a b c d : Int32) (ns : Nat) (hs : S.1 8 2 = nI ns) (hs24 : ns ≤ 24) : Ev M_m_sample [.ref 8, .int a, .int b, .int c, .int d] S (fun v9 S' => v9 = some (.int (bI (decide (badPt a b c d = false ∧ ns < 24)))) ∧ S' = (if badPt a b c d = false ∧ ns < 24 then put (setSeg (setRow S 35 (pt a b c d) 4) 27 (4 * ns) (pt a b c d) 4) 8 2 (nI (ns + 1)) else setRow S 35 (pt a b c d) 4)) := by
  refine Ev.of MF_m_sample (all_cat rfl) (Nat.le_of_ble_eq_true rfl) ?_
  show Wp M_m_sample 0 [.ref 8, .int a, .int b, .int c, .int d, .null] [] _ _
  have hk0 : badPt a b c d = false → ns < 24 → ∀ k, k ≤ 4 → ∀ S1, S1 = setSeg (setRow S 35 (pt a b c d) 4) 27 (4 * ns) (pt a b c d) k → Wp M_m_sample 26 [.ref 8, .int a, .int b, .int c, .int d, .int (nI k)] [] S1 (fun v9 S' => v9 = some (.int (bI (decide (badPt a b c d = false ∧ ns < 24)))) ∧ S' = (if badPt a b c d = false ∧ ns < 24 then put (setSeg (setRow S 35 (pt a b c d) 4) 27 (4 * ns) (pt a b c d) 4) 8 2 (nI (ns + 1)) else setRow S 35 (pt a b c d) 4)) := by
    intro hb0 hn0
    refine loopUp 4 (fun k hk9 hn9 => ?_)
    intro S1 hS
    refine w_iload d_m_sample_26 rfl ?_
    refine w_iconst (v := nI 4) d_m_sample_28 (by decide +kernel) ?_
    refine w_icmp_geN 59 d_m_sample_29 (by decide) (by omega) (by omega) (fun h29 => ?_) (fun h29 => ?_)
    · refine w_aload_n d_m_sample_59 rfl ?_
      refine w_dup d_m_sample_60 rfl ?_
      refine w_getIV (v := (nI ns)) d_m_sample_61 FL_m_103 (by decide) (rfl) (rfl) (by rw [hS, setSeg_ne (by omega), setRow_ne (by decide)]; exact hs) ?_
      refine w_iconst (v := nI 1) d_m_sample_64 (by decide +kernel) ?_
      refine w_iaddN d_m_sample_65 ?_
      refine w_putIP d_m_sample_66 FL_m_103 FW_8_2 (by decide) (rfl) (rfl) ?_
      refine w_iconst (v := nI 1) d_m_sample_69 (by decide +kernel) ?_
      refine w_zret (st := []) rfl d_m_sample_70 (by decide) ?_
      obtain rfl : k = 4 := by omega
      exact ⟨rb1 (decide_eq_true ⟨hb0, hn0⟩), by rw [if_pos ⟨hb0, hn0⟩, hS]⟩
    · refine w_aload_n d_m_sample_32 rfl ?_
      refine w_getR d_m_sample_33 FL_m_13 (by decide) (rfl) (rfl) ?_
      refine w_iconst (v := nI 4) d_m_sample_36 (by decide +kernel) ?_
      refine w_aload_n d_m_sample_37 rfl ?_
      refine w_getIV (v := (nI ns)) d_m_sample_38 FL_m_103 (by decide) (rfl) (rfl) (by rw [hS, setSeg_ne (by omega), setRow_ne (by decide)]; exact hs) ?_
      refine w_imulN d_m_sample_41 ?_
      refine w_iload d_m_sample_42 rfl ?_
      refine w_iaddN d_m_sample_44 ?_
      refine w_aload_n d_m_sample_45 rfl ?_
      refine w_getR d_m_sample_46 FL_m_38 (by decide) (rfl) (rfl) ?_
      refine w_iload d_m_sample_49 rfl ?_
      show Wp _ 51 _ _ _ _
      refine w_ialdNV (v := ((pt a b c d k))) d_m_sample_51 (by decide) (rfl) (show k < 4 from (by omega)) (by rw [hS, setSeg_ne (by omega), setRow_at h29]) ?_
      refine w_iastNP d_m_sample_52 (by decide) (rfl) (show (4 * ns) + k < 96 from (by omega)) ?_
      refine w_iincN d_m_sample_53 rfl ?_
      refine w_goto 26 d_m_sample_56 (by decide) ?_
      refine hn9 h29 _ ?_
      rw [hS]
      exact setSeg_s rfl
  refine w_aload_n d_m_sample_0 rfl ?_
  refine w_iload_n d_m_sample_1 rfl ?_
  refine w_iload_n d_m_sample_2 rfl ?_
  refine w_iload_n d_m_sample_3 rfl ?_
  refine w_iload d_m_sample_4 rfl ?_
  refine w_callV4 (N := M_m_give) d_m_sample_6 LK_m_100 MF_m_give MV_m_give NP_m_give (by decide) (by decide) (rfl) rfl rfl (Nat.le_of_ble_eq_true rfl) ?_
  refine Ev.det (c_m_give _ _ _ _ _) ?_
  refine w_if_eqB 21 d_m_sample_9 (by decide) (fun h9 => ?_) (fun h9 => ?_)
  · refine w_iconst (v := nI 0) d_m_sample_21 (by decide +kernel) ?_
    refine w_zret (st := []) rfl d_m_sample_22 (by decide) ?_
    have hb1 : badPt a b c d = true := by simpa using h9
    exact ⟨rb0 (decide_eq_false (fun q => by rw [hb1] at q; exact absurd q.1 (by decide))), by rw [if_neg (fun q => by rw [hb1] at q; exact absurd q.1 (by decide))]⟩
  · refine w_aload_n d_m_sample_12 rfl ?_
    refine w_getIV (v := (nI ns)) d_m_sample_13 FL_m_103 (by decide) (rfl) (rfl) (by rw [setRow_ne (by decide)]; exact hs) ?_
    refine w_bipush (v := nI 24) d_m_sample_16 (by decide +kernel) ?_
    refine w_icmp_neN 23 d_m_sample_18 (by decide) (by omega) (by omega) (fun h18 => ?_) (fun h18 => ?_)
    · refine w_iconst (v := nI 0) d_m_sample_23 (by decide +kernel) ?_
      refine w_istore d_m_sample_24 (Nat.le_of_ble_eq_true rfl) ?_
      exact hk0 (by simpa using h9) (by omega) 0 (by omega) _ (setSeg_0 _ _ _ _).symm
    · refine w_iconst (v := nI 0) d_m_sample_21 (by decide +kernel) ?_
      refine w_zret (st := []) rfl d_m_sample_22 (by decide) ?_
      exact ⟨rb0 (decide_eq_false (fun q => by omega)), by rw [if_neg (fun q => by omega)]⟩
set_option maxRecDepth 100000 in
set_option maxHeartbeats 4000000 in
theorem c_m_floor (S : St) (v w : Int32) (hw : ¬ w = 0) : Ev M_m_floor [.int v, .int w] S (fun v9 S' => v9 = some (.int (mfl v w)) ∧ S' = S) := by
  refine Ev.of MF_m_floor (all_cat rfl) (Nat.le_of_ble_eq_true rfl) ?_
  show Wp M_m_floor 0 [.int v, .int w, .null] [] _ _
  refine w_iload_n d_m_floor_0 rfl ?_
  refine w_iload_n d_m_floor_1 rfl ?_
  refine w_idiv d_m_floor_2 (hw) ?_
  refine w_istore_n d_m_floor_3 (Nat.le_of_ble_eq_true rfl) ?_
  refine w_iload_n d_m_floor_4 rfl ?_
  refine w_if_ge 21 d_m_floor_5 (by decide) (fun h5 => ?_) (fun h5 => ?_)
  · refine w_iload_n d_m_floor_21 rfl ?_
    refine w_iret (st := []) rfl d_m_floor_22 ?_
    exact ⟨by unfold mfl; rw [if_neg (Int32.not_lt.mpr h5)], rfl⟩
  · refine w_iload_n d_m_floor_8 rfl ?_
    refine w_iload_n d_m_floor_9 rfl ?_
    refine w_imul d_m_floor_10 ?_
    refine w_iload_n d_m_floor_11 rfl ?_
    refine w_icmp_eq 21 d_m_floor_12 (by decide) (fun h12 => ?_) (fun h12 => ?_)
    · refine w_iload_n d_m_floor_21 rfl ?_
      refine w_iret (st := []) rfl d_m_floor_22 ?_
      exact ⟨by unfold mfl; rw [if_pos (Int32.not_le.mp h5), if_pos h12], rfl⟩
    · refine w_iload_n d_m_floor_15 rfl ?_
      refine w_iconst (v := nI 1) d_m_floor_16 (by decide +kernel) ?_
      refine w_isub d_m_floor_17 ?_
      refine w_goto 22 d_m_floor_18 (by decide) ?_
      refine w_iret (st := []) rfl d_m_floor_22 ?_
      exact ⟨by unfold mfl; rw [if_pos (Int32.not_le.mp h5), if_neg h12], rfl⟩
set_option maxRecDepth 100000 in
set_option maxHeartbeats 4000000 in
theorem c_m_gap (S : St) (i c w : Nat) (hi : i < 24) (hc : c < 4) (hw : w ≤ 4) : Ev M_m_gap [.ref 8, .int (nI i), .int (nI c), .int (nI w)] S (fun v9 S' => v9 = some (.int (dst (mdM S c) (itM S i) w)) ∧ S' = S) := by
  refine Ev.of MF_m_gap (all_cat rfl) (Nat.le_of_ble_eq_true rfl) ?_
  show Wp M_m_gap 0 [.ref 8, .int (nI i), .int (nI c), .int (nI w), .null, .null, .null] [] _ _
  have hk0 : ∀ k, k ≤ w → ∀ (x6 : Value), Wp M_m_gap 6 [.ref 8, .int (nI i), .int (nI c), .int (nI w), .int ((dst (itM S i) (mdM S c) k)), .int (nI k), x6] [] S (fun v9 S' => v9 = some (.int (dst (mdM S c) (itM S i) w)) ∧ S' = S) := by
    refine loopUp (w) (fun k hk9 hn9 => ?_)
    intro x6
    refine w_iload d_m_gap_6 rfl ?_
    refine w_iload_n d_m_gap_8 rfl ?_
    refine w_icmp_geN 53 d_m_gap_9 (by decide) (by omega) (by omega) (fun h9 => ?_) (fun h9 => ?_)
    · refine w_iload d_m_gap_53 rfl ?_
      refine w_iret (st := []) rfl d_m_gap_55 ?_
      obtain rfl : k = w := by omega
      exact ⟨by rw [dst_comm], rfl⟩
    · refine w_aload_n d_m_gap_12 rfl ?_
      refine w_getR d_m_gap_13 FL_m_50 (by decide) (rfl) (rfl) ?_
      refine w_iconst (v := nI 4) d_m_gap_16 (by decide +kernel) ?_
      refine w_iload_n d_m_gap_17 rfl ?_
      refine w_imulN d_m_gap_18 ?_
      refine w_iload d_m_gap_19 rfl ?_
      refine w_iaddN d_m_gap_21 ?_
      refine w_ialdN d_m_gap_22 (by decide) (rfl) (show (4 * i) + k < 96 from (by omega)) ?_
      refine w_aload_n d_m_gap_23 rfl ?_
      refine w_getR d_m_gap_24 FL_m_56 (by decide) (rfl) (rfl) ?_
      refine w_iconst (v := nI 4) d_m_gap_27 (by decide +kernel) ?_
      show Wp _ 28 _ _ _ _
      refine w_iload_n d_m_gap_28 rfl ?_
      refine w_imulN d_m_gap_29 ?_
      refine w_iload d_m_gap_30 rfl ?_
      refine w_iaddN d_m_gap_32 ?_
      refine w_ialdN d_m_gap_33 (by decide) (rfl) (show (4 * c) + k < 16 from (by omega)) ?_
      refine w_isub d_m_gap_34 ?_
      refine w_istore d_m_gap_35 (Nat.le_of_ble_eq_true rfl) ?_
      refine w_iload d_m_gap_37 rfl ?_
      refine w_iload d_m_gap_39 rfl ?_
      refine w_iload d_m_gap_41 rfl ?_
      refine w_imul d_m_gap_43 ?_
      refine w_iadd d_m_gap_44 ?_
      show Wp _ 45 _ _ _ _
      refine w_istore d_m_gap_45 (Nat.le_of_ble_eq_true rfl) ?_
      refine w_iincN d_m_gap_47 rfl ?_
      refine w_goto 6 d_m_gap_50 (by decide) ?_
      exact hn9 h9 _
  refine w_iconst (v := nI 0) d_m_gap_0 (by decide +kernel) ?_
  refine w_istore d_m_gap_1 (Nat.le_of_ble_eq_true rfl) ?_
  refine w_iconst (v := nI 0) d_m_gap_3 (by decide +kernel) ?_
  refine w_istore d_m_gap_4 (Nat.le_of_ble_eq_true rfl) ?_
  exact hk0 0 (by omega) _
set_option maxRecDepth 100000 in
set_option maxHeartbeats 4000000 in
theorem c_m_nearest (S : St) (i m w : Nat) (hi : i < 24) (hm0 : 0 < m) (hm : m ≤ 4) (hw : w ≤ 4) : Ev M_m_nearest [.ref 8, .int (nI i), .int (nI m), .int (nI w)] S (fun v9 S' => v9 = some (.int (nI (nrC (mdM S) (itM S) w m i))) ∧ S' = S) := by
  refine Ev.of MF_m_nearest (all_cat rfl) (Nat.le_of_ble_eq_true rfl) ?_
  show Wp M_m_nearest 0 [.ref 8, .int (nI i), .int (nI m), .int (nI w), .null, .null] [] _ _
  have hk0 : ∀ k, ∀ (b : Nat), k ≤ m → (b = 0 ∨ (k ≤ b ∧ b < m)) → (fun c => dst (mdM S c) (itM S i) w) b ≤ (fun c => dst (mdM S c) (itM S i) w) 0 → (∀ j, k ≤ j → j < m → (fun c => dst (mdM S c) (itM S i) w) b ≤ (fun c => dst (mdM S c) (itM S i) w) j) → (b ≠ 0 → ∀ j, k ≤ j → j < b → (fun c => dst (mdM S c) (itM S i) w) b < (fun c => dst (mdM S c) (itM S i) w) j) → Wp M_m_nearest 8 [.ref 8, .int (nI i), .int (nI m), .int (nI w), .int (nI b), .int ((nI k - nI 1))] [] S (fun v9 S' => v9 = some (.int (nI (nrC (mdM S) (itM S) w m i))) ∧ S' = S) := by
    refine loopDown (fun k hn9 => ?_)
    intro b hkm g1 g2 g3 g4
    refine w_iload d_m_nearest_8 rfl ?_
    refine w_if_lt 42 d_m_nearest_10 (by decide) (fun h10 => ?_) (fun h10 => ?_)
    · refine w_iload d_m_nearest_42 rfl ?_
      refine w_iret (st := []) rfl d_m_nearest_44 ?_
      have hk0 : k = 0 := (m1_lt (by omega)).mp h10
      refine ⟨congrArg (fun x => some (Value.int (nI x))) (near_uniq (by omega) (fun j hj => g3 j (by omega) hj) (fun j hj => ?_)).symm, rfl⟩
      exact g4 (by omega) j (by omega) hj
    · have hk0 : 0 < k := Nat.pos_of_ne_zero (fun q => h10 ((m1_lt (by omega)).mpr q))
      rw [pk_sub (show 1 ≤ k from hk0)]
      refine w_aload_n d_m_nearest_13 rfl ?_
      refine w_iload_n d_m_nearest_14 rfl ?_
      refine w_iload d_m_nearest_15 rfl ?_
      refine w_iload_n d_m_nearest_17 rfl ?_
      refine w_callV3 (N := M_m_gap) d_m_nearest_18 LK_m_106 MF_m_gap MV_m_gap NP_m_gap (by decide) (by decide) (rfl) rfl rfl (Nat.le_of_ble_eq_true rfl) ?_
      refine Ev.det (c_m_gap S _ _ _ hi (by omega) hw) ?_
      refine w_aload_n d_m_nearest_21 rfl ?_
      refine w_iload_n d_m_nearest_22 rfl ?_
      refine w_iload d_m_nearest_23 rfl ?_
      refine w_iload_n d_m_nearest_25 rfl ?_
      refine w_callV3 (N := M_m_gap) d_m_nearest_26 LK_m_106 MF_m_gap MV_m_gap NP_m_gap (by decide) (by decide) (rfl) rfl rfl (Nat.le_of_ble_eq_true rfl) ?_
      refine Ev.det (c_m_gap S _ _ _ hi (by omega) hw) ?_
      refine w_icmp_gt 36 d_m_nearest_29 (by decide) (fun h29 => ?_) (fun h29 => ?_)
      · refine w_iinc (v := nI (k - 1) - nI 1) d_m_nearest_36 rfl (nI_m1 _) ?_
        refine w_goto 8 d_m_nearest_39 (by decide) ?_
        have h29 := h29
        refine hn9 hk0 _ (by omega) (by omega) g2 (fun j hj1 hj2 => ?_) (fun hb j hj1 hj2 => ?_)
        · by_cases hjk : j = k - 1
          · rw [hjk]; exact Int32.le_of_lt h29
          · exact g3 j (by omega) hj2
        · by_cases hjk : j = k - 1
          · rw [hjk]; exact h29
          · exact g4 hb j (by omega) hj2
      · refine w_iload d_m_nearest_32 rfl ?_
        refine w_istore d_m_nearest_34 (Nat.le_of_ble_eq_true rfl) ?_
        refine w_iinc (v := nI (k - 1) - nI 1) d_m_nearest_36 rfl (nI_m1 _) ?_
        refine w_goto 8 d_m_nearest_39 (by decide) ?_
        have h29 := Int32.not_lt.mp h29
        refine hn9 hk0 _ (by omega) (by omega) (Int32.le_trans h29 g2) (fun j hj1 hj2 => ?_) (fun hb j hj1 hj2 => absurd hj2 (by omega))
        by_cases hjk : j = k - 1
        · rw [hjk]; exact Int32.le_refl _
        · exact Int32.le_trans h29 (g3 j (by omega) hj2)
  refine w_iconst (v := nI 0) d_m_nearest_0 (by decide +kernel) ?_
  refine w_istore d_m_nearest_1 (Nat.le_of_ble_eq_true rfl) ?_
  refine w_iload_n d_m_nearest_3 rfl ?_
  refine w_iconst (v := nI 1) d_m_nearest_4 (by decide +kernel) ?_
  refine w_isub d_m_nearest_5 ?_
  refine w_istore d_m_nearest_6 (Nat.le_of_ble_eq_true rfl) ?_
  exact hk0 m 0 (Nat.le_refl m) (Or.inl rfl) (Int32.le_refl _) (fun j h1 h2 => absurd h2 (by omega)) (fun q => absurd rfl q)
set_option maxRecDepth 100000 in
set_option maxHeartbeats 4000000 in
theorem c_m_parts (S : St) (kind : Int32) (hk : S.1 8 4 = kind) : Ev M_m_parts [.ref 8] S (fun v9 S' => v9 = some (.int (nI (parts kind))) ∧ S' = S) := by
  refine Ev.of MF_m_parts (all_cat rfl) (Nat.le_of_ble_eq_true rfl) ?_
  show Wp M_m_parts 0 [.ref 8] [] _ _
  refine w_aload_n d_m_parts_0 rfl ?_
  refine w_getIV (v := kind) d_m_parts_1 FL_m_128 (by decide) (rfl) (rfl) (hk) ?_
  refine w_if_ne 11 d_m_parts_4 (by decide) (fun h4 => ?_) (fun h4 => ?_)
  · refine w_aload_n d_m_parts_11 rfl ?_
    refine w_getIV (v := kind) d_m_parts_12 FL_m_128 (by decide) (rfl) (rfl) (hk) ?_
    refine w_iconst (v := nI 1) d_m_parts_15 (by decide +kernel) ?_
    refine w_icmp_ne 23 d_m_parts_16 (by decide) (fun h16 => ?_) (fun h16 => ?_)
    · refine w_iconst (v := nI 0) d_m_parts_23 (by decide +kernel) ?_
      refine w_iret (st := []) rfl d_m_parts_24 ?_
      refine ⟨?_, rfl⟩
      have e1 : (nI 1 : Int32) = 1 := by decide
      simp_all [parts]
    · refine w_iconst (v := nI 4) d_m_parts_19 (by decide +kernel) ?_
      refine w_goto 24 d_m_parts_20 (by decide) ?_
      refine w_iret (st := []) rfl d_m_parts_24 ?_
      refine ⟨?_, rfl⟩
      have e1 : (nI 1 : Int32) = 1 := by decide
      simp_all [parts]
  · refine w_iconst (v := nI 2) d_m_parts_7 (by decide +kernel) ?_
    refine w_goto 24 d_m_parts_8 (by decide) ?_
    refine w_iret (st := []) rfl d_m_parts_24 ?_
    refine ⟨?_, rfl⟩
    have e1 : (nI 1 : Int32) = 1 := by decide
    simp_all [parts]
set_option maxRecDepth 100000 in
set_option maxHeartbeats 4000000 in
theorem c_m_size (S : St) (kind : Int32) (hk : S.1 8 4 = kind) : Ev M_m_size [.ref 8] S (fun v9 S' => v9 = some (.int (nI (msz kind))) ∧ S' = S) := by
  refine Ev.of MF_m_size (all_cat rfl) (Nat.le_of_ble_eq_true rfl) ?_
  show Wp M_m_size 0 [.ref 8] [] _ _
  refine w_aload_n d_m_size_0 rfl ?_
  refine w_getIV (v := kind) d_m_size_1 FL_m_128 (by decide) (rfl) (rfl) (hk) ?_
  refine w_if_ne 11 d_m_size_4 (by decide) (fun h4 => ?_) (fun h4 => ?_)
  · refine w_iconst (v := nI 1) d_m_size_11 (by decide +kernel) ?_
    refine w_iret (st := []) rfl d_m_size_12 ?_
    refine ⟨?_, rfl⟩
    unfold msz
    rw [if_neg h4]
  · refine w_iconst (v := nI 2) d_m_size_7 (by decide +kernel) ?_
    refine w_goto 12 d_m_size_8 (by decide) ?_
    refine w_iret (st := []) rfl d_m_size_12 ?_
    refine ⟨?_, rfl⟩
    unfold msz
    rw [if_pos h4]
