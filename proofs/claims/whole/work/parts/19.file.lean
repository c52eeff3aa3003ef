/-! The file: its bytes are b p, 0 to 255; two of them make a number. -/
def prN (b : Nat → Nat) (p : Nat) : Nat := b p * 256 + b (p + 1)
def wcN (b : Nat → Nat) : Nat := (if b 2 = 2 then b 3 else b 3 + b 4) * 4
def esN (b : Nat → Nat) (i : Nat) : Nat := 10 + 2 * wcN b + 6 * i
def csN (b : Nat → Nat) : Nat → Nat
  | 0 => 0
  | p + 1 => csN b p + b p * (p + 1)
def allB (p : Nat → Bool) : Nat → Bool
  | 0 => true
  | n + 1 => allB p n && p n
theorem allB_iff {p : Nat → Bool} : ∀ {n : Nat}, allB p n = true ↔ ∀ i, i < n → p i = true
  | 0 => ⟨fun _ i hi => absurd hi (by omega), fun _ => rfl⟩
  | n + 1 => by
    show (allB p n && p n) = true ↔ _
    rw [Bool.and_eq_true, allB_iff]
    exact ⟨fun h => lt_s h.1 h.2, fun h => ⟨fun i hi => h i (by omega), h n (by omega)⟩⟩
theorem allB_f {p : Nat → Bool} {n i : Nat} (hi : i < n) (h : p i = false) : allB p n = false := by
  cases hq : allB p n with
  | false => rfl
  | true => rw [allB_iff.mp hq i hi] at h; cases h
theorem csN_le {b : Nat → Nat} (hb : ∀ p, b p ≤ 255) : ∀ n, csN b n ≤ 255 * n * n
  | 0 => Nat.le_refl _
  | n + 1 => by
    have h1 := csN_le hb n
    have h2 := Nat.mul_le_mul_right (n + 1) (hb n)
    show csN b n + b n * (n + 1) ≤ 255 * (n + 1) * (n + 1)
    have h3 : 255 * (n + 1) * (n + 1) = 255 * n * n + 255 * (n + 1) + 255 * n := by
      rw [Nat.mul_add, Nat.mul_add, Nat.mul_one, Nat.add_mul, Nat.mul_one]
      omega
    omega
theorem csN_bd {b : Nat → Nat} (hb : ∀ p, p < 250 → b p ≤ 255) {n : Nat} (hn : n ≤ 250) : csN b n ≤ 15937500 := by
  have key : ∀ n, n ≤ 250 → csN b n = csN (fun p => if p < 250 then b p else 0) n := by
    intro n hn
    induction n with
    | zero => rfl
    | succ n ih =>
      show csN b n + b n * (n + 1) = csN _ n + (if n < 250 then b n else 0) * (n + 1)
      rw [ih (by omega), if_pos (by omega)]
  rw [key n hn]
  refine Nat.le_trans (csN_le (fun p => ?_) n) ?_
  · show (if p < 250 then b p else 0) ≤ 255
    split
    · rename_i h; exact hb p h
    · omega
  · exact Nat.le_trans (Nat.mul_le_mul (Nat.mul_le_mul_left 255 hn) hn) (by decide)
def szB (b : Nat → Nat) : Bool := decide (b 2 ≤ 2 ∧ (1 ≤ b 3 ∧ b 3 ≤ 4) ∧ (1 ≤ b 4 ∧ b 4 ≤ 4) ∧ b 5 ≤ 20)
def stN (b : Nat → Nat) (k : Nat) : Int32 := nI (b (6 + k)) - nI 4
def wdB (b : Nat → Nat) : Bool := allB (fun q => decide (prN b (10 + 2 * q) ≤ 600)) (wcN b)
def ptB (b : Nat → Nat) (i : Nat) : Bool := allB (fun k => decide (b (esN b i + 2 + k) ≤ 200)) 4
def idB (b : Nat → Nat) (i : Nat) : Bool := decide (prN b (esN b i) ≤ 999 ∧ (0 < i → prN b (esN b (i - 1)) < prN b (esN b i))) && ptB b i
def faN (b : Nat → Nat) (n : Nat) : Nat :=
  if n < 11 then 1 else if b 0 ≠ 86 then 2 else if b 1 ≠ 1 then 3 else if szB b = false then 4
  else if turnOK (stN b 0) (stN b 1) (stN b 2) (stN b 3) = false then 5 else if n ≠ esN b (b 5) + 1 then 6
  else if b (n - 1) ≠ csN b (n - 1) % 251 then 7 else if wdB b = false then 8 else if allB (idB b) (b 5) = false then 9 else 0
theorem sub_le {v a c : Nat} (hv : v < 2 ^ 30) (ha : a < 2 ^ 30) (hc : c < 2 ^ 30) : nI v - nI a ≤ nI c ↔ v ≤ c + a := by
  rw [Int32.le_iff_toInt_le, pk_sub_toInt hv ha, nI_toInt (by omega)]
  omega
theorem wcN_le {b : Nat → Nat} (h : szB b = true) : wcN b ≤ 32 ∧ 4 ≤ wcN b := by
  have h := of_decide_eq_true h
  unfold wcN
  split <;> omega
theorem bI_and_true {p q : Bool} (hp : p = true) (hq : q = true) : (p && q) = true := by rw [hp, hq]; rfl
set_option maxRecDepth 100000 in
set_option maxHeartbeats 4000000 in
theorem c_y_put (S : St) (n : Nat) (v : Int32) (hn : S.1 7 1 = nI n) (hn2 : n < 250) : Ev M_y_put [.ref 7, .int v] S (fun v9 S' => v9 = none ∧ S' = put (put S 25 n v) 7 1 (nI (n + 1))) := by
  refine Ev.of MF_y_put (all_cat rfl) (Nat.le_of_ble_eq_true rfl) ?_
  show Wp M_y_put 0 [.ref 7, .int v] [] _ _
  refine w_aload_n d_y_put_0 rfl ?_
  refine w_getIV (v := (nI n)) d_y_put_1 FL_y_15 (by decide) (rfl) (rfl) (hn) ?_
  refine w_sipush (v := nI 250) d_y_put_4 (by decide +kernel) ?_
  refine w_icmp_geN 30 d_y_put_7 (by decide) (by omega) (by omega) (fun h7 => ?_) (fun h7 => ?_)
  · exact absurd h7 (by omega)
  · refine w_aload_n d_y_put_10 rfl ?_
    refine w_getR d_y_put_11 FL_y_11 (by decide) (rfl) (rfl) ?_
    refine w_aload_n d_y_put_14 rfl ?_
    refine w_getIV (v := (nI n)) d_y_put_15 FL_y_15 (by decide) (rfl) (rfl) (hn) ?_
    refine w_iload_n d_y_put_18 rfl ?_
    refine w_iastNP d_y_put_19 (by decide) (rfl) (show n < 250 from (by omega)) ?_
    refine w_aload_n d_y_put_20 rfl ?_
    refine w_dup d_y_put_21 rfl ?_
    refine w_getIV (v := (nI n)) d_y_put_22 FL_y_15 (by decide) (rfl) (rfl) (by rw [put_ne (by omega)]; exact hn) ?_
    refine w_iconst (v := nI 1) d_y_put_25 (by decide +kernel) ?_
    refine w_iaddN d_y_put_26 ?_
    show Wp _ 27 _ _ _ _
    refine w_putIP d_y_put_27 FL_y_15 FW_7_1 (by decide) (rfl) (rfl) ?_
    refine w_ret (st := []) rfl d_y_put_30 ?_
    exact ⟨rfl, rfl⟩
/-- the first k bytes of the file are g, and it is so long -/
def wrt (S : St) (g : Nat → Int32) (k : Nat) : St := put (setRow S 25 g k) 7 1 (nI k)
theorem wrt_s {S : St} {g : Nat → Int32} {k : Nat} {v : Int32} (h : v = g k) : put (put (wrt S g k) 25 k v) 7 1 (nI (k + 1)) = wrt S g (k + 1) := by
  unfold wrt
  rw [← setRow_s h]
  refine Prod.ext ?_ rfl
  funext c i
  show (put (put (put (setRow S 25 g k) 7 1 (nI k)) 25 k v) 7 1 (nI (k + 1))).1 c i = (put (put (setRow S 25 g k) 25 k v) 7 1 (nI (k + 1))).1 c i
  by_cases h1 : c = 7 ∧ i = 1
  · obtain ⟨rfl, rfl⟩ := h1
    rw [put_at, put_at]
  · rw [put_ne h1, put_ne h1]
    by_cases h2 : c = 25 ∧ i = k
    · obtain ⟨rfl, rfl⟩ := h2
      rw [put_at, put_at]
    · rw [put_ne h2, put_ne h2, put_ne h1]
theorem wrt_ln {S : St} {g : Nat → Int32} {k : Nat} : (wrt S g k).1 7 1 = nI k := put_at
theorem wrt_ne {S : St} {g : Nat → Int32} {k c i : Nat} (h : c ≠ 25) (h2 : ¬ (c = 7 ∧ i = 1)) : (wrt S g k).1 c i = S.1 c i := by
  unfold wrt
  rw [put_ne h2, setRow_ne h]
theorem wrt_at {S : St} {g : Nat → Int32} {k i : Nat} (h : i < k) : (wrt S g k).1 25 i = g i := by
  unfold wrt
  rw [put_ne (by omega), setRow_at h]
theorem c_put (S : St) (g : Nat → Int32) (k : Nat) (v : Int32) (hk : k < 250) (hv : v = g k) : Ev M_y_put [.ref 7, .int v] (wrt S g k) (fun v9 S' => v9 = none ∧ S' = wrt S g (k + 1)) := by
  rw [← wrt_s hv]
  exact c_y_put (wrt S g k) k v wrt_ln hk
def fby (v : Int32) (r : Nat) : Int32 := if r = 0 then v / nI 256 else v - v / nI 256 * nI 256
set_option maxRecDepth 100000 in
set_option maxHeartbeats 4000000 in
theorem c_y_putPair (S0 : St) (g : Nat → Int32) (k : Nat) (v : Int32) (hk : k < 249) (h0 : fby v 0 = g k) (h1 : fby v 1 = g (k + 1)) (S : St) (hS : S = wrt S0 g k) : Ev M_y_putPair [.ref 7, .int v] S (fun v9 S' => v9 = none ∧ S' = wrt S0 g (k + 2)) := by
  refine Ev.of MF_y_putPair (all_cat rfl) (Nat.le_of_ble_eq_true rfl) ?_
  show Wp M_y_putPair 0 [.ref 7, .int v] [] _ _
  subst hS
  refine w_aload_n d_y_putPair_0 rfl ?_
  refine w_iload_n d_y_putPair_1 rfl ?_
  refine w_sipush (v := nI 256) d_y_putPair_2 (by decide +kernel) ?_
  refine w_idiv d_y_putPair_5 (by decide) ?_
  refine w_callV1 (N := M_y_put) d_y_putPair_6 LK_y_19 MF_y_put MV_y_put NP_y_put (by decide) (by decide) (rfl) rfl rfl (Nat.le_of_ble_eq_true rfl) ?_
  refine Ev.det (c_put S0 g k _ (by omega) h0) ?_
  refine w_aload_n d_y_putPair_9 rfl ?_
  refine w_iload_n d_y_putPair_10 rfl ?_
  refine w_sipush (v := nI 256) d_y_putPair_11 (by decide +kernel) ?_
  refine w_irem d_y_putPair_14 (by decide) ?_
  refine w_callV1 (N := M_y_put) d_y_putPair_15 LK_y_19 MF_y_put MV_y_put NP_y_put (by decide) (by decide) (rfl) rfl rfl (Nat.le_of_ble_eq_true rfl) ?_
  refine Ev.det (c_put S0 g (k + 1) _ (by omega) h1) ?_
  refine w_ret (st := []) rfl d_y_putPair_18 ?_
  exact ⟨rfl, rfl⟩
set_option maxRecDepth 100000 in
set_option maxHeartbeats 4000000 in
theorem c_y_checkOf (S : St) (b : Nat → Nat) (hb : ∀ p, p < 250 → S.1 25 p = nI (b p) ∧ b p ≤ 255) (n : Nat) (hn : n ≤ 250) : Ev M_y_checkOf [.ref 7, .int (nI n)] S (fun v9 S' => v9 = some (.int (nI (csN b n % 251))) ∧ S' = S) := by
  refine Ev.of MF_y_checkOf (all_cat rfl) (Nat.le_of_ble_eq_true rfl) ?_
  show Wp M_y_checkOf 0 [.ref 7, .int (nI n), .null, .null] [] _ _
  have hk0 : ∀ p, p ≤ n → Wp M_y_checkOf 4 [.ref 7, .int (nI n), .int (nI (csN b p)), .int (nI p)] [] S (fun v9 S' => v9 = some (.int (nI (csN b n % 251))) ∧ S' = S) := by
    refine loopUp (n) (fun p hk9 hn9 => ?_)
    have hcs := csN_bd (fun p hp => (hb p hp).2) (show p ≤ 250 by omega)
    refine w_iload_n d_y_checkOf_4 rfl ?_
    refine w_iload_n d_y_checkOf_5 rfl ?_
    refine w_icmp_geN 28 d_y_checkOf_6 (by decide) (by omega) (by omega) (fun h6 => ?_) (fun h6 => ?_)
    · refine w_iload_n d_y_checkOf_28 rfl ?_
      refine w_sipush (v := nI 251) d_y_checkOf_29 (by decide +kernel) ?_
      refine w_iremN d_y_checkOf_32 (by omega) (by omega) (by omega) ?_
      refine w_iret (st := []) rfl d_y_checkOf_33 ?_
      obtain rfl : p = n := by omega
      exact ⟨rfl, rfl⟩
    · refine w_iload_n d_y_checkOf_9 rfl ?_
      refine w_aload_n d_y_checkOf_10 rfl ?_
      refine w_getR d_y_checkOf_11 FL_y_11 (by decide) (rfl) (rfl) ?_
      refine w_iload_n d_y_checkOf_14 rfl ?_
      refine w_ialdNV (v := (nI (b p))) d_y_checkOf_15 (by decide) (rfl) (show p < 250 from (by omega)) ((hb p (by omega)).1) ?_
      refine w_iload_n d_y_checkOf_16 rfl ?_
      refine w_iconst (v := nI 1) d_y_checkOf_17 (by decide +kernel) ?_
      refine w_iaddN d_y_checkOf_18 ?_
      refine w_imulN d_y_checkOf_19 ?_
      refine w_iaddN d_y_checkOf_20 ?_
      refine w_istore_n d_y_checkOf_21 (Nat.le_of_ble_eq_true rfl) ?_
      show Wp _ 22 _ _ _ _
      refine w_iincN d_y_checkOf_22 rfl ?_
      refine w_goto 4 d_y_checkOf_25 (by decide) ?_
      exact hn9 h6
  refine w_iconst (v := nI 0) d_y_checkOf_0 (by decide +kernel) ?_
  refine w_istore_n d_y_checkOf_1 (Nat.le_of_ble_eq_true rfl) ?_
  refine w_iconst (v := nI 0) d_y_checkOf_2 (by decide +kernel) ?_
  refine w_istore_n d_y_checkOf_3 (Nat.le_of_ble_eq_true rfl) ?_
  exact hk0 0 (by omega)
set_option maxRecDepth 100000 in
set_option maxHeartbeats 4000000 in
theorem c_y_step (S : St) (b : Nat → Nat) (hb : ∀ p, p < 250 → S.1 25 p = nI (b p) ∧ b p ≤ 255) (k : Nat) (hk : k < 4) : Ev M_y_step [.ref 7, .int (nI k)] S (fun v9 S' => v9 = some (.int (stN b k)) ∧ S' = S) := by
  refine Ev.of MF_y_step (all_cat rfl) (Nat.le_of_ble_eq_true rfl) ?_
  show Wp M_y_step 0 [.ref 7, .int (nI k)] [] _ _
  refine w_aload_n d_y_step_0 rfl ?_
  refine w_getR d_y_step_1 FL_y_11 (by decide) (rfl) (rfl) ?_
  refine w_bipush (v := nI 6) d_y_step_4 (by decide +kernel) ?_
  refine w_iload_n d_y_step_6 rfl ?_
  refine w_iaddN d_y_step_7 ?_
  refine w_ialdNV (v := (nI (b (6 + k)))) d_y_step_8 (by decide) (rfl) (show 6 + k < 250 from (by omega)) ((hb (6 + k) (by omega)).1) ?_
  refine w_iconst (v := nI 4) d_y_step_9 (by decide +kernel) ?_
  refine w_isub d_y_step_10 ?_
  refine w_iret (st := []) rfl d_y_step_11 ?_
  exact ⟨rfl, rfl⟩
set_option maxRecDepth 100000 in
set_option maxHeartbeats 4000000 in
theorem c_y_pairAt (S : St) (b : Nat → Nat) (hb : ∀ p, p < 250 → S.1 25 p = nI (b p) ∧ b p ≤ 255) (p : Nat) (hp : p + 1 < 250) : Ev M_y_pairAt [.ref 7, .int (nI p)] S (fun v9 S' => v9 = some (.int (nI (prN b p))) ∧ S' = S) := by
  refine Ev.of MF_y_pairAt (all_cat rfl) (Nat.le_of_ble_eq_true rfl) ?_
  show Wp M_y_pairAt 0 [.ref 7, .int (nI p)] [] _ _
  refine w_aload_n d_y_pairAt_0 rfl ?_
  refine w_getR d_y_pairAt_1 FL_y_11 (by decide) (rfl) (rfl) ?_
  refine w_iload_n d_y_pairAt_4 rfl ?_
  refine w_ialdNV (v := (nI (b p))) d_y_pairAt_5 (by decide) (rfl) (show p < 250 from (by omega)) ((hb p (by omega)).1) ?_
  refine w_sipush (v := nI 256) d_y_pairAt_6 (by decide +kernel) ?_
  refine w_imulN d_y_pairAt_9 ?_
  refine w_aload_n d_y_pairAt_10 rfl ?_
  refine w_getR d_y_pairAt_11 FL_y_11 (by decide) (rfl) (rfl) ?_
  refine w_iload_n d_y_pairAt_14 rfl ?_
  refine w_iconst (v := nI 1) d_y_pairAt_15 (by decide +kernel) ?_
  refine w_iaddN d_y_pairAt_16 ?_
  show Wp _ 17 _ _ _ _
  refine w_ialdNV (v := (nI (b (p + 1)))) d_y_pairAt_17 (by decide) (rfl) (show p + 1 < 250 from (by omega)) ((hb (p + 1) (by omega)).1) ?_
  refine w_iaddN d_y_pairAt_18 ?_
  refine w_iret (st := []) rfl d_y_pairAt_19 ?_
  exact ⟨rfl, rfl⟩
set_option maxRecDepth 100000 in
set_option maxHeartbeats 4000000 in
theorem c_y_wide (S : St) (b : Nat → Nat) (hb : ∀ p, p < 250 → S.1 25 p = nI (b p) ∧ b p ≤ 255) (q : Nat) (hq : q < 100) : Ev M_y_wide [.ref 7, .int (nI q)] S (fun v9 S' => v9 = some (.int (nI (prN b (10 + 2 * q)) - nI 300)) ∧ S' = S) := by
  refine Ev.of MF_y_wide (all_cat rfl) (Nat.le_of_ble_eq_true rfl) ?_
  show Wp M_y_wide 0 [.ref 7, .int (nI q)] [] _ _
  refine w_aload_n d_y_wide_0 rfl ?_
  refine w_bipush (v := nI 10) d_y_wide_1 (by decide +kernel) ?_
  refine w_iconst (v := nI 2) d_y_wide_3 (by decide +kernel) ?_
  refine w_iload_n d_y_wide_4 rfl ?_
  refine w_imulN d_y_wide_5 ?_
  refine w_iaddN d_y_wide_6 ?_
  refine w_callV1 (N := M_y_pairAt) d_y_wide_7 LK_y_23 MF_y_pairAt MV_y_pairAt NP_y_pairAt (by decide) (by decide) (rfl) rfl rfl (Nat.le_of_ble_eq_true rfl) ?_
  refine Ev.det (c_y_pairAt S b hb _ (by omega)) ?_
  refine w_sipush (v := nI 300) d_y_wide_10 (by decide +kernel) ?_
  refine w_isub d_y_wide_13 ?_
  refine w_iret (st := []) rfl d_y_wide_14 ?_
  exact ⟨rfl, rfl⟩
set_option maxRecDepth 100000 in
set_option maxHeartbeats 4000000 in
theorem c_y_wideCount (S : St) (b : Nat → Nat) (hb : ∀ p, p < 250 → S.1 25 p = nI (b p) ∧ b p ≤ 255) : Ev M_y_wideCount [.ref 7] S (fun v9 S' => v9 = some (.int (nI (wcN b))) ∧ S' = S) := by
  refine Ev.of MF_y_wideCount (all_cat rfl) (Nat.le_of_ble_eq_true rfl) ?_
  show Wp M_y_wideCount 0 [.ref 7, .null] [] _ _
  have h2 := (hb 2 (by decide)).2
  refine w_aload_n d_y_wideCount_0 rfl ?_
  refine w_getR d_y_wideCount_1 FL_y_11 (by decide) (rfl) (rfl) ?_
  refine w_iconst (v := nI 2) d_y_wideCount_4 (by decide +kernel) ?_
  refine w_ialdNV (v := (nI (b 2))) d_y_wideCount_5 (by decide) (rfl) (show 2 < 250 from (by omega)) ((hb 2 (by decide)).1) ?_
  refine w_iconst (v := nI 2) d_y_wideCount_6 (by decide +kernel) ?_
  refine w_icmp_neN 19 d_y_wideCount_7 (by decide) (by omega) (by omega) (fun h7 => ?_) (fun h7 => ?_)
  · refine w_aload_n d_y_wideCount_19 rfl ?_
    refine w_getR d_y_wideCount_20 FL_y_11 (by decide) (rfl) (rfl) ?_
    refine w_iconst (v := nI 3) d_y_wideCount_23 (by decide +kernel) ?_
    refine w_ialdNV (v := (nI (b 3))) d_y_wideCount_24 (by decide) (rfl) (show 3 < 250 from (by omega)) ((hb 3 (by decide)).1) ?_
    refine w_aload_n d_y_wideCount_25 rfl ?_
    refine w_getR d_y_wideCount_26 FL_y_11 (by decide) (rfl) (rfl) ?_
    refine w_iconst (v := nI 4) d_y_wideCount_29 (by decide +kernel) ?_
    refine w_ialdNV (v := (nI (b 4))) d_y_wideCount_30 (by decide) (rfl) (show 4 < 250 from (by omega)) ((hb 4 (by decide)).1) ?_
    refine w_iaddN d_y_wideCount_31 ?_
    refine w_istore_n d_y_wideCount_32 (Nat.le_of_ble_eq_true rfl) ?_
    refine w_iload_n d_y_wideCount_33 rfl ?_
    show Wp _ 34 _ _ _ _
    refine w_iconst (v := nI 4) d_y_wideCount_34 (by decide +kernel) ?_
    refine w_imulN d_y_wideCount_35 ?_
    refine w_iret (st := []) rfl d_y_wideCount_36 ?_
    exact ⟨by unfold wcN; rw [if_neg h7], rfl⟩
  · refine w_aload_n d_y_wideCount_10 rfl ?_
    refine w_getR d_y_wideCount_11 FL_y_11 (by decide) (rfl) (rfl) ?_
    refine w_iconst (v := nI 3) d_y_wideCount_14 (by decide +kernel) ?_
    refine w_ialdNV (v := (nI (b 3))) d_y_wideCount_15 (by decide) (rfl) (show 3 < 250 from (by omega)) ((hb 3 (by decide)).1) ?_
    refine w_goto 32 d_y_wideCount_16 (by decide) ?_
    refine w_istore_n d_y_wideCount_32 (Nat.le_of_ble_eq_true rfl) ?_
    refine w_iload_n d_y_wideCount_33 rfl ?_
    refine w_iconst (v := nI 4) d_y_wideCount_34 (by decide +kernel) ?_
    refine w_imulN d_y_wideCount_35 ?_
    refine w_iret (st := []) rfl d_y_wideCount_36 ?_
    exact ⟨by unfold wcN; rw [if_pos h7], rfl⟩
set_option maxRecDepth 100000 in
set_option maxHeartbeats 4000000 in
theorem c_y_entryStart (S : St) (b : Nat → Nat) (hb : ∀ p, p < 250 → S.1 25 p = nI (b p) ∧ b p ≤ 255) (i : Nat) : Ev M_y_entryStart [.ref 7, .int (nI i)] S (fun v9 S' => v9 = some (.int (nI (esN b i))) ∧ S' = S) := by
  refine Ev.of MF_y_entryStart (all_cat rfl) (Nat.le_of_ble_eq_true rfl) ?_
  show Wp M_y_entryStart 0 [.ref 7, .int (nI i)] [] _ _
  refine w_bipush (v := nI 10) d_y_entryStart_0 (by decide +kernel) ?_
  refine w_iconst (v := nI 2) d_y_entryStart_2 (by decide +kernel) ?_
  refine w_aload_n d_y_entryStart_3 rfl ?_
  refine w_callV0 (N := M_y_wideCount) d_y_entryStart_4 LK_y_56 MF_y_wideCount MV_y_wideCount NP_y_wideCount (by decide) (by decide) (rfl) rfl rfl (Nat.le_of_ble_eq_true rfl) ?_
  refine Ev.det (c_y_wideCount S b hb) ?_
  refine w_imulN d_y_entryStart_7 ?_
  refine w_iaddN d_y_entryStart_8 ?_
  refine w_bipush (v := nI 6) d_y_entryStart_9 (by decide +kernel) ?_
  refine w_iload_n d_y_entryStart_11 rfl ?_
  refine w_imulN d_y_entryStart_12 ?_
  refine w_iaddN d_y_entryStart_13 ?_
  refine w_iret (st := []) rfl d_y_entryStart_14 ?_
  exact ⟨rfl, rfl⟩
set_option maxRecDepth 100000 in
set_option maxHeartbeats 4000000 in
theorem c_y_entryId (S : St) (b : Nat → Nat) (hb : ∀ p, p < 250 → S.1 25 p = nI (b p) ∧ b p ≤ 255) (i : Nat) (hi : esN b i + 1 < 250) : Ev M_y_entryId [.ref 7, .int (nI i)] S (fun v9 S' => v9 = some (.int (nI (prN b (esN b i)))) ∧ S' = S) := by
  refine Ev.of MF_y_entryId (all_cat rfl) (Nat.le_of_ble_eq_true rfl) ?_
  show Wp M_y_entryId 0 [.ref 7, .int (nI i)] [] _ _
  refine w_aload_n d_y_entryId_0 rfl ?_
  refine w_aload_n d_y_entryId_1 rfl ?_
  refine w_iload_n d_y_entryId_2 rfl ?_
  refine w_callV1 (N := M_y_entryStart) d_y_entryId_3 LK_y_27 MF_y_entryStart MV_y_entryStart NP_y_entryStart (by decide) (by decide) (rfl) rfl rfl (Nat.le_of_ble_eq_true rfl) ?_
  refine Ev.det (c_y_entryStart S b hb _) ?_
  refine w_callV1 (N := M_y_pairAt) d_y_entryId_6 LK_y_23 MF_y_pairAt MV_y_pairAt NP_y_pairAt (by decide) (by decide) (rfl) rfl rfl (Nat.le_of_ble_eq_true rfl) ?_
  refine Ev.det (c_y_pairAt S b hb _ (by omega)) ?_
  refine w_iret (st := []) rfl d_y_entryId_9 ?_
  exact ⟨rfl, rfl⟩
set_option maxRecDepth 100000 in
set_option maxHeartbeats 4000000 in
theorem c_y_entryCoordinate (S : St) (b : Nat → Nat) (hb : ∀ p, p < 250 → S.1 25 p = nI (b p) ∧ b p ≤ 255) (i k : Nat) (hi : esN b i + 2 + k < 250) : Ev M_y_entryCoordinate [.ref 7, .int (nI i), .int (nI k)] S (fun v9 S' => v9 = some (.int (nI (b (esN b i + 2 + k)) - nI 100)) ∧ S' = S) := by
  refine Ev.of MF_y_entryCoordinate (all_cat rfl) (Nat.le_of_ble_eq_true rfl) ?_
  show Wp M_y_entryCoordinate 0 [.ref 7, .int (nI i), .int (nI k)] [] _ _
  refine w_aload_n d_y_entryCoordinate_0 rfl ?_
  refine w_getR d_y_entryCoordinate_1 FL_y_11 (by decide) (rfl) (rfl) ?_
  refine w_aload_n d_y_entryCoordinate_4 rfl ?_
  refine w_iload_n d_y_entryCoordinate_5 rfl ?_
  refine w_callV1 (N := M_y_entryStart) d_y_entryCoordinate_6 LK_y_27 MF_y_entryStart MV_y_entryStart NP_y_entryStart (by decide) (by decide) (rfl) rfl rfl (Nat.le_of_ble_eq_true rfl) ?_
  refine Ev.det (c_y_entryStart S b hb _) ?_
  refine w_iconst (v := nI 2) d_y_entryCoordinate_9 (by decide +kernel) ?_
  refine w_iaddN d_y_entryCoordinate_10 ?_
  refine w_iload_n d_y_entryCoordinate_11 rfl ?_
  refine w_iaddN d_y_entryCoordinate_12 ?_
  refine w_ialdNV (v := (nI (b (esN b i + 2 + k)))) d_y_entryCoordinate_13 (by decide) (rfl) (show ((esN b i) + 2) + k < 250 from (by omega)) ((hb (esN b i + 2 + k) (by omega)).1) ?_
  refine w_bipush (v := nI 100) d_y_entryCoordinate_14 (by decide +kernel) ?_
  show Wp _ 16 _ _ _ _
  refine w_isub d_y_entryCoordinate_16 ?_
  refine w_iret (st := []) rfl d_y_entryCoordinate_17 ?_
  exact ⟨rfl, rfl⟩
set_option maxRecDepth 100000 in
set_option maxHeartbeats 4000000 in
theorem c_y_hasSizes (S : St) (b : Nat → Nat) (hb : ∀ p, p < 250 → S.1 25 p = nI (b p) ∧ b p ≤ 255) : Ev M_y_hasSizes [.ref 7] S (fun v9 S' => v9 = some (.int (bI (szB b))) ∧ S' = S) := by
  refine Ev.of MF_y_hasSizes (all_cat rfl) (Nat.le_of_ble_eq_true rfl) ?_
  show Wp M_y_hasSizes 0 [.ref 7] [] _ _
  refine w_aload_n d_y_hasSizes_0 rfl ?_
  refine w_getR d_y_hasSizes_1 FL_y_11 (by decide) (rfl) (rfl) ?_
  refine w_iconst (v := nI 2) d_y_hasSizes_4 (by decide +kernel) ?_
  refine w_ialdNV (v := (nI (b 2))) d_y_hasSizes_5 (by decide) (rfl) (show 2 < 250 from (by omega)) ((hb 2 (by decide)).1) ?_
  refine w_iconst (v := nI 0) d_y_hasSizes_6 (by decide +kernel) ?_
  refine w_iconst (v := nI 2) d_y_hasSizes_7 (by decide +kernel) ?_
  refine w_callS3 (N := M_q_isWithin) d_y_hasSizes_8 LK_y_52 MF_q_isWithin MS_q_isWithin NP_q_isWithin (by decide) rfl (Nat.le_of_ble_eq_true rfl) ?_
  refine Ev.det (c_q_isWithin _ _ _ _) ?_
  refine w_if_eqB 61 d_y_hasSizes_11 (by decide) (fun h11 => ?_) (fun h11 => ?_)
  · refine w_iconst (v := nI 0) d_y_hasSizes_61 (by decide +kernel) ?_
    refine w_zret (st := []) rfl d_y_hasSizes_62 (by decide) ?_
    have q1 : ∀ {v lo hi : Nat}, v ≤ 255 → lo ≤ 255 → hi ≤ 255 → ((nI lo ≤ nI v ∧ nI v ≤ nI hi) ↔ (lo ≤ v ∧ v ≤ hi)) := fun h1 h2 h3 => by rw [nI_leI (by omega) (by omega), nI_leI (by omega) (by omega)]
    have z := of_decide_eq_false h11
    rw [q1 (hb 2 (by decide)).2 (by decide) (by decide)] at z
    exact ⟨rb0 (decide_eq_false (by omega)), rfl⟩
  · refine w_aload_n d_y_hasSizes_14 rfl ?_
    refine w_getR d_y_hasSizes_15 FL_y_11 (by decide) (rfl) (rfl) ?_
    refine w_iconst (v := nI 3) d_y_hasSizes_18 (by decide +kernel) ?_
    refine w_ialdNV (v := (nI (b 3))) d_y_hasSizes_19 (by decide) (rfl) (show 3 < 250 from (by omega)) ((hb 3 (by decide)).1) ?_
    refine w_iconst (v := nI 1) d_y_hasSizes_20 (by decide +kernel) ?_
    refine w_iconst (v := nI 4) d_y_hasSizes_21 (by decide +kernel) ?_
    refine w_callS3 (N := M_q_isWithin) d_y_hasSizes_22 LK_y_52 MF_q_isWithin MS_q_isWithin NP_q_isWithin (by decide) rfl (Nat.le_of_ble_eq_true rfl) ?_
    refine Ev.det (c_q_isWithin _ _ _ _) ?_
    refine w_if_eqB 61 d_y_hasSizes_25 (by decide) (fun h25 => ?_) (fun h25 => ?_)
    · refine w_iconst (v := nI 0) d_y_hasSizes_61 (by decide +kernel) ?_
      refine w_zret (st := []) rfl d_y_hasSizes_62 (by decide) ?_
      have q1 : ∀ {v lo hi : Nat}, v ≤ 255 → lo ≤ 255 → hi ≤ 255 → ((nI lo ≤ nI v ∧ nI v ≤ nI hi) ↔ (lo ≤ v ∧ v ≤ hi)) := fun h1 h2 h3 => by rw [nI_leI (by omega) (by omega), nI_leI (by omega) (by omega)]
      have z := of_decide_eq_false h25
      rw [q1 (hb 3 (by decide)).2 (by decide) (by decide)] at z
      exact ⟨rb0 (decide_eq_false (by omega)), rfl⟩
    · refine w_aload_n d_y_hasSizes_28 rfl ?_
      refine w_getR d_y_hasSizes_29 FL_y_11 (by decide) (rfl) (rfl) ?_
      refine w_iconst (v := nI 4) d_y_hasSizes_32 (by decide +kernel) ?_
      refine w_ialdNV (v := (nI (b 4))) d_y_hasSizes_33 (by decide) (rfl) (show 4 < 250 from (by omega)) ((hb 4 (by decide)).1) ?_
      refine w_iconst (v := nI 1) d_y_hasSizes_34 (by decide +kernel) ?_
      refine w_iconst (v := nI 4) d_y_hasSizes_35 (by decide +kernel) ?_
      refine w_callS3 (N := M_q_isWithin) d_y_hasSizes_36 LK_y_52 MF_q_isWithin MS_q_isWithin NP_q_isWithin (by decide) rfl (Nat.le_of_ble_eq_true rfl) ?_
      refine Ev.det (c_q_isWithin _ _ _ _) ?_
      refine w_if_eqB 61 d_y_hasSizes_39 (by decide) (fun h39 => ?_) (fun h39 => ?_)
      · refine w_iconst (v := nI 0) d_y_hasSizes_61 (by decide +kernel) ?_
        refine w_zret (st := []) rfl d_y_hasSizes_62 (by decide) ?_
        have q1 : ∀ {v lo hi : Nat}, v ≤ 255 → lo ≤ 255 → hi ≤ 255 → ((nI lo ≤ nI v ∧ nI v ≤ nI hi) ↔ (lo ≤ v ∧ v ≤ hi)) := fun h1 h2 h3 => by rw [nI_leI (by omega) (by omega), nI_leI (by omega) (by omega)]
        have z := of_decide_eq_false h39
        rw [q1 (hb 4 (by decide)).2 (by decide) (by decide)] at z
        exact ⟨rb0 (decide_eq_false (by omega)), rfl⟩
      · refine w_aload_n d_y_hasSizes_42 rfl ?_
        refine w_getR d_y_hasSizes_43 FL_y_11 (by decide) (rfl) (rfl) ?_
        refine w_iconst (v := nI 5) d_y_hasSizes_46 (by decide +kernel) ?_
        refine w_ialdNV (v := (nI (b 5))) d_y_hasSizes_47 (by decide) (rfl) (show 5 < 250 from (by omega)) ((hb 5 (by decide)).1) ?_
        refine w_iconst (v := nI 0) d_y_hasSizes_48 (by decide +kernel) ?_
        refine w_bipush (v := nI 20) d_y_hasSizes_49 (by decide +kernel) ?_
        refine w_callS3 (N := M_q_isWithin) d_y_hasSizes_51 LK_y_52 MF_q_isWithin MS_q_isWithin NP_q_isWithin (by decide) rfl (Nat.le_of_ble_eq_true rfl) ?_
        refine Ev.det (c_q_isWithin _ _ _ _) ?_
        refine w_if_eqB 61 d_y_hasSizes_54 (by decide) (fun h54 => ?_) (fun h54 => ?_)
        · refine w_iconst (v := nI 0) d_y_hasSizes_61 (by decide +kernel) ?_
          refine w_zret (st := []) rfl d_y_hasSizes_62 (by decide) ?_
          have q1 : ∀ {v lo hi : Nat}, v ≤ 255 → lo ≤ 255 → hi ≤ 255 → ((nI lo ≤ nI v ∧ nI v ≤ nI hi) ↔ (lo ≤ v ∧ v ≤ hi)) := fun h1 h2 h3 => by rw [nI_leI (by omega) (by omega), nI_leI (by omega) (by omega)]
          have z := of_decide_eq_false h54
          rw [q1 (hb 5 (by decide)).2 (by decide) (by decide)] at z
          exact ⟨rb0 (decide_eq_false (by omega)), rfl⟩
        · refine w_iconst (v := nI 1) d_y_hasSizes_57 (by decide +kernel) ?_
          refine w_goto 62 d_y_hasSizes_58 (by decide) ?_
          refine w_zret (st := []) rfl d_y_hasSizes_62 (by decide) ?_
          have q1 : ∀ {v lo hi : Nat}, v ≤ 255 → lo ≤ 255 → hi ≤ 255 → ((nI lo ≤ nI v ∧ nI v ≤ nI hi) ↔ (lo ≤ v ∧ v ≤ hi)) := fun h1 h2 h3 => by rw [nI_leI (by omega) (by omega), nI_leI (by omega) (by omega)]
          have z11 := (q1 (hb 2 (by decide)).2 (by decide) (by decide)).mp (of_decide_eq_true h11)
          have z25 := (q1 (hb 3 (by decide)).2 (by decide) (by decide)).mp (of_decide_eq_true h25)
          have z39 := (q1 (hb 4 (by decide)).2 (by decide) (by decide)).mp (of_decide_eq_true h39)
          have z54 := (q1 (hb 5 (by decide)).2 (by decide) (by decide)).mp (of_decide_eq_true h54)
          exact ⟨rb1 (decide_eq_true (by omega)), rfl⟩
set_option maxRecDepth 100000 in
set_option maxHeartbeats 4000000 in
theorem c_y_hasWides (S : St) (b : Nat → Nat) (hb : ∀ p, p < 250 → S.1 25 p = nI (b p) ∧ b p ≤ 255) (hw : wcN b ≤ 32) : Ev M_y_hasWides [.ref 7] S (fun v9 S' => v9 = some (.int (bI (wdB b))) ∧ S' = S) := by
  refine Ev.of MF_y_hasWides (all_cat rfl) (Nat.le_of_ble_eq_true rfl) ?_
  show Wp M_y_hasWides 0 [.ref 7, .null] [] _ _
  have hk0 : ∀ q, q ≤ wcN b → (∀ j, j < q → (fun q => decide (prN b (10 + 2 * q) ≤ 600)) j = true) → Wp M_y_hasWides 2 [.ref 7, .int (nI q)] [] S (fun v9 S' => v9 = some (.int (bI (wdB b))) ∧ S' = S) := by
    refine loopUp (wcN b) (fun q hk9 hn9 => ?_)
    intro h1
    refine w_iload_n d_y_hasWides_2 rfl ?_
    refine w_aload_n d_y_hasWides_3 rfl ?_
    refine w_callV0 (N := M_y_wideCount) d_y_hasWides_4 LK_y_56 MF_y_wideCount MV_y_wideCount NP_y_wideCount (by decide) (by decide) (rfl) rfl rfl (Nat.le_of_ble_eq_true rfl) ?_
    refine Ev.det (c_y_wideCount S b hb) ?_
    refine w_icmp_geN 29 d_y_hasWides_7 (by decide) (by omega) (by omega) (fun h7 => ?_) (fun h7 => ?_)
    · refine w_iconst (v := nI 1) d_y_hasWides_29 (by decide +kernel) ?_
      refine w_zret (st := []) rfl d_y_hasWides_30 (by decide) ?_
      obtain rfl : q = wcN b := by omega
      exact ⟨rb1 (allB_iff.mpr h1), rfl⟩
    · refine w_aload_n d_y_hasWides_10 rfl ?_
      refine w_iload_n d_y_hasWides_11 rfl ?_
      refine w_callV1 (N := M_y_wide) d_y_hasWides_12 LK_y_60 MF_y_wide MV_y_wide NP_y_wide (by decide) (by decide) (rfl) rfl rfl (Nat.le_of_ble_eq_true rfl) ?_
      refine Ev.det (c_y_wide S b hb q (by omega)) ?_
      have hb1 := (hb (10 + 2 * q) (by omega)).2
      have hb2 := (hb (10 + 2 * q + 1) (by omega)).2
      have hpr : prN b (10 + 2 * q) < 2 ^ 30 := by unfold prN; omega
      refine w_sipush (v := nI 300) d_y_hasWides_15 (by decide +kernel) ?_
      refine w_icmp_le 23 d_y_hasWides_18 (by decide) (fun h18 => ?_) (fun h18 => ?_)
      · refine w_iincN d_y_hasWides_23 rfl ?_
        refine w_goto 2 d_y_hasWides_26 (by decide) ?_
        exact hn9 h7 (lt_s h1 (decide_eq_true (by have := (sub_le hpr (by decide) (by decide)).mp h18; omega)))
      · refine w_iconst (v := nI 0) d_y_hasWides_21 (by decide +kernel) ?_
        refine w_zret (st := []) rfl d_y_hasWides_22 (by decide) ?_
        exact ⟨rb0 (allB_f h7 (decide_eq_false (fun z => h18 ((sub_le hpr (by decide) (by decide)).mpr (by omega))))), rfl⟩
  refine w_iconst (v := nI 0) d_y_hasWides_0 (by decide +kernel) ?_
  refine w_istore_n d_y_hasWides_1 (Nat.le_of_ble_eq_true rfl) ?_
  exact hk0 0 (by omega) lt_0
set_option maxRecDepth 100000 in
set_option maxHeartbeats 4000000 in
theorem c_y_hasPoint (S : St) (b : Nat → Nat) (hb : ∀ p, p < 250 → S.1 25 p = nI (b p) ∧ b p ≤ 255) (i : Nat) (hi : esN b i + 6 ≤ 250) : Ev M_y_hasPoint [.ref 7, .int (nI i)] S (fun v9 S' => v9 = some (.int (bI (ptB b i))) ∧ S' = S) := by
  refine Ev.of MF_y_hasPoint (all_cat rfl) (Nat.le_of_ble_eq_true rfl) ?_
  show Wp M_y_hasPoint 0 [.ref 7, .int (nI i), .null] [] _ _
  have hk0 : ∀ k, k ≤ 4 → (∀ j, j < k → (fun k => decide (b (esN b i + 2 + k) ≤ 200)) j = true) → Wp M_y_hasPoint 2 [.ref 7, .int (nI i), .int (nI k)] [] S (fun v9 S' => v9 = some (.int (bI (ptB b i))) ∧ S' = S) := by
    refine loopUp (4) (fun k hk9 hn9 => ?_)
    intro h1
    refine w_iload_n d_y_hasPoint_2 rfl ?_
    refine w_iconst (v := nI 4) d_y_hasPoint_3 (by decide +kernel) ?_
    refine w_icmp_geN 26 d_y_hasPoint_4 (by decide) (by omega) (by omega) (fun h4 => ?_) (fun h4 => ?_)
    · refine w_iconst (v := nI 1) d_y_hasPoint_26 (by decide +kernel) ?_
      refine w_zret (st := []) rfl d_y_hasPoint_27 (by decide) ?_
      obtain rfl : k = 4 := by omega
      exact ⟨rb1 (allB_iff.mpr h1), rfl⟩
    · refine w_aload_n d_y_hasPoint_7 rfl ?_
      refine w_iload_n d_y_hasPoint_8 rfl ?_
      refine w_iload_n d_y_hasPoint_9 rfl ?_
      refine w_callV2 (N := M_y_entryCoordinate) d_y_hasPoint_10 LK_y_70 MF_y_entryCoordinate MV_y_entryCoordinate NP_y_entryCoordinate (by decide) (by decide) (rfl) rfl rfl (Nat.le_of_ble_eq_true rfl) ?_
      refine Ev.det (c_y_entryCoordinate S b hb i k (by omega)) ?_
      have hb1 := (hb (esN b i + 2 + k) (by omega)).2
      refine w_bipush (v := nI 100) d_y_hasPoint_13 (by decide +kernel) ?_
      refine w_icmp_le 20 d_y_hasPoint_15 (by decide) (fun h15 => ?_) (fun h15 => ?_)
      · refine w_iincN d_y_hasPoint_20 rfl ?_
        refine w_goto 2 d_y_hasPoint_23 (by decide) ?_
        exact hn9 h4 (lt_s h1 (decide_eq_true (by have := (sub_le (by omega) (by decide) (by decide)).mp h15; omega)))
      · refine w_iconst (v := nI 0) d_y_hasPoint_18 (by decide +kernel) ?_
        refine w_zret (st := []) rfl d_y_hasPoint_19 (by decide) ?_
        exact ⟨rb0 (allB_f h4 (decide_eq_false (fun z => h15 ((sub_le (by omega) (by decide) (by decide)).mpr (by omega))))), rfl⟩
  refine w_iconst (v := nI 0) d_y_hasPoint_0 (by decide +kernel) ?_
  refine w_istore_n d_y_hasPoint_1 (Nat.le_of_ble_eq_true rfl) ?_
  exact hk0 0 (by omega) lt_0
set_option maxRecDepth 100000 in
set_option maxHeartbeats 4000000 in
theorem c_y_hasEntries (S : St) (b : Nat → Nat) (hb : ∀ p, p < 250 → S.1 25 p = nI (b p) ∧ b p ≤ 255) (he : esN b (b 5) < 250) : Ev M_y_hasEntries [.ref 7] S (fun v9 S' => v9 = some (.int (bI (allB (idB b) (b 5)))) ∧ S' = S) := by
  refine Ev.of MF_y_hasEntries (all_cat rfl) (Nat.le_of_ble_eq_true rfl) ?_
  show Wp M_y_hasEntries 0 [.ref 7, .null, .null, .null] [] _ _
  have pv : ∀ i, i < b 5 → prN b (esN b i) ≤ 65535 := fun i hi => by have h1 := (hb (esN b i) (by have := he; unfold esN at this ⊢; omega)).2; have h2 := (hb (esN b i + 1) (by have := he; unfold esN at this ⊢; omega)).2; unfold prN; omega
  have h5 := (hb 5 (by decide)).2
  have hk0 : ∀ i, i ≤ b 5 → ∀ (v : Int32) (x3 : Value), (∀ j, j < i → idB b j = true) → (i = 0 ∧ v = -1 ∨ 0 < i ∧ v = nI (prN b (esN b (i - 1)))) → Wp M_y_hasEntries 4 [.ref 7, .int v, .int (nI i), x3] [] S (fun v9 S' => v9 = some (.int (bI (allB (idB b) (b 5)))) ∧ S' = S) := by
    refine loopUp (b 5) (fun i hk9 hn9 => ?_)
    intro v x3 h1 hv
    refine w_iload_n d_y_hasEntries_4 rfl ?_
    refine w_aload_n d_y_hasEntries_5 rfl ?_
    refine w_getR d_y_hasEntries_6 FL_y_11 (by decide) (rfl) (rfl) ?_
    refine w_iconst (v := nI 5) d_y_hasEntries_9 (by decide +kernel) ?_
    refine w_ialdNV (v := (nI (b 5))) d_y_hasEntries_10 (by decide) (rfl) (show 5 < 250 from (by omega)) ((hb 5 (by decide)).1) ?_
    refine w_icmp_geN 50 d_y_hasEntries_11 (by decide) (by omega) (by omega) (fun h11 => ?_) (fun h11 => ?_)
    · refine w_iconst (v := nI 1) d_y_hasEntries_50 (by decide +kernel) ?_
      refine w_zret (st := []) rfl d_y_hasEntries_51 (by decide) ?_
      obtain rfl : i = b 5 := by omega
      exact ⟨rb1 (allB_iff.mpr h1), rfl⟩
    · refine w_aload_n d_y_hasEntries_14 rfl ?_
      refine w_iload_n d_y_hasEntries_15 rfl ?_
      refine w_callV1 (N := M_y_entryId) d_y_hasEntries_16 LK_y_63 MF_y_entryId MV_y_entryId NP_y_entryId (by decide) (by decide) (rfl) rfl rfl (Nat.le_of_ble_eq_true rfl) ?_
      have hei : esN b i + 6 ≤ 250 := by have := he; unfold esN at this ⊢; omega
      refine Ev.det (c_y_entryId S b hb i (by omega)) ?_
      have hpi := pv i h11
      refine w_istore_n d_y_hasEntries_19 (Nat.le_of_ble_eq_true rfl) ?_
      refine w_iload_n d_y_hasEntries_20 rfl ?_
      refine w_sipush (v := nI 999) d_y_hasEntries_21 (by decide +kernel) ?_
      refine w_icmp_gtN 40 d_y_hasEntries_24 (by decide) (by omega) (by omega) (fun h24 => ?_) (fun h24 => ?_)
      · refine w_iconst (v := nI 0) d_y_hasEntries_40 (by decide +kernel) ?_
        refine w_zret (st := []) rfl d_y_hasEntries_41 (by decide) ?_
        exact ⟨rb0 (allB_f h11 (by unfold idB; rw [decide_eq_false (fun z => absurd z.1 (by omega))]; rfl)), rfl⟩
      · refine w_iload_n d_y_hasEntries_27 rfl ?_
        refine w_iload_n d_y_hasEntries_28 rfl ?_
        refine w_icmp_le 40 d_y_hasEntries_29 (by decide) (fun h29 => ?_) (fun h29 => ?_)
        · refine w_iconst (v := nI 0) d_y_hasEntries_40 (by decide +kernel) ?_
          refine w_zret (st := []) rfl d_y_hasEntries_41 (by decide) ?_
          refine ⟨rb0 (allB_f h11 ?_), rfl⟩
          unfold idB
          rw [decide_eq_false ?_]
          · rfl
          · intro z
            rcases hv with ⟨h0, hv⟩ | ⟨h0, hv⟩
            · rw [hv] at h29
              exact absurd h29 (Int32.not_le.mpr (by rw [Int32.lt_iff_toInt_lt, nI_toInt (by omega)]; have : ((-1 : Int32)).toInt = -1 := by decide
                                                     omega))
            · rw [hv, nI_leI (by omega) (by have := pv (i - 1) (by omega); omega)] at h29
              have := z.2 (by omega)
              omega
        · refine w_aload_n d_y_hasEntries_32 rfl ?_
          refine w_iload_n d_y_hasEntries_33 rfl ?_
          refine w_callV1 (N := M_y_hasPoint) d_y_hasEntries_34 LK_y_66 MF_y_hasPoint MV_y_hasPoint NP_y_hasPoint (by decide) (by decide) (rfl) rfl rfl (Nat.le_of_ble_eq_true rfl) ?_
          refine Ev.det (c_y_hasPoint S b hb i hei) ?_
          refine w_if_neB 42 d_y_hasEntries_37 (by decide) (fun h37 => ?_) (fun h37 => ?_)
          · refine w_iload_n d_y_hasEntries_42 rfl ?_
            refine w_istore_n d_y_hasEntries_43 (Nat.le_of_ble_eq_true rfl) ?_
            refine w_iincN d_y_hasEntries_44 rfl ?_
            refine w_goto 4 d_y_hasEntries_47 (by decide) ?_
            refine hn9 h11 _ _ (lt_s h1 ?_) (Or.inr ⟨by omega, rfl⟩)
            unfold idB
            refine bI_and_true (decide_eq_true ⟨by omega, fun h0 => ?_⟩) h37
            rcases hv with ⟨h00, hv⟩ | ⟨h00, hv⟩
            · omega
            · rw [hv, nI_leI (by omega) (by have := pv (i - 1) (by omega); omega)] at h29
              omega
          · refine w_iconst (v := nI 0) d_y_hasEntries_40 (by decide +kernel) ?_
            refine w_zret (st := []) rfl d_y_hasEntries_41 (by decide) ?_
            exact ⟨rb0 (allB_f h11 (by unfold idB; rw [h37, Bool.and_false])), rfl⟩
  refine w_iconst (v := -1) d_y_hasEntries_0 (by decide +kernel) ?_
  refine w_istore_n d_y_hasEntries_1 (Nat.le_of_ble_eq_true rfl) ?_
  refine w_iconst (v := nI 0) d_y_hasEntries_2 (by decide +kernel) ?_
  refine w_istore_n d_y_hasEntries_3 (Nat.le_of_ble_eq_true rfl) ?_
  exact hk0 0 (by omega) _ _ lt_0 (Or.inl ⟨rfl, rfl⟩)
set_option maxRecDepth 100000 in
set_option maxHeartbeats 4000000 in
theorem c_y_fault (S : St) (b : Nat → Nat) (hb : ∀ p, p < 250 → S.1 25 p = nI (b p) ∧ b p ≤ 255) (n : Nat) (hn : S.1 7 1 = nI n) (hn2 : n ≤ 250) : Ev M_y_fault [.ref 7] S (fun v9 S' => v9 = some (.int (nI (faN b n))) ∧ S' = S) := by
  refine Ev.of MF_y_fault (all_cat rfl) (Nat.le_of_ble_eq_true rfl) ?_
  show Wp M_y_fault 0 [.ref 7] [] _ _
  have h0 := (hb 0 (by decide)).2
  have h1 := (hb 1 (by decide)).2
  have h5 := (hb 5 (by decide)).2
  refine w_aload_n d_y_fault_0 rfl ?_
  refine w_getIV (v := (nI n)) d_y_fault_1 FL_y_15 (by decide) (rfl) (rfl) (hn) ?_
  refine w_bipush (v := nI 11) d_y_fault_4 (by decide +kernel) ?_
  refine w_icmp_geN 11 d_y_fault_6 (by decide) (by omega) (by omega) (fun h6 => ?_) (fun h6 => ?_)
  · refine w_aload_n d_y_fault_11 rfl ?_
    refine w_getR d_y_fault_12 FL_y_11 (by decide) (rfl) (rfl) ?_
    refine w_iconst (v := nI 0) d_y_fault_15 (by decide +kernel) ?_
    refine w_ialdNV (v := (nI (b 0))) d_y_fault_16 (by decide) (rfl) (show 0 < 250 from (by omega)) ((hb 0 (by decide)).1) ?_
    refine w_bipush (v := nI 86) d_y_fault_17 (by decide +kernel) ?_
    refine w_icmp_eqN 24 d_y_fault_19 (by decide) (by omega) (by omega) (fun h19 => ?_) (fun h19 => ?_)
    · refine w_aload_n d_y_fault_24 rfl ?_
      refine w_getR d_y_fault_25 FL_y_11 (by decide) (rfl) (rfl) ?_
      refine w_iconst (v := nI 1) d_y_fault_28 (by decide +kernel) ?_
      refine w_ialdNV (v := (nI (b 1))) d_y_fault_29 (by decide) (rfl) (show 1 < 250 from (by omega)) ((hb 1 (by decide)).1) ?_
      refine w_iconst (v := nI 1) d_y_fault_30 (by decide +kernel) ?_
      refine w_icmp_eqN 36 d_y_fault_31 (by decide) (by omega) (by omega) (fun h31 => ?_) (fun h31 => ?_)
      · refine w_aload_n d_y_fault_36 rfl ?_
        refine w_callV0 (N := M_y_hasSizes) d_y_fault_37 LK_y_30 MF_y_hasSizes MV_y_hasSizes NP_y_hasSizes (by decide) (by decide) (rfl) rfl rfl (Nat.le_of_ble_eq_true rfl) ?_
        refine Ev.det (c_y_hasSizes S b hb) ?_
        refine w_if_neB 45 d_y_fault_40 (by decide) (fun h40 => ?_) (fun h40 => ?_)
        · refine w_aload_n d_y_fault_45 rfl ?_
          refine w_iconst (v := nI 0) d_y_fault_46 (by decide +kernel) ?_
          refine w_callV1 (N := M_y_step) d_y_fault_47 LK_y_34 MF_y_step MV_y_step NP_y_step (by decide) (by decide) (rfl) rfl rfl (Nat.le_of_ble_eq_true rfl) ?_
          refine Ev.det (c_y_step S b hb _ (by decide)) ?_
          refine w_aload_n d_y_fault_50 rfl ?_
          refine w_iconst (v := nI 1) d_y_fault_51 (by decide +kernel) ?_
          refine w_callV1 (N := M_y_step) d_y_fault_52 LK_y_34 MF_y_step MV_y_step NP_y_step (by decide) (by decide) (rfl) rfl rfl (Nat.le_of_ble_eq_true rfl) ?_
          refine Ev.det (c_y_step S b hb _ (by decide)) ?_
          refine w_aload_n d_y_fault_55 rfl ?_
          refine w_iconst (v := nI 2) d_y_fault_56 (by decide +kernel) ?_
          refine w_callV1 (N := M_y_step) d_y_fault_57 LK_y_34 MF_y_step MV_y_step NP_y_step (by decide) (by decide) (rfl) rfl rfl (Nat.le_of_ble_eq_true rfl) ?_
          refine Ev.det (c_y_step S b hb _ (by decide)) ?_
          refine w_aload_n d_y_fault_60 rfl ?_
          refine w_iconst (v := nI 3) d_y_fault_61 (by decide +kernel) ?_
          show Wp _ 62 _ _ _ _
          refine w_callV1 (N := M_y_step) d_y_fault_62 LK_y_34 MF_y_step MV_y_step NP_y_step (by decide) (by decide) (rfl) rfl rfl (Nat.le_of_ble_eq_true rfl) ?_
          refine Ev.det (c_y_step S b hb _ (by decide)) ?_
          refine w_callS4 (N := M_t_allows) d_y_fault_65 LK_y_37 MF_t_allows MS_t_allows NP_t_allows (by decide) rfl (Nat.le_of_ble_eq_true rfl) ?_
          refine Ev.det (c_t_allows _ _ _ _ _) ?_
          refine w_if_neB 73 d_y_fault_68 (by decide) (fun h68 => ?_) (fun h68 => ?_)
          · refine w_aload_n d_y_fault_73 rfl ?_
            refine w_getIV (v := (nI n)) d_y_fault_74 FL_y_15 (by decide) (rfl) (rfl) (hn) ?_
            refine w_aload_n d_y_fault_77 rfl ?_
            refine w_aload_n d_y_fault_78 rfl ?_
            refine w_getR d_y_fault_79 FL_y_11 (by decide) (rfl) (rfl) ?_
            refine w_iconst (v := nI 5) d_y_fault_82 (by decide +kernel) ?_
            refine w_ialdNV (v := (nI (b 5))) d_y_fault_83 (by decide) (rfl) (show 5 < 250 from (by omega)) ((hb 5 (by decide)).1) ?_
            refine w_callV1 (N := M_y_entryStart) d_y_fault_84 LK_y_27 MF_y_entryStart MV_y_entryStart NP_y_entryStart (by decide) (by decide) (rfl) rfl rfl (Nat.le_of_ble_eq_true rfl) ?_
            refine Ev.det (c_y_entryStart S b hb _) ?_
            refine w_iconst (v := nI 1) d_y_fault_87 (by decide +kernel) ?_
            refine w_iaddN d_y_fault_88 ?_
            have hw9 := (wcN_le h40).1
            have he9 : esN b (b 5) < 2000 := by unfold esN; omega
            refine w_icmp_eqN 95 d_y_fault_89 (by decide) (by omega) (by omega) (fun h89 => ?_) (fun h89 => ?_)
            · refine w_aload_n d_y_fault_95 rfl ?_
              refine w_getR d_y_fault_96 FL_y_11 (by decide) (rfl) (rfl) ?_
              refine w_aload_n d_y_fault_99 rfl ?_
              refine w_getIV (v := (nI n)) d_y_fault_100 FL_y_15 (by decide) (rfl) (rfl) (hn) ?_
              refine w_iconst (v := nI 1) d_y_fault_103 (by decide +kernel) ?_
              refine w_isubN d_y_fault_104 (by omega) ?_
              refine w_ialdNV (v := (nI (b (n - 1)))) d_y_fault_105 (by decide) (rfl) (show n - 1 < 250 from (by omega)) ((hb (n - 1) (by omega)).1) ?_
              refine w_aload_n d_y_fault_106 rfl ?_
              refine w_aload_n d_y_fault_107 rfl ?_
              refine w_getIV (v := (nI n)) d_y_fault_108 FL_y_15 (by decide) (rfl) (rfl) (hn) ?_
              refine w_iconst (v := nI 1) d_y_fault_111 (by decide +kernel) ?_
              show Wp _ 112 _ _ _ _
              refine w_isubN d_y_fault_112 (by omega) ?_
              refine w_callV1 (N := M_y_checkOf) d_y_fault_113 LK_y_43 MF_y_checkOf MV_y_checkOf NP_y_checkOf (by decide) (by decide) (rfl) rfl rfl (Nat.le_of_ble_eq_true rfl) ?_
              refine Ev.det (c_y_checkOf S b hb _ (by omega)) ?_
              have hb9 := (hb (n - 1) (by omega)).2
              refine w_icmp_eqN 122 d_y_fault_116 (by decide) (by omega) (by omega) (fun h116 => ?_) (fun h116 => ?_)
              · refine w_aload_n d_y_fault_122 rfl ?_
                refine w_callV0 (N := M_y_hasWides) d_y_fault_123 LK_y_46 MF_y_hasWides MV_y_hasWides NP_y_hasWides (by decide) (by decide) (rfl) rfl rfl (Nat.le_of_ble_eq_true rfl) ?_
                refine Ev.det (c_y_hasWides S b hb (wcN_le h40).1) ?_
                refine w_if_neB 132 d_y_fault_126 (by decide) (fun h126 => ?_) (fun h126 => ?_)
                · refine w_aload_n d_y_fault_132 rfl ?_
                  refine w_callV0 (N := M_y_hasEntries) d_y_fault_133 LK_y_49 MF_y_hasEntries MV_y_hasEntries NP_y_hasEntries (by decide) (by decide) (rfl) rfl rfl (Nat.le_of_ble_eq_true rfl) ?_
                  refine Ev.det (c_y_hasEntries S b hb (by omega)) ?_
                  refine w_if_eqB 143 d_y_fault_136 (by decide) (fun h136 => ?_) (fun h136 => ?_)
                  · refine w_bipush (v := nI 9) d_y_fault_143 (by decide +kernel) ?_
                    refine w_iret (st := []) rfl d_y_fault_145 ?_
                    exact ⟨by unfold faN; rw [if_neg (show ¬ n < 11 by omega), if_neg (show ¬ b 0 ≠ 86 by omega), if_neg (show ¬ b 1 ≠ 1 by omega), if_neg (show ¬ szB b = false by rw [h40]; decide), if_neg (show ¬ turnOK (stN b 0) (stN b 1) (stN b 2) (stN b 3) = false by rw [h68]; decide), if_neg (show ¬ n ≠ esN b (b 5) + 1 by omega), if_neg (show ¬ b (n - 1) ≠ csN b (n - 1) % 251 by omega), if_neg (show ¬ wdB b = false by rw [h126]; decide), if_pos h136], rfl⟩
                  · refine w_iconst (v := nI 0) d_y_fault_139 (by decide +kernel) ?_
                    refine w_goto 145 d_y_fault_140 (by decide) ?_
                    refine w_iret (st := []) rfl d_y_fault_145 ?_
                    exact ⟨by unfold faN; rw [if_neg (show ¬ n < 11 by omega), if_neg (show ¬ b 0 ≠ 86 by omega), if_neg (show ¬ b 1 ≠ 1 by omega), if_neg (show ¬ szB b = false by rw [h40]; decide), if_neg (show ¬ turnOK (stN b 0) (stN b 1) (stN b 2) (stN b 3) = false by rw [h68]; decide), if_neg (show ¬ n ≠ esN b (b 5) + 1 by omega), if_neg (show ¬ b (n - 1) ≠ csN b (n - 1) % 251 by omega), if_neg (show ¬ wdB b = false by rw [h126]; decide), if_neg (show ¬ allB (idB b) (b 5) = false by rw [h136]; decide)], rfl⟩
                · refine w_bipush (v := nI 8) d_y_fault_129 (by decide +kernel) ?_
                  refine w_iret (st := []) rfl d_y_fault_131 ?_
                  exact ⟨by unfold faN; rw [if_neg (show ¬ n < 11 by omega), if_neg (show ¬ b 0 ≠ 86 by omega), if_neg (show ¬ b 1 ≠ 1 by omega), if_neg (show ¬ szB b = false by rw [h40]; decide), if_neg (show ¬ turnOK (stN b 0) (stN b 1) (stN b 2) (stN b 3) = false by rw [h68]; decide), if_neg (show ¬ n ≠ esN b (b 5) + 1 by omega), if_neg (show ¬ b (n - 1) ≠ csN b (n - 1) % 251 by omega), if_pos h126], rfl⟩
              · refine w_bipush (v := nI 7) d_y_fault_119 (by decide +kernel) ?_
                refine w_iret (st := []) rfl d_y_fault_121 ?_
                exact ⟨by unfold faN; rw [if_neg (show ¬ n < 11 by omega), if_neg (show ¬ b 0 ≠ 86 by omega), if_neg (show ¬ b 1 ≠ 1 by omega), if_neg (show ¬ szB b = false by rw [h40]; decide), if_neg (show ¬ turnOK (stN b 0) (stN b 1) (stN b 2) (stN b 3) = false by rw [h68]; decide), if_neg (show ¬ n ≠ esN b (b 5) + 1 by omega), if_pos h116], rfl⟩
            · refine w_bipush (v := nI 6) d_y_fault_92 (by decide +kernel) ?_
              refine w_iret (st := []) rfl d_y_fault_94 ?_
              exact ⟨by unfold faN; rw [if_neg (show ¬ n < 11 by omega), if_neg (show ¬ b 0 ≠ 86 by omega), if_neg (show ¬ b 1 ≠ 1 by omega), if_neg (show ¬ szB b = false by rw [h40]; decide), if_neg (show ¬ turnOK (stN b 0) (stN b 1) (stN b 2) (stN b 3) = false by rw [h68]; decide), if_pos h89], rfl⟩
          · refine w_iconst (v := nI 5) d_y_fault_71 (by decide +kernel) ?_
            refine w_iret (st := []) rfl d_y_fault_72 ?_
            exact ⟨by unfold faN; rw [if_neg (show ¬ n < 11 by omega), if_neg (show ¬ b 0 ≠ 86 by omega), if_neg (show ¬ b 1 ≠ 1 by omega), if_neg (show ¬ szB b = false by rw [h40]; decide), if_pos h68], rfl⟩
        · refine w_iconst (v := nI 4) d_y_fault_43 (by decide +kernel) ?_
          refine w_iret (st := []) rfl d_y_fault_44 ?_
          exact ⟨by unfold faN; rw [if_neg (show ¬ n < 11 by omega), if_neg (show ¬ b 0 ≠ 86 by omega), if_neg (show ¬ b 1 ≠ 1 by omega), if_pos h40], rfl⟩
      · refine w_iconst (v := nI 3) d_y_fault_34 (by decide +kernel) ?_
        refine w_iret (st := []) rfl d_y_fault_35 ?_
        exact ⟨by unfold faN; rw [if_neg (show ¬ n < 11 by omega), if_neg (show ¬ b 0 ≠ 86 by omega), if_pos h31], rfl⟩
    · refine w_iconst (v := nI 2) d_y_fault_22 (by decide +kernel) ?_
      refine w_iret (st := []) rfl d_y_fault_23 ?_
      exact ⟨by unfold faN; rw [if_neg (show ¬ n < 11 by omega), if_pos h19], rfl⟩
  · refine w_iconst (v := nI 1) d_y_fault_9 (by decide +kernel) ?_
    refine w_iret (st := []) rfl d_y_fault_10 ?_
    exact ⟨by unfold faN; rw [if_pos h6], rfl⟩
