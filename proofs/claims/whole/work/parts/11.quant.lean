/-! The quantiser. What it works out of a point: its list, what is left of it, the word of each part. -/
theorem fref_ent0 {c : Nat} (h1 : 124 ≤ c) : fref c 0 = some (c + 20) := fref_ent h1 (by decide)
theorem fref_ent1 {c : Nat} (h1 : 124 ≤ c) : fref c 1 = some (c + 40) := fref_ent h1 (by decide)
theorem fref_ent2 {c : Nat} (h1 : 124 ≤ c) : fref c 2 = some (c + 60) := fref_ent h1 (by decide)
theorem dst_congr {f f' g g' : Nat → Int32} : ∀ {w : Nat}, (∀ k, k < w → f k = f' k) → (∀ k, k < w → g k = g' k) → dst f g w = dst f' g' w
  | 0, _, _ => rfl
  | w + 1, h1, h2 => by
    show dst f g w + _ = dst f' g' w + _
    rw [dst_congr (fun k hk => h1 k (by omega)) (fun k hk => h2 k (by omega)), h1 w (by omega), h2 w (by omega)]
theorem dst_comm {f g : Nat → Int32} : ∀ {w : Nat}, dst f g w = dst g f w
  | 0 => rfl
  | w + 1 => by
    show dst f g w + _ = dst g f w + _
    rw [dst_comm, ← Int32.neg_mul_neg (f w - g w), Int32.neg_sub]
def lsOf (S : St) (nl : Nat) (x : Nat → Int32) : Nat := near (fun l => dst (S.1 (104 + l)) x 4) nl
def lfOf (S : St) (l : Nat) (x : Nat → Int32) : Nat → Int32 := fun k => x k - S.1 (104 + l) k
/-- the distance of what is left to a word -/
def wdOf (S : St) (kind : Int32) (y : Nat → Int32) (part j : Nat) : Int32 := dst (S.1 (108 + (part * 4 + j))) (fun k => y (part * pwid kind + k)) (pwid kind)
def cdOf (S : St) (kind : Int32) (nc : Nat) (y : Nat → Int32) (part : Nat) : Nat := near (wdOf S kind y part) nc
theorem lsOf_lt {S : St} {nl : Nat} {x : Nat → Int32} (h : 0 < nl) : lsOf S nl x < nl := near_lt _ _ h
theorem cdOf_lt {S : St} {kind : Int32} {nc : Nat} {y : Nat → Int32} {part : Nat} (h : 0 < nc) : cdOf S kind nc y part < nc := near_lt _ _ h
theorem lsOf_congr {S S' : St} {nl : Nat} {x x' : Nat → Int32} (h : ∀ l, l < nl → ∀ k, k < 4 → S.1 (104 + l) k = S'.1 (104 + l) k) (hx : ∀ k, k < 4 → x k = x' k) : lsOf S nl x = lsOf S' nl x' := near_congr (fun l hl => dst_congr (h l hl) hx)
theorem pw_in {kind : Int32} {part k : Nat} (h : part < parts kind) (hk : k < pwid kind) : part * pwid kind + k < 4 := by
  unfold parts at h
  unfold pwid at hk ⊢
  split at h
  · rename_i h0
    rw [if_pos h0] at hk ⊢
    omega
  · rename_i h0
    rw [if_neg h0] at hk ⊢
    split at h
    · rename_i h1
      rw [if_pos h1] at hk ⊢
      omega
    · omega
theorem pw_le {kind : Int32} {part : Nat} (h : part < parts kind) : part * pwid kind + pwid kind ≤ 4 := by
  unfold parts at h
  unfold pwid
  split at h
  · rename_i h0
    rw [if_pos h0]
    omega
  · rename_i h0
    rw [if_neg h0]
    split at h
    · rename_i h1
      rw [if_pos h1]
      omega
    · omega
theorem wdOf_congr {S S' : St} {kind : Int32} {y y' : Nat → Int32} {part j : Nat} (hp : part < parts kind) (h : ∀ k, k < pwid kind → S.1 (108 + (part * 4 + j)) k = S'.1 (108 + (part * 4 + j)) k) (hy : ∀ k, k < 4 → y k = y' k) : wdOf S kind y part j = wdOf S' kind y' part j := dst_congr h (fun k hk => hy _ (pw_in hp hk))
theorem cdOf_congr {S S' : St} {kind : Int32} {nc : Nat} {y y' : Nat → Int32} {part : Nat} (hp : part < parts kind) (h : ∀ j, j < nc → ∀ k, k < pwid kind → S.1 (108 + (part * 4 + j)) k = S'.1 (108 + (part * 4 + j)) k) (hy : ∀ k, k < 4 → y k = y' k) : cdOf S kind nc y part = cdOf S' kind nc y' part := near_congr (fun j hj => wdOf_congr hp (h j hj) hy)
/-- the number of a code -/
def csum (c : Nat → Nat) (nc : Nat) : Nat → Nat
  | 0 => 0
  | p + 1 => csum c nc p + c p * nc ^ p
/-- the sum of the parts' distances -/
def wsum (S : St) (kind : Int32) (y : Nat → Int32) (c : Nat → Nat) : Nat → Int32
  | 0 => 0
  | p + 1 => wsum S kind y c p + wdOf S kind y p (c p)
/-- how many lists stand before this one -/
def lbef (d : Nat → Int32) (l : Nat) : Nat → Nat
  | 0 => 0
  | n + 1 => lbef d l n + if d n < d l ∨ d n = d l ∧ n < l then 1 else 0
theorem lbef_le (d : Nat → Int32) (l : Nat) : ∀ n, lbef d l n ≤ n
  | 0 => Nat.le_refl 0
  | n + 1 => by
    have := lbef_le d l n
    show lbef d l n + (if _ then 1 else 0) ≤ n + 1
    split <;> omega
theorem csum_lt {c : Nat → Nat} {nc : Nat} (h : ∀ p, c p < nc) : ∀ p, csum c nc p < nc ^ p
  | 0 => Nat.one_pos
  | p + 1 => by
    have h1 := csum_lt h p
    have h2 := h p
    show csum c nc p + c p * nc ^ p < nc ^ (p + 1)
    rw [Nat.pow_succ]
    calc csum c nc p + c p * nc ^ p < nc ^ p + c p * nc ^ p := by omega
      _ = (c p + 1) * nc ^ p := by rw [Nat.add_mul, Nat.one_mul, Nat.add_comm]
      _ ≤ nc * nc ^ p := Nat.mul_le_mul_right _ h2
      _ = nc ^ p * nc := Nat.mul_comm _ _
set_option maxRecDepth 100000 in
set_option maxHeartbeats 4000000 in
theorem c_z_become (S : St) (k l c : Int32) : Ev M_z_become [.ref 4, .int k, .int l, .int c] S (fun v9 S' => v9 = none ∧ S' = put (put (put (put S 4 3 (nI 1)) 4 4 k) 4 5 l) 4 6 c) := by
  refine Ev.of MF_z_become (all_cat rfl) (Nat.le_of_ble_eq_true rfl) ?_
  show Wp M_z_become 0 [.ref 4, .int k, .int l, .int c] [] _ _
  refine w_aload_n d_z_become_0 rfl ?_
  refine w_iconst (v := nI 1) d_z_become_1 (by decide +kernel) ?_
  refine w_putZP d_z_become_2 FL_z_23 FW_4_3 (by decide) (rfl) (rfl) (by decide) ?_
  refine w_aload_n d_z_become_5 rfl ?_
  refine w_iload_n d_z_become_6 rfl ?_
  refine w_putIP d_z_become_7 FL_z_27 FW_4_4 (by decide) (rfl) (rfl) ?_
  refine w_aload_n d_z_become_10 rfl ?_
  refine w_iload_n d_z_become_11 rfl ?_
  refine w_putIP d_z_become_12 FL_z_31 FW_4_5 (by decide) (rfl) (rfl) ?_
  refine w_aload_n d_z_become_15 rfl ?_
  refine w_iload_n d_z_become_16 rfl ?_
  show Wp _ 17 _ _ _ _
  refine w_putIP d_z_become_17 FL_z_34 FW_4_6 (by decide) (rfl) (rfl) ?_
  refine w_ret (st := []) rfl d_z_become_20 ?_
  exact ⟨rfl, rfl⟩
set_option maxRecDepth 100000 in
set_option maxHeartbeats 4000000 in
theorem c_z_hasList (S : St) (v : Int32) : Ev M_z_hasList [.ref 4, .int v] S (fun v9 S' => v9 = some (.int (bI (decide (¬ S.1 4 3 = 0 ∧ (nI 0 ≤ v ∧ v ≤ S.1 4 5 - nI 1))))) ∧ S' = S) := by
  refine Ev.of MF_z_hasList (all_cat rfl) (Nat.le_of_ble_eq_true rfl) ?_
  show Wp M_z_hasList 0 [.ref 4, .int v] [] _ _
  refine w_aload_n d_z_hasList_0 rfl ?_
  refine w_getI d_z_hasList_1 FL_z_23 (by decide) (rfl) (rfl) ?_
  refine w_if_eq 25 d_z_hasList_4 (by decide) (fun h4 => ?_) (fun h4 => ?_)
  · refine w_iconst (v := nI 0) d_z_hasList_25 (by decide +kernel) ?_
    refine w_zret (st := []) rfl d_z_hasList_26 (by decide) ?_
    exact ⟨rb0 (decide_eq_false (fun q => q.1 h4)), rfl⟩
  · refine w_iload_n d_z_hasList_7 rfl ?_
    refine w_iconst (v := nI 0) d_z_hasList_8 (by decide +kernel) ?_
    refine w_aload_n d_z_hasList_9 rfl ?_
    refine w_getI d_z_hasList_10 FL_z_31 (by decide) (rfl) (rfl) ?_
    refine w_iconst (v := nI 1) d_z_hasList_13 (by decide +kernel) ?_
    refine w_isub d_z_hasList_14 ?_
    refine w_callS3 (N := M_q_isWithin) d_z_hasList_15 LK_z_37 MF_q_isWithin MS_q_isWithin NP_q_isWithin (by decide) rfl (Nat.le_of_ble_eq_true rfl) ?_
    refine Ev.det (c_q_isWithin _ _ _ _) ?_
    refine w_if_eqB 25 d_z_hasList_18 (by decide) (fun h18 => ?_) (fun h18 => ?_)
    · refine w_iconst (v := nI 0) d_z_hasList_25 (by decide +kernel) ?_
      refine w_zret (st := []) rfl d_z_hasList_26 (by decide) ?_
      exact ⟨rb0 (decide_eq_false (fun q => of_decide_eq_false h18 q.2)), rfl⟩
    · refine w_iconst (v := nI 1) d_z_hasList_21 (by decide +kernel) ?_
      refine w_goto 26 d_z_hasList_22 (by decide) ?_
      refine w_zret (st := []) rfl d_z_hasList_26 (by decide) ?_
      exact ⟨rb1 (decide_eq_true ⟨h4, of_decide_eq_true h18⟩), rfl⟩
set_option maxRecDepth 100000 in
set_option maxHeartbeats 4000000 in
theorem c_z_hasWord (S : St) (v w : Int32) : Ev M_z_hasWord [.ref 4, .int v, .int w] S (fun v9 S' => v9 = some (.int (bI (decide (¬ S.1 4 3 = 0 ∧ (nI 0 ≤ v ∧ v ≤ nI (parts (S.1 4 4)) - nI 1) ∧ (nI 0 ≤ w ∧ w ≤ S.1 4 6 - nI 1))))) ∧ S' = S) := by
  refine Ev.of MF_z_hasWord (all_cat rfl) (Nat.le_of_ble_eq_true rfl) ?_
  show Wp M_z_hasWord 0 [.ref 4, .int v, .int w] [] _ _
  refine w_aload_n d_z_hasWord_0 rfl ?_
  refine w_getI d_z_hasWord_1 FL_z_23 (by decide) (rfl) (rfl) ?_
  refine w_if_eq 42 d_z_hasWord_4 (by decide) (fun h4 => ?_) (fun h4 => ?_)
  · refine w_iconst (v := nI 0) d_z_hasWord_42 (by decide +kernel) ?_
    refine w_zret (st := []) rfl d_z_hasWord_43 (by decide) ?_
    exact ⟨rb0 (decide_eq_false (fun q => q.1 h4)), rfl⟩
  · refine w_iload_n d_z_hasWord_7 rfl ?_
    refine w_iconst (v := nI 0) d_z_hasWord_8 (by decide +kernel) ?_
    refine w_aload_n d_z_hasWord_9 rfl ?_
    refine w_getI d_z_hasWord_10 FL_z_27 (by decide) (rfl) (rfl) ?_
    refine w_callS1 (N := M_q_partsOf) d_z_hasWord_13 LK_z_41 MF_q_partsOf MS_q_partsOf NP_q_partsOf (by decide) rfl (Nat.le_of_ble_eq_true rfl) ?_
    refine Ev.det (c_q_partsOf _ _) ?_
    refine w_iconst (v := nI 1) d_z_hasWord_16 (by decide +kernel) ?_
    refine w_isub d_z_hasWord_17 ?_
    refine w_callS3 (N := M_q_isWithin) d_z_hasWord_18 LK_z_37 MF_q_isWithin MS_q_isWithin NP_q_isWithin (by decide) rfl (Nat.le_of_ble_eq_true rfl) ?_
    refine Ev.det (c_q_isWithin _ _ _ _) ?_
    refine w_if_eqB 42 d_z_hasWord_21 (by decide) (fun h21 => ?_) (fun h21 => ?_)
    · refine w_iconst (v := nI 0) d_z_hasWord_42 (by decide +kernel) ?_
      refine w_zret (st := []) rfl d_z_hasWord_43 (by decide) ?_
      exact ⟨rb0 (decide_eq_false (fun q => of_decide_eq_false h21 q.2.1)), rfl⟩
    · refine w_iload_n d_z_hasWord_24 rfl ?_
      refine w_iconst (v := nI 0) d_z_hasWord_25 (by decide +kernel) ?_
      refine w_aload_n d_z_hasWord_26 rfl ?_
      refine w_getI d_z_hasWord_27 FL_z_34 (by decide) (rfl) (rfl) ?_
      refine w_iconst (v := nI 1) d_z_hasWord_30 (by decide +kernel) ?_
      refine w_isub d_z_hasWord_31 ?_
      refine w_callS3 (N := M_q_isWithin) d_z_hasWord_32 LK_z_37 MF_q_isWithin MS_q_isWithin NP_q_isWithin (by decide) rfl (Nat.le_of_ble_eq_true rfl) ?_
      refine Ev.det (c_q_isWithin _ _ _ _) ?_
      refine w_if_eqB 42 d_z_hasWord_35 (by decide) (fun h35 => ?_) (fun h35 => ?_)
      · refine w_iconst (v := nI 0) d_z_hasWord_42 (by decide +kernel) ?_
        refine w_zret (st := []) rfl d_z_hasWord_43 (by decide) ?_
        exact ⟨rb0 (decide_eq_false (fun q => of_decide_eq_false h35 q.2.2)), rfl⟩
      · refine w_iconst (v := nI 1) d_z_hasWord_38 (by decide +kernel) ?_
        refine w_goto 43 d_z_hasWord_39 (by decide) ?_
        refine w_zret (st := []) rfl d_z_hasWord_43 (by decide) ?_
        exact ⟨rb1 (decide_eq_true ⟨h4, of_decide_eq_true h21, of_decide_eq_true h35⟩), rfl⟩
set_option maxRecDepth 100000 in
set_option maxHeartbeats 4000000 in
theorem c_z_nearestList (S : St) (nl p : Nat) (hl : S.1 4 5 = nI nl) (hl1 : 0 < nl) (hl4 : nl ≤ 4) (hp1 : p < 204) (hp2 : kd p = 0) (hp3 : ln p = 4) : Ev M_z_nearestList [.ref 4, .ref p] S (fun v9 S' => v9 = some (.int (nI (lsOf S nl (S.1 p)))) ∧ S' = S) := by
  refine Ev.of MF_z_nearestList (all_cat rfl) (Nat.le_of_ble_eq_true rfl) ?_
  show Wp M_z_nearestList 0 [.ref 4, .ref p] [] _ _
  refine w_aload_n d_z_nearestList_0 rfl ?_
  refine w_getR d_z_nearestList_1 FL_z_11 (by decide) (rfl) (rfl) ?_
  refine w_iconst (v := nI 0) d_z_nearestList_4 (by decide +kernel) ?_
  refine w_aload_n d_z_nearestList_5 rfl ?_
  refine w_getIV (v := (nI nl)) d_z_nearestList_6 FL_z_31 (by decide) (rfl) (rfl) (hl) ?_
  refine w_aload_n d_z_nearestList_9 rfl ?_
  refine w_iconst (v := nI 0) d_z_nearestList_10 (by decide +kernel) ?_
  refine w_iconst (v := nI 4) d_z_nearestList_11 (by decide +kernel) ?_
  refine w_callS6 (N := M_q_nearestRow) d_z_nearestList_12 LK_z_45 MF_q_nearestRow MS_q_nearestRow NP_q_nearestRow (by decide) rfl (Nat.le_of_ble_eq_true rfl) ?_
  refine Ev.det (c_q_nearestRow _ _ _ _ _ _ _ (by decide) (by decide) (show 0 + nl ≤ 4 by omega) hl1 (by omega) (fun j hj => ⟨show 104 + (0 + j) < 204 by omega, by show kd (104 + (0 + j)) = 0; exact kd_row104 (by omega), by show 4 ≤ ln (104 + (0 + j)); rw [ln_row104 (by omega)]; exact Nat.le_refl 4⟩) hp1 hp2 (by rw [hp3]; exact Nat.le_refl 4) (by decide)) ?_
  refine w_iret (st := []) rfl d_z_nearestList_15 ?_
  refine ⟨?_, rfl⟩
  unfold lsOf
  simp only [Nat.zero_add]
  rfl
set_option maxRecDepth 100000 in
set_option maxHeartbeats 4000000 in
theorem c_z_nearestWord (S : St) (kind : Int32) (nc part p : Nat) (hk : S.1 4 4 = kind) (hp : part < parts kind) (hc : S.1 4 6 = nI nc) (hc1 : 0 < nc) (hc4 : nc ≤ 4) (hp1 : p < 204) (hp2 : kd p = 0) (hp3 : ln p = 4) : Ev M_z_nearestWord [.ref 4, .int (nI part), .ref p] S (fun v9 S' => v9 = some (.int (nI (cdOf S kind nc (S.1 p) part))) ∧ S' = S) := by
  refine Ev.of MF_z_nearestWord (all_cat rfl) (Nat.le_of_ble_eq_true rfl) ?_
  show Wp M_z_nearestWord 0 [.ref 4, .int (nI part), .ref p, .null] [] _ _
  have hp4 : part < 4 := by have := parts_le kind; omega
  refine w_aload_n d_z_nearestWord_0 rfl ?_
  refine w_getIV (v := kind) d_z_nearestWord_1 FL_z_27 (by decide) (rfl) (rfl) (hk) ?_
  refine w_callS1 (N := M_q_partWidthOf) d_z_nearestWord_4 LK_z_49 MF_q_partWidthOf MS_q_partWidthOf NP_q_partWidthOf (by decide) rfl (Nat.le_of_ble_eq_true rfl) ?_
  refine Ev.det (c_q_partWidthOf _ _) ?_
  refine w_istore_n d_z_nearestWord_7 (Nat.le_of_ble_eq_true rfl) ?_
  refine w_aload_n d_z_nearestWord_8 rfl ?_
  refine w_getR d_z_nearestWord_9 FL_z_16 (by decide) (rfl) (rfl) ?_
  refine w_iload_n d_z_nearestWord_12 rfl ?_
  refine w_iconst (v := nI 0) d_z_nearestWord_13 (by decide +kernel) ?_
  refine w_callS2 (N := M_q_wordRow) d_z_nearestWord_14 LK_z_52 MF_q_wordRow MS_q_wordRow NP_q_wordRow (by decide) rfl (Nat.le_of_ble_eq_true rfl) ?_
  refine Ev.det (c_q_wordRow _ _ _) ?_
  refine w_aload_n d_z_nearestWord_17 rfl ?_
  refine w_getIV (v := (nI nc)) d_z_nearestWord_18 FL_z_34 (by decide) (rfl) (rfl) (hc) ?_
  show Wp _ 21 _ _ _ _
  refine w_aload_n d_z_nearestWord_21 rfl ?_
  refine w_iload_n d_z_nearestWord_22 rfl ?_
  refine w_iload_n d_z_nearestWord_23 rfl ?_
  refine w_imulN d_z_nearestWord_24 ?_
  refine w_iload_n d_z_nearestWord_25 rfl ?_
  refine w_callS6 (N := M_q_nearestRow) d_z_nearestWord_26 LK_z_45 MF_q_nearestRow MS_q_nearestRow NP_q_nearestRow (by decide) rfl (Nat.le_of_ble_eq_true rfl) ?_
  refine Ev.det (c_q_nearestRow _ _ _ _ _ _ _ (by decide) (by decide) (show part * 4 + 0 + nc ≤ 16 by omega) hc1 (by omega) (fun j hj => ⟨show 108 + (part * 4 + 0 + j) < 204 by omega, by show kd (108 + (part * 4 + 0 + j)) = 0; exact kd_row108 (by omega), by show pwid kind ≤ ln (108 + (part * 4 + 0 + j)); rw [ln_row108 (by omega)]; exact pwid_le kind⟩) hp1 hp2 (by rw [hp3]; exact pw_le hp) (by have := pwid_le kind; omega)) ?_
  refine w_iret (st := []) rfl d_z_nearestWord_29 ?_
  refine ⟨?_, rfl⟩
  unfold cdOf wdOf
  simp only [Nat.add_zero]
  rfl
set_option maxRecDepth 100000 in
set_option maxHeartbeats 4000000 in
theorem c_z_wordDistance (S : St) (kind : Int32) (part j p : Nat) (hk : S.1 4 4 = kind) (hp : part < parts kind) (hj : j < 4) (hp1 : p < 204) (hp2 : kd p = 0) (hp3 : ln p = 4) : Ev M_z_wordDistance [.ref 4, .int (nI part), .int (nI j), .ref p] S (fun v9 S' => v9 = some (.int (wdOf S kind (S.1 p) part j)) ∧ S' = S) := by
  refine Ev.of MF_z_wordDistance (all_cat rfl) (Nat.le_of_ble_eq_true rfl) ?_
  show Wp M_z_wordDistance 0 [.ref 4, .int (nI part), .int (nI j), .ref p, .null] [] _ _
  have hp4 : part < 4 := by have := parts_le kind; omega
  refine w_aload_n d_z_wordDistance_0 rfl ?_
  refine w_getIV (v := kind) d_z_wordDistance_1 FL_z_27 (by decide) (rfl) (rfl) (hk) ?_
  refine w_callS1 (N := M_q_partWidthOf) d_z_wordDistance_4 LK_z_49 MF_q_partWidthOf MS_q_partWidthOf NP_q_partWidthOf (by decide) rfl (Nat.le_of_ble_eq_true rfl) ?_
  refine Ev.det (c_q_partWidthOf _ _) ?_
  refine w_istore d_z_wordDistance_7 (Nat.le_of_ble_eq_true rfl) ?_
  refine w_aload_n d_z_wordDistance_9 rfl ?_
  refine w_getR d_z_wordDistance_10 FL_z_16 (by decide) (rfl) (rfl) ?_
  refine w_iload_n d_z_wordDistance_13 rfl ?_
  refine w_iload_n d_z_wordDistance_14 rfl ?_
  refine w_callS2 (N := M_q_wordRow) d_z_wordDistance_15 LK_z_52 MF_q_wordRow MS_q_wordRow NP_q_wordRow (by decide) rfl (Nat.le_of_ble_eq_true rfl) ?_
  refine Ev.det (c_q_wordRow _ _ _) ?_
  refine w_aaldN d_z_wordDistance_18 (by decide) (rfl) (show part * 4 + j < 16 from (by omega)) ?_
  show Wp _ _ _ (.ref (108 + (part * 4 + j)) :: _) _ _
  refine w_aload_n d_z_wordDistance_19 rfl ?_
  show Wp _ 20 _ _ _ _
  refine w_iload_n d_z_wordDistance_20 rfl ?_
  refine w_iload d_z_wordDistance_21 rfl ?_
  refine w_imulN d_z_wordDistance_23 ?_
  refine w_iload d_z_wordDistance_24 rfl ?_
  refine w_callS4 (N := M_q_distance) d_z_wordDistance_26 LK_z_56 MF_q_distance MS_q_distance NP_q_distance (by decide) rfl (Nat.le_of_ble_eq_true rfl) ?_
  refine Ev.det (c_q_distance _ _ _ _ _ (by omega) (kd_row108 (by omega)) (by rw [ln_row108 (by omega)]; exact pwid_le kind) hp1 hp2 (by rw [hp3]; exact pw_le hp) (by have := pwid_le kind; omega)) ?_
  refine w_iret (st := []) rfl d_z_wordDistance_29 ?_
  exact ⟨rfl, rfl⟩
set_option maxRecDepth 100000 in
set_option maxHeartbeats 4000000 in
theorem c_z_encode (S : St) (kind : Int32) (nl nc e : Nat) (hk : S.1 4 4 = kind) (hl : S.1 4 5 = nI nl) (hl1 : 0 < nl) (hl4 : nl ≤ 4) (hc : S.1 4 6 = nI nc) (hc1 : 0 < nc) (hc4 : nc ≤ 4) (he1 : 124 ≤ e) (he2 : e < 144) : Ev M_z_encode [.ref 4, .ref e] S (fun v9 S' => v9 = none ∧ S' = setRow (setRow (put S e 4 (nI (lsOf S nl (S.1 (e + 40))))) 18 (lfOf S (lsOf S nl (S.1 (e + 40))) (S.1 (e + 40))) 4) (e + 60) (fun p => nI (cdOf S kind nc (lfOf S (lsOf S nl (S.1 (e + 40))) (S.1 (e + 40))) p)) (parts kind)) := by
  refine Ev.of MF_z_encode (all_cat rfl) (Nat.le_of_ble_eq_true rfl) ?_
  show Wp M_z_encode 0 [.ref 4, .ref e, .null] [] _ _
  have hlt := lsOf_lt (S := S) (x := S.1 (e + 40)) hl1
  generalize hle : lsOf S nl (S.1 (e + 40)) = l at hlt ⊢
  have hpar := parts_le kind
  have hk0 : ∀ k, k ≤ parts kind → ∀ (S1 : St), S1 = setRow (setRow (put S e 4 (nI l)) 18 (lfOf S l (S.1 (e + 40))) 4) (e + 60) (fun p => nI (cdOf S kind nc (lfOf S l (S.1 (e + 40))) p)) k → Wp M_z_encode 34 [.ref 4, .ref e, .int (nI k)] [] S1 (fun v9 S' => v9 = none ∧ S' = setRow (setRow (put S e 4 (nI l)) 18 (lfOf S l (S.1 (e + 40))) 4) (e + 60) (fun p => nI (cdOf S kind nc (lfOf S l (S.1 (e + 40))) p)) (parts kind)) := by
    refine loopUp (parts kind) (fun k hk9 hn => ?_)
    intro S1 hS
    have e4 : ∀ i, S1.1 4 i = S.1 4 i := fun i => by rw [hS, setRow_ne (by omega), setRow_ne (by omega), put_ne (by omega)]
    have ew : ∀ j, j < 16 → S1.1 (108 + j) = S.1 (108 + j) := fun j hj => by rw [hS, setRow_row (by omega), setRow_row (by omega), put_row (by omega)]
    have ey : ∀ i, i < 4 → S1.1 18 i = (lfOf S l (S.1 (e + 40))) i := fun i hi => by rw [hS, setRow_ne (by omega), setRow_at hi]
    refine w_iload_n d_z_encode_34 rfl ?_
    refine w_aload_n d_z_encode_35 rfl ?_
    refine w_getIV (v := kind) d_z_encode_36 FL_z_27 (by decide) (rfl) (rfl) ((e4 4).trans hk) ?_
    refine w_callS1 (N := M_q_partsOf) d_z_encode_39 LK_z_41 MF_q_partsOf MS_q_partsOf NP_q_partsOf (by decide) rfl (Nat.le_of_ble_eq_true rfl) ?_
    refine Ev.det (c_q_partsOf _ _) ?_
    refine w_icmp_geN 66 d_z_encode_42 (by decide) (by omega) (by omega) (fun h42 => ?_) (fun h42 => ?_)
    · refine w_ret (st := []) rfl d_z_encode_66 ?_
      obtain rfl : k = parts kind := by omega
      exact ⟨rfl, hS⟩
    · refine w_aload_n d_z_encode_45 rfl ?_
      refine w_getR d_z_encode_46 FL_z_76 (by omega) (kd_ent (he1) (he2)) (fref_ent2 (he1)) ?_
      refine w_iload_n d_z_encode_49 rfl ?_
      refine w_aload_n d_z_encode_50 rfl ?_
      refine w_iload_n d_z_encode_51 rfl ?_
      refine w_aload_n d_z_encode_52 rfl ?_
      refine w_getR d_z_encode_53 FL_z_19 (by decide) (rfl) (rfl) ?_
      refine w_callV2 (N := M_z_nearestWord) d_z_encode_56 LK_z_79 MF_z_nearestWord MV_z_nearestWord NP_z_nearestWord (by decide) (by decide) (rfl) rfl rfl (Nat.le_of_ble_eq_true rfl) ?_
      refine Ev.det (c_z_nearestWord _ kind nc _ _ ((e4 4).trans hk) h42 ((e4 6).trans hc) hc1 hc4 (by decide) (by decide) (by decide)) ?_
      refine w_iastNP d_z_encode_59 (by omega) (kd_enta (by omega) (by omega)) (by rw [ln_enta (by omega) (by omega)]; omega) ?_
      refine w_iincN d_z_encode_60 rfl ?_
      refine w_goto 34 d_z_encode_63 (by decide) ?_
      show Wp _ 34 _ _ _ _
      refine hn h42 _ ?_
      refine Eq.trans (congrArg (fun v => put S1 (e + 60) k v) (congrArg nI (cdOf_congr (S' := S) (y' := (lfOf S l (S.1 (e + 40)))) h42 (fun j hj i hi => by rw [ew _ (by omega)]) ey))) ?_
      rw [hS]
      exact setRow_s rfl
  refine w_aload_n d_z_encode_0 rfl ?_
  refine w_aload_n d_z_encode_1 rfl ?_
  refine w_aload_n d_z_encode_2 rfl ?_
  refine w_getR d_z_encode_3 FL_z_60 (by omega) (kd_ent (he1) (he2)) (fref_ent1 (he1)) ?_
  refine w_callV1 (N := M_z_nearestList) d_z_encode_6 LK_z_65 MF_z_nearestList MV_z_nearestList NP_z_nearestList (by decide) (by decide) (rfl) rfl rfl (Nat.le_of_ble_eq_true rfl) ?_
  refine Ev.det (c_z_nearestList S nl _ hl hl1 hl4 (by omega) (kd_enta (by omega) (by omega)) (ln_enta (by omega) (by omega))) ?_
  rw [hle]
  refine w_putIP d_z_encode_9 FL_z_69 FW_9_4 (by omega) (kd_ent (he1) (he2)) (fref_entI (he1) (by decide)) ?_
  refine w_aload_n d_z_encode_12 rfl ?_
  refine w_getR d_z_encode_13 FL_z_60 (by omega) (kd_ent (he1) (he2)) (fref_ent1 (he1)) ?_
  refine w_aload_n d_z_encode_16 rfl ?_
  refine w_getR d_z_encode_17 FL_z_11 (by decide) (rfl) (rfl) ?_
  refine w_aload_n d_z_encode_20 rfl ?_
  show Wp _ 21 _ _ _ _
  refine w_getIV (v := (nI l)) d_z_encode_21 FL_z_69 (by omega) (kd_ent (he1) (he2)) (fref_entI (he1) (by decide)) (put_at) ?_
  refine w_aaldN d_z_encode_24 (by decide) (rfl) (show l < 4 from (by omega)) ?_
  show Wp _ _ _ (.ref (104 + l) :: _) _ _
  refine w_aload_n d_z_encode_25 rfl ?_
  refine w_getR d_z_encode_26 FL_z_19 (by decide) (rfl) (rfl) ?_
  refine w_callS3 (N := M_q_subtract) d_z_encode_29 LK_z_72 MF_q_subtract MS_q_subtract NP_q_subtract (by decide) rfl (Nat.le_of_ble_eq_true rfl) ?_
  refine Ev.det (c_q_subtract _ _ _ _ (by omega) (kd_enta (by omega) (by omega)) (ln_enta (by omega) (by omega)) (by omega) (kd_row104 (by omega)) (ln_row104 (by omega)) (by decide) (by decide) (by decide) (by omega)) ?_
  rw [put_row (show e + 40 ≠ e by omega), put_row (show 104 + l ≠ e by omega)]
  refine w_iconst (v := nI 0) d_z_encode_32 (by decide +kernel) ?_
  refine w_istore_n d_z_encode_33 (Nat.le_of_ble_eq_true rfl) ?_
  exact hk0 0 (by omega) _ (setRow_0 _ _ _).symm
set_option maxRecDepth 100000 in
set_option maxHeartbeats 4000000 in
theorem c_z_codeAsNumber (S : St) (kind : Int32) (nc e : Nat) (c : Nat → Nat) (hk : S.1 4 4 = kind) (hc : S.1 4 6 = nI nc) (hcd : ∀ k, k < parts kind → S.1 (e + 60) k = nI (c k)) (he1 : 124 ≤ e) (he2 : e < 144) : Ev M_z_codeAsNumber [.ref 4, .ref e] S (fun v9 S' => v9 = some (.int (nI (csum c nc (parts kind)))) ∧ S' = S) := by
  refine Ev.of MF_z_codeAsNumber (all_cat rfl) (Nat.le_of_ble_eq_true rfl) ?_
  show Wp M_z_codeAsNumber 0 [.ref 4, .ref e, .null, .null, .null] [] _ _
  have hpar := parts_le kind
  have hk0 : ∀ k, k ≤ parts kind → Wp M_z_codeAsNumber 7 [.ref 4, .ref e, .int (nI (csum c nc k)), .int (nI (nc ^ k)), .int (nI k)] [] S (fun v9 S' => v9 = some (.int (nI (csum c nc (parts kind)))) ∧ S' = S) := by
    refine loopUp (parts kind) (fun k hk9 hn => ?_)
    refine w_iload d_z_codeAsNumber_7 rfl ?_
    refine w_aload_n d_z_codeAsNumber_9 rfl ?_
    refine w_getIV (v := kind) d_z_codeAsNumber_10 FL_z_27 (by decide) (rfl) (rfl) (hk) ?_
    refine w_callS1 (N := M_q_partsOf) d_z_codeAsNumber_13 LK_z_41 MF_q_partsOf MS_q_partsOf NP_q_partsOf (by decide) rfl (Nat.le_of_ble_eq_true rfl) ?_
    refine Ev.det (c_q_partsOf _ _) ?_
    refine w_icmp_geN 44 d_z_codeAsNumber_16 (by decide) (by omega) (by omega) (fun h16 => ?_) (fun h16 => ?_)
    · refine w_iload_n d_z_codeAsNumber_44 rfl ?_
      refine w_iret (st := []) rfl d_z_codeAsNumber_45 ?_
      obtain rfl : k = parts kind := by omega
      exact ⟨rfl, rfl⟩
    · refine w_iload_n d_z_codeAsNumber_19 rfl ?_
      refine w_aload_n d_z_codeAsNumber_20 rfl ?_
      refine w_getR d_z_codeAsNumber_21 FL_z_76 (by omega) (kd_ent (he1) (he2)) (fref_ent2 (he1)) ?_
      refine w_iload d_z_codeAsNumber_24 rfl ?_
      refine w_ialdNV (v := (nI (c k))) d_z_codeAsNumber_26 (by omega) (kd_enta (by omega) (by omega)) (by rw [ln_enta (by omega) (by omega)]; omega) (hcd k h16) ?_
      refine w_iload_n d_z_codeAsNumber_27 rfl ?_
      refine w_imulN d_z_codeAsNumber_28 ?_
      refine w_iaddN d_z_codeAsNumber_29 ?_
      refine w_istore_n d_z_codeAsNumber_30 (Nat.le_of_ble_eq_true rfl) ?_
      refine w_iload_n d_z_codeAsNumber_31 rfl ?_
      refine w_aload_n d_z_codeAsNumber_32 rfl ?_
      show Wp _ 33 _ _ _ _
      refine w_getIV (v := (nI nc)) d_z_codeAsNumber_33 FL_z_34 (by decide) (rfl) (rfl) (hc) ?_
      refine w_imulN d_z_codeAsNumber_36 ?_
      refine w_istore_n d_z_codeAsNumber_37 (Nat.le_of_ble_eq_true rfl) ?_
      refine w_iincN d_z_codeAsNumber_38 rfl ?_
      refine w_goto 7 d_z_codeAsNumber_41 (by decide) ?_
      exact hn h16
  refine w_iconst (v := nI 0) d_z_codeAsNumber_0 (by decide +kernel) ?_
  refine w_istore_n d_z_codeAsNumber_1 (Nat.le_of_ble_eq_true rfl) ?_
  refine w_iconst (v := nI 1) d_z_codeAsNumber_2 (by decide +kernel) ?_
  refine w_istore_n d_z_codeAsNumber_3 (Nat.le_of_ble_eq_true rfl) ?_
  refine w_iconst (v := nI 0) d_z_codeAsNumber_4 (by decide +kernel) ?_
  refine w_istore d_z_codeAsNumber_5 (Nat.le_of_ble_eq_true rfl) ?_
  exact hk0 0 (by omega)
set_option maxRecDepth 100000 in
set_option maxHeartbeats 4000000 in
theorem c_z_codeDistance (S : St) (kind : Int32) (nc e g l : Nat) (c : Nat → Nat) (hk : S.1 4 4 = kind) (hl : S.1 e 4 = nI l) (hl4 : l < 4) (hcd : ∀ k, k < parts kind → S.1 (e + 60) k = nI (c k) ∧ c k < 4) (hg1 : g < 204) (hg2 : kd g = 0) (hg3 : ln g = 4) (he1 : 124 ≤ e) (he2 : e < 144) : Ev M_z_codeDistance [.ref 4, .ref g, .ref e] S (fun v9 S' => v9 = some (.int (if kind = nI 2 then dst (S.1 g) (S.1 (e + 40)) 4 else wsum S kind (lfOf S l (S.1 g)) c (parts kind))) ∧ S'.2 = S.2 ∧ ∀ a i, a ≠ 18 → S'.1 a i = S.1 a i) := by
  refine Ev.of MF_z_codeDistance (all_cat rfl) (Nat.le_of_ble_eq_true rfl) ?_
  show Wp M_z_codeDistance 0 [.ref 4, .ref g, .ref e, .null, .null] [] _ _
  have hpar := parts_le kind
  have hk0 : ¬ kind = nI 2 → ∀ k, k ≤ parts kind → Wp M_z_codeDistance 41 [.ref 4, .ref g, .ref e, .int ((wsum S kind (lfOf S l (S.1 g)) c k)), .int (nI k)] [] (setRow S 18 (lfOf S l (S.1 g)) 4) (fun v9 S' => v9 = some (.int (if kind = nI 2 then dst (S.1 g) (S.1 (e + 40)) 4 else wsum S kind (lfOf S l (S.1 g)) c (parts kind))) ∧ S'.2 = S.2 ∧ ∀ a i, a ≠ 18 → S'.1 a i = S.1 a i) := by
    intro hn2
    generalize hS : setRow S 18 (lfOf S l (S.1 g)) 4 = S1
    have e4 : ∀ i, S1.1 4 i = S.1 4 i := fun i => by rw [← hS, setRow_ne (by omega)]
    have ee : ∀ i, S1.1 (e + 60) i = S.1 (e + 60) i := fun i => by rw [← hS, setRow_ne (by omega)]
    have ew : ∀ j, j < 16 → S1.1 (108 + j) = S.1 (108 + j) := fun j hj => by rw [← hS, setRow_row (by omega)]
    have ey : ∀ i, i < 4 → S1.1 18 i = (lfOf S l (S.1 g)) i := fun i hi => by rw [← hS, setRow_at hi]
    refine loopUp _ (fun k hk1 hn => ?_)
    refine w_iload d_z_codeDistance_41 rfl ?_
    refine w_aload_n d_z_codeDistance_43 rfl ?_
    refine w_getIV (v := kind) d_z_codeDistance_44 FL_z_27 (by decide) (rfl) (rfl) ((e4 4).trans hk) ?_
    refine w_callS1 (N := M_q_partsOf) d_z_codeDistance_47 LK_z_41 MF_q_partsOf MS_q_partsOf NP_q_partsOf (by decide) rfl (Nat.le_of_ble_eq_true rfl) ?_
    refine Ev.det (c_q_partsOf _ _) ?_
    refine w_icmp_geN 79 d_z_codeDistance_50 (by decide) (by omega) (by omega) (fun h50 => ?_) (fun h50 => ?_)
    · refine w_iload_n d_z_codeDistance_79 rfl ?_
      refine w_iret (st := []) rfl d_z_codeDistance_80 ?_
      obtain rfl : k = parts kind := by omega
      refine ⟨by rw [if_neg hn2], ?_, ?_⟩
      · rw [← hS]; rfl
      · intro a i ha; rw [← hS, setRow_ne ha]
    · refine w_iload_n d_z_codeDistance_53 rfl ?_
      refine w_aload_n d_z_codeDistance_54 rfl ?_
      refine w_iload d_z_codeDistance_55 rfl ?_
      refine w_aload_n d_z_codeDistance_57 rfl ?_
      refine w_getR d_z_codeDistance_58 FL_z_76 (by omega) (kd_ent (he1) (he2)) (fref_ent2 (he1)) ?_
      refine w_iload d_z_codeDistance_61 rfl ?_
      refine w_ialdNV (v := (nI (c k))) d_z_codeDistance_63 (by omega) (kd_enta (by omega) (by omega)) (by rw [ln_enta (by omega) (by omega)]; omega) ((ee k).trans (hcd k h50).1) ?_
      refine w_aload_n d_z_codeDistance_64 rfl ?_
      refine w_getR d_z_codeDistance_65 FL_z_19 (by decide) (rfl) (rfl) ?_
      refine w_callV3 (N := M_z_wordDistance) d_z_codeDistance_68 LK_z_83 MF_z_wordDistance MV_z_wordDistance NP_z_wordDistance (by decide) (by decide) (rfl) rfl rfl (Nat.le_of_ble_eq_true rfl) ?_
      refine Ev.det (c_z_wordDistance _ kind _ _ _ ((e4 4).trans hk) h50 (by have := (hcd k h50).2; omega) (by decide) (by decide) (by decide)) ?_
      rw [wdOf_congr (S' := S) (y' := (lfOf S l (S.1 g))) h50 (fun i hi => by rw [ew _ (by have := (hcd k h50).2; omega)]) ey]
      refine w_iadd d_z_codeDistance_71 ?_
      show Wp _ 72 _ _ _ _
      refine w_istore_n d_z_codeDistance_72 (Nat.le_of_ble_eq_true rfl) ?_
      refine w_iincN d_z_codeDistance_73 rfl ?_
      refine w_goto 41 d_z_codeDistance_76 (by decide) ?_
      exact hn h50
  refine w_aload_n d_z_codeDistance_0 rfl ?_
  refine w_getIV (v := kind) d_z_codeDistance_1 FL_z_27 (by decide) (rfl) (rfl) (hk) ?_
  refine w_iconst (v := nI 2) d_z_codeDistance_4 (by decide +kernel) ?_
  refine w_icmp_ne 19 d_z_codeDistance_5 (by decide) (fun h5 => ?_) (fun h5 => ?_)
  · refine w_aload_n d_z_codeDistance_19 rfl ?_
    refine w_aload_n d_z_codeDistance_20 rfl ?_
    refine w_getR d_z_codeDistance_21 FL_z_11 (by decide) (rfl) (rfl) ?_
    refine w_aload_n d_z_codeDistance_24 rfl ?_
    refine w_getIV (v := (nI l)) d_z_codeDistance_25 FL_z_69 (by omega) (kd_ent (he1) (he2)) (fref_entI (he1) (by decide)) (hl) ?_
    refine w_aaldN d_z_codeDistance_28 (by decide) (rfl) (show l < 4 from (by omega)) ?_
    show Wp _ _ _ (.ref (104 + l) :: _) _ _
    refine w_aload_n d_z_codeDistance_29 rfl ?_
    refine w_getR d_z_codeDistance_30 FL_z_19 (by decide) (rfl) (rfl) ?_
    refine w_callS3 (N := M_q_subtract) d_z_codeDistance_33 LK_z_72 MF_q_subtract MS_q_subtract NP_q_subtract (by decide) rfl (Nat.le_of_ble_eq_true rfl) ?_
    refine Ev.det (c_q_subtract _ _ _ _ hg1 hg2 hg3 (by omega) (kd_row104 (by omega)) (ln_row104 (by omega)) (by decide) (by decide) (by decide) (by omega)) ?_
    refine w_iconst (v := nI 0) d_z_codeDistance_36 (by decide +kernel) ?_
    refine w_istore_n d_z_codeDistance_37 (Nat.le_of_ble_eq_true rfl) ?_
    show Wp _ 38 _ _ _ _
    refine w_iconst (v := nI 0) d_z_codeDistance_38 (by decide +kernel) ?_
    refine w_istore d_z_codeDistance_39 (Nat.le_of_ble_eq_true rfl) ?_
    exact hk0 h5 0 (by omega)
  · refine w_aload_n d_z_codeDistance_8 rfl ?_
    refine w_aload_n d_z_codeDistance_9 rfl ?_
    refine w_getR d_z_codeDistance_10 FL_z_60 (by omega) (kd_ent (he1) (he2)) (fref_ent1 (he1)) ?_
    refine w_iconst (v := nI 0) d_z_codeDistance_13 (by decide +kernel) ?_
    refine w_iconst (v := nI 4) d_z_codeDistance_14 (by decide +kernel) ?_
    refine w_callS4 (N := M_q_distance) d_z_codeDistance_15 LK_z_56 MF_q_distance MS_q_distance NP_q_distance (by decide) rfl (Nat.le_of_ble_eq_true rfl) ?_
    refine Ev.det (c_q_distance _ _ _ _ _ hg1 hg2 (by rw [hg3]; exact Nat.le_refl 4) (by omega) (kd_enta (by omega) (by omega)) (by rw [ln_enta (by omega) (by omega)]; exact Nat.le_refl 4) (by decide)) ?_
    simp only [Nat.zero_add]
    refine w_iret (st := []) rfl d_z_codeDistance_18 ?_
    exact ⟨by rw [if_pos h5], rfl, fun _ _ _ => rfl⟩
set_option maxRecDepth 100000 in
set_option maxHeartbeats 4000000 in
theorem c_z_listsBefore (S : St) (nl l g : Nat) (hl : S.1 4 5 = nI nl) (hl4 : nl ≤ 4) (hll : l < nl) (hg1 : g < 204) (hg2 : kd g = 0) (hg3 : ln g = 4) : Ev M_z_listsBefore [.ref 4, .int (nI l), .ref g] S (fun v9 S' => v9 = some (.int (nI (lbef (fun j => dst (S.1 (104 + j)) (S.1 g) 4) l nl))) ∧ S' = S) := by
  refine Ev.of MF_z_listsBefore (all_cat rfl) (Nat.le_of_ble_eq_true rfl) ?_
  show Wp M_z_listsBefore 0 [.ref 4, .int (nI l), .ref g, .null, .null, .null, .null] [] _ _
  have hk0 : ∀ k, k ≤ nl → ∀ (b : Nat) (x6 : Value), b = lbef (fun j => dst (S.1 (104 + j)) (S.1 g) 4) l k → Wp M_z_listsBefore 19 [.ref 4, .int (nI l), .ref g, .int (((fun j => dst (S.1 (104 + j)) (S.1 g) 4) l)), .int (nI b), .int (nI k), x6] [] S (fun v9 S' => v9 = some (.int (nI (lbef (fun j => dst (S.1 (104 + j)) (S.1 g) 4) l nl))) ∧ S' = S) := by
    refine loopUp (nl) (fun k hk9 hn => ?_)
    intro b x6 hb
    have hbk := lbef_le (fun j => dst (S.1 (104 + j)) (S.1 g) 4) l k
    refine w_iload d_z_listsBefore_19 rfl ?_
    refine w_aload_n d_z_listsBefore_21 rfl ?_
    refine w_getIV (v := (nI nl)) d_z_listsBefore_22 FL_z_31 (by decide) (rfl) (rfl) (hl) ?_
    refine w_icmp_geN 70 d_z_listsBefore_25 (by decide) (by omega) (by omega) (fun h25 => ?_) (fun h25 => ?_)
    · refine w_iload d_z_listsBefore_70 rfl ?_
      refine w_iret (st := []) rfl d_z_listsBefore_72 ?_
      obtain rfl : k = nl := by omega
      exact ⟨by rw [hb], rfl⟩
    · refine w_aload_n d_z_listsBefore_28 rfl ?_
      refine w_getR d_z_listsBefore_29 FL_z_11 (by decide) (rfl) (rfl) ?_
      refine w_iload d_z_listsBefore_32 rfl ?_
      refine w_aaldN d_z_listsBefore_34 (by decide) (rfl) (show k < 4 from (by omega)) ?_
      show Wp _ _ _ (.ref (104 + k) :: _) _ _
      refine w_aload_n d_z_listsBefore_35 rfl ?_
      refine w_iconst (v := nI 0) d_z_listsBefore_36 (by decide +kernel) ?_
      refine w_iconst (v := nI 4) d_z_listsBefore_37 (by decide +kernel) ?_
      refine w_callS4 (N := M_q_distance) d_z_listsBefore_38 LK_z_56 MF_q_distance MS_q_distance NP_q_distance (by decide) rfl (Nat.le_of_ble_eq_true rfl) ?_
      refine Ev.det (c_q_distance _ _ _ _ _ (by omega) (kd_row104 (by omega)) (by rw [ln_row104 (by omega)]; exact Nat.le_refl 4) hg1 hg2 (by rw [hg3]; exact Nat.le_refl 4) (by decide)) ?_
      simp only [Nat.zero_add]
      refine w_istore d_z_listsBefore_41 (Nat.le_of_ble_eq_true rfl) ?_
      refine w_iload d_z_listsBefore_43 rfl ?_
      refine w_iload_n d_z_listsBefore_45 rfl ?_
      show Wp _ 46 _ _ _ _
      refine w_icmp_lt 61 d_z_listsBefore_46 (by decide) (fun h46 => ?_) (fun h46 => ?_)
      · refine w_iincN d_z_listsBefore_61 rfl ?_
        refine w_iincN d_z_listsBefore_64 rfl ?_
        refine w_goto 19 d_z_listsBefore_67 (by decide) ?_
        exact hn h25 _ _ (by show _ = lbef (fun j => dst (S.1 (104 + j)) (S.1 g) 4) l k + (if _ then 1 else 0); rw [← hb, if_pos (Or.inl h46)])
      · refine w_iload d_z_listsBefore_49 rfl ?_
        refine w_iload_n d_z_listsBefore_51 rfl ?_
        refine w_icmp_ne 64 d_z_listsBefore_52 (by decide) (fun h52 => ?_) (fun h52 => ?_)
        · refine w_iincN d_z_listsBefore_64 rfl ?_
          refine w_goto 19 d_z_listsBefore_67 (by decide) ?_
          exact hn h25 _ _ (by show _ = lbef (fun j => dst (S.1 (104 + j)) (S.1 g) 4) l k + (if _ then 1 else 0); rw [← hb, if_neg (fun q => q.elim h46 (fun q => h52 q.1))]; rfl)
        · refine w_iload d_z_listsBefore_55 rfl ?_
          refine w_iload_n d_z_listsBefore_57 rfl ?_
          refine w_icmp_geN 64 d_z_listsBefore_58 (by decide) (by omega) (by omega) (fun h58 => ?_) (fun h58 => ?_)
          · refine w_iincN d_z_listsBefore_64 rfl ?_
            refine w_goto 19 d_z_listsBefore_67 (by decide) ?_
            exact hn h25 _ _ (by show _ = lbef (fun j => dst (S.1 (104 + j)) (S.1 g) 4) l k + (if _ then 1 else 0); rw [← hb, if_neg (fun q => q.elim h46 (fun q => by omega))]; rfl)
          · refine w_iincN d_z_listsBefore_61 rfl ?_
            refine w_iincN d_z_listsBefore_64 rfl ?_
            refine w_goto 19 d_z_listsBefore_67 (by decide) ?_
            exact hn h25 _ _ (by show _ = lbef (fun j => dst (S.1 (104 + j)) (S.1 g) 4) l k + (if _ then 1 else 0); rw [← hb, if_pos (Or.inr ⟨h52, h58⟩)])
  refine w_aload_n d_z_listsBefore_0 rfl ?_
  refine w_getR d_z_listsBefore_1 FL_z_11 (by decide) (rfl) (rfl) ?_
  refine w_iload_n d_z_listsBefore_4 rfl ?_
  refine w_aaldN d_z_listsBefore_5 (by decide) (rfl) (show l < 4 from (by omega)) ?_
  show Wp _ _ _ (.ref (104 + l) :: _) _ _
  refine w_aload_n d_z_listsBefore_6 rfl ?_
  refine w_iconst (v := nI 0) d_z_listsBefore_7 (by decide +kernel) ?_
  refine w_iconst (v := nI 4) d_z_listsBefore_8 (by decide +kernel) ?_
  refine w_callS4 (N := M_q_distance) d_z_listsBefore_9 LK_z_56 MF_q_distance MS_q_distance NP_q_distance (by decide) rfl (Nat.le_of_ble_eq_true rfl) ?_
  refine Ev.det (c_q_distance _ _ _ _ _ (by omega) (kd_row104 (by omega)) (by rw [ln_row104 (by omega)]; exact Nat.le_refl 4) hg1 hg2 (by rw [hg3]; exact Nat.le_refl 4) (by decide)) ?_
  simp only [Nat.zero_add]
  refine w_istore_n d_z_listsBefore_12 (Nat.le_of_ble_eq_true rfl) ?_
  refine w_iconst (v := nI 0) d_z_listsBefore_13 (by decide +kernel) ?_
  refine w_istore d_z_listsBefore_14 (Nat.le_of_ble_eq_true rfl) ?_
  show Wp _ 16 _ _ _ _
  refine w_iconst (v := nI 0) d_z_listsBefore_16 (by decide +kernel) ?_
  refine w_istore d_z_listsBefore_17 (Nat.le_of_ble_eq_true rfl) ?_
  exact hk0 0 (by omega) 0 _ rfl
