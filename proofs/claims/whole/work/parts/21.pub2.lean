def plI (f : Nat → Int32) (v : Int32) (m : Nat) : Int32 := if ffind f v m < m then nI (ffind f v m) else -1
theorem nI_ne_m1 {n : Nat} (h : n < 2 ^ 31) : ¬ nI n = -1 := fun q => by
  have h1 := nI_toInt h
  rw [q] at h1
  have : ((-1 : Int32)).toInt = -1 := by decide
  omega
theorem pl_no {f : Nat → Int32} {v : Int32} {m : Nat} (hm : m ≤ 20) (h : plI f v m = -1) : ¬ ffind f v m < m := fun q => by
  unfold plI at h
  rw [if_pos q] at h
  exact nI_ne_m1 (by omega) h
theorem pl_yes {f : Nat → Int32} {v : Int32} {m : Nat} (h : ¬ plI f v m = -1) : plI f v m = nI (ffind f v m) ∧ ffind f v m < m := by
  unfold plI at h ⊢
  by_cases q : ffind f v m < m
  · rw [if_pos q]; exact ⟨rfl, q⟩
  · rw [if_neg q] at h; exact absurd rfl h
theorem tval_congr {s : Int32} {g g' : Nat → Int32} (hs : okStep s) (h : ∀ k, k < 4 → g k = g' k) : tval s g = tval s g' := by
  unfold tval
  rw [h _ (okStep_ax hs).2]
set_option maxRecDepth 100000 in
set_option maxHeartbeats 4000000 in
theorem c_q_remove (S : St) (v : Int32) (m : Nat) (hm : S.1 5 1 = nI m) (hm20 : m ≤ 20) (hT : ∀ i, i < 20 → 124 ≤ S.2 i ∧ S.2 i < 144) : Ev M_q_remove [.ref 0, .int v] S (fun v9 S' => v9 = some (.int (bI (decide ((ffind (fun i => S.1 (S.2 i) 3) v m) < m)))) ∧ ((ffind (fun i => S.1 (S.2 i) 3) v m) < m → S'.1 = (put S 5 1 (nI (m - 1))).1 ∧ ∀ i, S'.2 i = if (ffind (fun i => S.1 (S.2 i) 3) v m) ≤ i ∧ i < m - 1 then S.2 (i + 1) else if i = m - 1 then S.2 (ffind (fun i => S.1 (S.2 i) 3) v m) else S.2 i) ∧ (¬ (ffind (fun i => S.1 (S.2 i) 3) v m) < m → S' = S)) := by
  refine Ev.of MF_q_remove (all_cat rfl) (Nat.le_of_ble_eq_true rfl) ?_
  show Wp M_q_remove 0 [.ref 0, .int v, .null] [] _ _
  refine w_aload_n d_q_remove_0 rfl ?_
  refine w_getR d_q_remove_1 FL_q_40 (by decide) (rfl) (rfl) ?_
  refine w_iload_n d_q_remove_4 rfl ?_
  refine w_callV1 (N := M_b_placeOf) d_q_remove_5 LK_q_132 MF_b_placeOf MV_b_placeOf NP_b_placeOf (by decide) (by decide) (rfl) rfl rfl (Nat.le_of_ble_eq_true rfl) ?_
  refine Ev.det (c_b_placeOf S v m hm hm20 hT) ?_
  show Wp _ _ _ (.int (plI (fun i => S.1 (S.2 i) 3) v m) :: _) _ _
  refine w_istore_n d_q_remove_8 (Nat.le_of_ble_eq_true rfl) ?_
  refine w_iload_n d_q_remove_9 rfl ?_
  refine w_iconst (v := -1) d_q_remove_10 (by decide +kernel) ?_
  refine w_icmp_ne 16 d_q_remove_11 (by decide) (fun h11 => ?_) (fun h11 => ?_)
  · have hpl := pl_yes h11
    rw [hpl.1]
    refine w_aload_n d_q_remove_16 rfl ?_
    refine w_getR d_q_remove_17 FL_q_40 (by decide) (rfl) (rfl) ?_
    refine w_iload_n d_q_remove_20 rfl ?_
    refine w_callV1 (N := M_b_drop) d_q_remove_21 LK_q_139 MF_b_drop MV_b_drop NP_b_drop (by decide) (by decide) (rfl) rfl rfl (Nat.le_of_ble_eq_true rfl) ?_
    refine Ev.mono (c_b_drop S _ m hm hm20 hpl.2 hT) (fun r9 S2 hq => ?_)
    obtain ⟨rfl, g1, g2⟩ := hq
    show Wp _ _ _ [] _ _
    refine w_iconst (v := nI 1) d_q_remove_24 (by decide +kernel) ?_
    refine w_zret (st := []) rfl d_q_remove_25 (by decide) ?_
    refine ⟨rb1 (decide_eq_true hpl.2), fun _ => ⟨g1, g2⟩, fun q => absurd hpl.2 q⟩
  · refine w_iconst (v := nI 0) d_q_remove_14 (by decide +kernel) ?_
    refine w_zret (st := []) rfl d_q_remove_15 (by decide) ?_
    have hpl := pl_no hm20 h11
    exact ⟨rb0 (decide_eq_false hpl), fun q => absurd q hpl, fun _ => rfl⟩
set_option maxRecDepth 100000 in
set_option maxHeartbeats 4000000 in
theorem c_q_listOf (S : St) (v : Int32) (m : Nat) (hm : S.1 5 1 = nI m) (hm20 : m ≤ 20) (hT : ∀ i, i < 20 → 124 ≤ S.2 i ∧ S.2 i < 144) : Ev M_q_listOf [.ref 0, .int v] S (fun v9 S' => v9 = some (.int (if (ffind (fun i => S.1 (S.2 i) 3) v m) < m then S.1 (S.2 (ffind (fun i => S.1 (S.2 i) 3) v m)) 4 else -1)) ∧ S' = S) := by
  refine Ev.of MF_q_listOf (all_cat rfl) (Nat.le_of_ble_eq_true rfl) ?_
  show Wp M_q_listOf 0 [.ref 0, .int v, .null] [] _ _
  refine w_aload_n d_q_listOf_0 rfl ?_
  refine w_getR d_q_listOf_1 FL_q_40 (by decide) (rfl) (rfl) ?_
  refine w_iload_n d_q_listOf_4 rfl ?_
  refine w_callV1 (N := M_b_placeOf) d_q_listOf_5 LK_q_132 MF_b_placeOf MV_b_placeOf NP_b_placeOf (by decide) (by decide) (rfl) rfl rfl (Nat.le_of_ble_eq_true rfl) ?_
  refine Ev.det (c_b_placeOf S v m hm hm20 hT) ?_
  show Wp _ _ _ (.int (plI (fun i => S.1 (S.2 i) 3) v m) :: _) _ _
  refine w_istore_n d_q_listOf_8 (Nat.le_of_ble_eq_true rfl) ?_
  refine w_iload_n d_q_listOf_9 rfl ?_
  refine w_iconst (v := -1) d_q_listOf_10 (by decide +kernel) ?_
  refine w_icmp_ne 18 d_q_listOf_11 (by decide) (fun h11 => ?_) (fun h11 => ?_)
  · have hpl := pl_yes h11
    rw [hpl.1]
    refine w_aload_n d_q_listOf_18 rfl ?_
    refine w_getR d_q_listOf_19 FL_q_40 (by decide) (rfl) (rfl) ?_
    refine w_getR d_q_listOf_22 FL_q_142 (by decide) (rfl) (rfl) ?_
    refine w_iload_n d_q_listOf_25 rfl ?_
    refine w_ealdN d_q_listOf_26 (by omega) ?_
    refine w_getI d_q_listOf_27 FL_q_146 (by have := hT (ffind (fun i => S.1 (S.2 i) 3) v m) (by omega); omega) (kd_ent ((hT (ffind (fun i => S.1 (S.2 i) 3) v m) (by omega)).1) ((hT (ffind (fun i => S.1 (S.2 i) 3) v m) (by omega)).2)) (fref_entI ((hT (ffind (fun i => S.1 (S.2 i) 3) v m) (by omega)).1) (by decide)) ?_
    refine w_iret (st := []) rfl d_q_listOf_30 ?_
    exact ⟨by rw [if_pos hpl.2], rfl⟩
  · refine w_iconst (v := -1) d_q_listOf_14 (by decide +kernel) ?_
    refine w_goto 30 d_q_listOf_15 (by decide) ?_
    refine w_iret (st := []) rfl d_q_listOf_30 ?_
    exact ⟨by rw [if_neg (pl_no hm20 h11)], rfl⟩
set_option maxRecDepth 100000 in
set_option maxHeartbeats 4000000 in
theorem c_q_codeOf (S : St) (v : Int32) (kind : Int32) (nl m nc : Nat) (l : Nat → Nat) (c : Nat → Nat → Nat) (hE : EH S kind nl m l c) (hc : S.1 4 6 = nI nc) : Ev M_q_codeOf [.ref 0, .int v] S (fun v9 S' => v9 = some (.int (if (ffind (fun i => S.1 (S.2 i) 3) v m) < m then nI (csum (c (ffind (fun i => S.1 (S.2 i) 3) v m)) nc (parts kind)) else -1)) ∧ S' = S) := by
  refine Ev.of MF_q_codeOf (all_cat rfl) (Nat.le_of_ble_eq_true rfl) ?_
  show Wp M_q_codeOf 0 [.ref 0, .int v, .null] [] _ _
  obtain ⟨hk, hl, hl1, hl4, hm, hm20, hT, hen⟩ := hE
  refine w_aload_n d_q_codeOf_0 rfl ?_
  refine w_getR d_q_codeOf_1 FL_q_40 (by decide) (rfl) (rfl) ?_
  refine w_iload_n d_q_codeOf_4 rfl ?_
  refine w_callV1 (N := M_b_placeOf) d_q_codeOf_5 LK_q_132 MF_b_placeOf MV_b_placeOf NP_b_placeOf (by decide) (by decide) (rfl) rfl rfl (Nat.le_of_ble_eq_true rfl) ?_
  refine Ev.det (c_b_placeOf S v m hm hm20 hT) ?_
  show Wp _ _ _ (.int (plI (fun i => S.1 (S.2 i) 3) v m) :: _) _ _
  refine w_istore_n d_q_codeOf_8 (Nat.le_of_ble_eq_true rfl) ?_
  refine w_iload_n d_q_codeOf_9 rfl ?_
  refine w_iconst (v := -1) d_q_codeOf_10 (by decide +kernel) ?_
  refine w_icmp_ne 18 d_q_codeOf_11 (by decide) (fun h11 => ?_) (fun h11 => ?_)
  · have hpl := pl_yes h11
    rw [hpl.1]
    refine w_aload_n d_q_codeOf_18 rfl ?_
    refine w_getR d_q_codeOf_19 FL_q_33 (by decide) (rfl) (rfl) ?_
    refine w_aload_n d_q_codeOf_22 rfl ?_
    refine w_getR d_q_codeOf_23 FL_q_40 (by decide) (rfl) (rfl) ?_
    refine w_getR d_q_codeOf_26 FL_q_142 (by decide) (rfl) (rfl) ?_
    refine w_iload_n d_q_codeOf_29 rfl ?_
    refine w_ealdN d_q_codeOf_30 (by omega) ?_
    refine w_callV1 (N := M_z_codeAsNumber) d_q_codeOf_31 LK_q_151 MF_z_codeAsNumber MV_z_codeAsNumber NP_z_codeAsNumber (by decide) (by decide) (rfl) rfl rfl (Nat.le_of_ble_eq_true rfl) ?_
    have hTi := hT (ffind (fun i => S.1 (S.2 i) 3) v m) (by omega)
    refine Ev.det (c_z_codeAsNumber S kind nc _ (c (ffind (fun i => S.1 (S.2 i) 3) v m)) hk hc (fun k hk => ((hen _ hpl.2).2 k hk).1) hTi.1 hTi.2) ?_
    refine w_iret (st := []) rfl d_q_codeOf_34 ?_
    exact ⟨by rw [if_pos hpl.2], rfl⟩
  · refine w_iconst (v := -1) d_q_codeOf_14 (by decide +kernel) ?_
    refine w_goto 34 d_q_codeOf_15 (by decide) ?_
    refine w_iret (st := []) rfl d_q_codeOf_34 ?_
    exact ⟨by rw [if_neg (pl_no hm20 h11)], rfl⟩
set_option maxRecDepth 100000 in
set_option maxHeartbeats 4000000 in
theorem c_q_entries (S : St) (v : Int32) (m : Nat) (hm : S.1 5 1 = nI m) (hm20 : m ≤ 20) (hT : ∀ i, i < 20 → 124 ≤ S.2 i ∧ S.2 i < 144) : Ev M_q_entries [.ref 0, .int v] S (fun v9 S' => v9 = some (.int (if ¬ S.1 4 3 = 0 ∧ (nI 0 ≤ v ∧ v ≤ S.1 4 5 - nI 1) then nI (cntI (fun i => S.1 (S.2 i) 4) v m) else -1)) ∧ S' = S) := by
  refine Ev.of MF_q_entries (all_cat rfl) (Nat.le_of_ble_eq_true rfl) ?_
  show Wp M_q_entries 0 [.ref 0, .int v] [] _ _
  refine w_aload_n d_q_entries_0 rfl ?_
  refine w_getR d_q_entries_1 FL_q_33 (by decide) (rfl) (rfl) ?_
  refine w_iload_n d_q_entries_4 rfl ?_
  refine w_callV1 (N := M_z_hasList) d_q_entries_5 LK_q_107 MF_z_hasList MV_z_hasList NP_z_hasList (by decide) (by decide) (rfl) rfl rfl (Nat.le_of_ble_eq_true rfl) ?_
  refine Ev.det (c_z_hasList _ _) ?_
  refine w_if_eqB 22 d_q_entries_8 (by decide) (fun h8 => ?_) (fun h8 => ?_)
  · refine w_iconst (v := -1) d_q_entries_22 (by decide +kernel) ?_
    refine w_iret (st := []) rfl d_q_entries_23 ?_
    exact ⟨by rw [if_neg (of_decide_eq_false h8)], rfl⟩
  · refine w_aload_n d_q_entries_11 rfl ?_
    refine w_getR d_q_entries_12 FL_q_40 (by decide) (rfl) (rfl) ?_
    refine w_iload_n d_q_entries_15 rfl ?_
    refine w_callV1 (N := M_b_countInList) d_q_entries_16 LK_q_155 MF_b_countInList MV_b_countInList NP_b_countInList (by decide) (by decide) (rfl) rfl rfl (Nat.le_of_ble_eq_true rfl) ?_
    refine Ev.det (c_b_countInList S v m hm hm20 hT) ?_
    refine w_goto 23 d_q_entries_19 (by decide) ?_
    refine w_iret (st := []) rfl d_q_entries_23 ?_
    exact ⟨by rw [if_pos (of_decide_eq_true h8)], rfl⟩
/-- a point turned -/
def tv (S : St) (a b c d : Int32) : Nat → Int32 := fun k => tval (S.1 9 k) (pt a b c d)
/-- the row e becomes the entry v at the point; p is its place -/
def PE (S S' : St) (kind : Int32) (nl nc m p : Nat) (v a b c d : Int32) : Prop := p ≤ m ∧ (∀ i, p ≤ i → i < m → ¬ S.1 (S.2 i) 3 ≤ v) ∧ (0 < p → S.1 (S.2 (p - 1)) 3 ≤ v) ∧ (∀ i, S'.2 i = if i = p then S.2 m else if p < i ∧ i ≤ m then S.2 (i - 1) else S.2 i) ∧
  (∀ x i, ¬ (x = S.2 m ∨ x = S.2 m + 20 ∨ x = S.2 m + 40 ∨ x = S.2 m + 60 ∨ x = 18 ∨ (x = 5 ∧ i = 1)) → S'.1 x i = S.1 x i) ∧ S'.1 5 1 = nI (m + 1) ∧ S'.1 (S.2 m) 3 = v ∧ S'.1 (S.2 m) 4 = nI (lsOf S nl (tv S a b c d)) ∧
  (∀ k, k < 4 → S'.1 (S.2 m + 20) k = pt a b c d k ∧ S'.1 (S.2 m + 40) k = tv S a b c d k) ∧ ∀ q, q < parts kind → S'.1 (S.2 m + 60) q = nI (cdOf S kind nc (lfOf S (lsOf S nl (tv S a b c d)) (tv S a b c d)) q)
set_option maxRecDepth 100000 in
set_option maxHeartbeats 4000000 in
theorem c_q_putEntry (S : St) (kind : Int32) (nl nc m : Nat) (v a b c d : Int32) (hk : S.1 4 4 = kind) (hl : S.1 4 5 = nI nl) (hl1 : 0 < nl) (hl4 : nl ≤ 4) (hc : S.1 4 6 = nI nc) (hc1 : 0 < nc) (hc4 : nc ≤ 4) (hm : S.1 5 1 = nI m) (hm20 : m < 20) (hT : ∀ i, i < 20 → 124 ≤ S.2 i ∧ S.2 i < 144) (hne : ∀ i, i < m → S.2 i ≠ S.2 m) (ho : ∀ k, k < 4 → okStep (S.1 9 k)) : Ev M_q_putEntry [.ref 0, .int v, .int a, .int b, .int c, .int d] S (fun v9 S' => v9 = some (.int (nI (lsOf S nl (tv S a b c d)))) ∧ ∃ p, PE S S' kind nl nc m p v a b c d) := by
  refine Ev.of MF_q_putEntry (all_cat rfl) (Nat.le_of_ble_eq_true rfl) ?_
  show Wp M_q_putEntry 0 [.ref 0, .int v, .int a, .int b, .int c, .int d, .null] [] _ _
  have hTm := hT m (by omega)
  refine w_aload_n d_q_putEntry_0 rfl ?_
  refine w_getR d_q_putEntry_1 FL_q_40 (by decide) (rfl) (rfl) ?_
  refine w_getR d_q_putEntry_4 FL_q_142 (by decide) (rfl) (rfl) ?_
  refine w_aload_n d_q_putEntry_7 rfl ?_
  refine w_getR d_q_putEntry_8 FL_q_40 (by decide) (rfl) (rfl) ?_
  refine w_iload_n d_q_putEntry_11 rfl ?_
  refine w_callV1 (N := M_b_makeRoom) d_q_putEntry_12 LK_q_280 MF_b_makeRoom MV_b_makeRoom NP_b_makeRoom (by decide) (by decide) (rfl) rfl rfl (Nat.le_of_ble_eq_true rfl) ?_
  refine Ev.mono (c_b_makeRoom S v m hm hm20 hT hne) (fun r9 S1 hq => ?_)
  obtain ⟨p, hp1, rfl, hp2, hp3, g1, g2⟩ := hq
  show Wp _ _ _ (.int (nI p) :: _) _ _
  have f1 : ∀ x i, ¬ (x = S.2 m ∧ i = 3) → ¬ (x = 5 ∧ i = 1) → S1.1 x i = S.1 x i := fun x i h1 h2 => by rw [g1, put_ne h2, put_ne h1]
  refine w_ealdNV (b := ((S.2 m))) d_q_putEntry_15 (by omega) (by rw [g2, if_pos rfl]) ?_
  refine w_astore d_q_putEntry_16 (Nat.le_of_ble_eq_true rfl) ?_
  refine w_aload d_q_putEntry_18 rfl ?_
  refine w_getR d_q_putEntry_20 FL_q_283 (by have := hT m (by omega); omega) (kd_ent ((hT m (by omega)).1) ((hT m (by omega)).2)) (fref_ent0 ((hT m (by omega)).1)) ?_
  show Wp _ 23 _ _ _ _
  refine w_iload_n d_q_putEntry_23 rfl ?_
  refine w_iload_n d_q_putEntry_24 rfl ?_
  refine w_iload d_q_putEntry_25 rfl ?_
  refine w_iload d_q_putEntry_27 rfl ?_
  refine w_callS5 (N := M_q_setPoint) d_q_putEntry_29 LK_q_81 MF_q_setPoint MS_q_setPoint NP_q_setPoint (by decide) rfl (Nat.le_of_ble_eq_true rfl) ?_
  refine Ev.det (c_q_setPoint _ _ _ _ _ _ (by omega) (kd_enta (by omega) (by omega)) (ln_enta (by omega) (by omega))) ?_
  refine w_aload_n d_q_putEntry_32 rfl ?_
  refine w_getR d_q_putEntry_33 FL_q_10 (by decide) (rfl) (rfl) ?_
  refine w_aload d_q_putEntry_36 rfl ?_
  refine w_getR d_q_putEntry_38 FL_q_283 (by have := hT m (by omega); omega) (kd_ent ((hT m (by omega)).1) ((hT m (by omega)).2)) (fref_ent0 ((hT m (by omega)).1)) ?_
  refine w_aload d_q_putEntry_41 rfl ?_
  refine w_getR d_q_putEntry_43 FL_q_284 (by have := hT m (by omega); omega) (kd_ent ((hT m (by omega)).1) ((hT m (by omega)).2)) (fref_ent1 ((hT m (by omega)).1)) ?_
  refine w_callV2 (N := M_t_apply) d_q_putEntry_46 LK_q_171 MF_t_apply MV_t_apply NP_t_apply (by decide) (by decide) (rfl) rfl rfl (Nat.le_of_ble_eq_true rfl) ?_
  have e9 : ∀ k, (setRow S1 (S.2 m + 20) (pt a b c d) 4).1 9 k = S.1 9 k := fun k => by rw [setRow_ne (by omega), f1 _ _ (by omega) (by omega)]
  refine Ev.det (c_t_apply _ _ _ (by omega) (kd_enta (by omega) (by omega)) (ln_enta (by omega) (by omega)) (by omega) (kd_enta (by omega) (by omega)) (ln_enta (by omega) (by omega)) (by omega) (by omega) (fun k hk => by rw [e9]; exact ho k hk)) ?_
  have et : ∀ k, k < 4 → tval ((setRow S1 (S.2 m + 20) (pt a b c d) 4).1 9 k) ((setRow S1 (S.2 m + 20) (pt a b c d) 4).1 (S.2 m + 20)) = tv S a b c d k := fun k hk => by
    rw [e9]
    exact tval_congr (ho k hk) (fun j hj => setRow_at hj)
  show Wp _ 49 _ _ _ _
  refine w_aload_n d_q_putEntry_49 rfl ?_
  refine w_getR d_q_putEntry_50 FL_q_33 (by decide) (rfl) (rfl) ?_
  refine w_aload d_q_putEntry_53 rfl ?_
  refine w_callV1 (N := M_z_encode) d_q_putEntry_55 LK_q_287 MF_z_encode MV_z_encode NP_z_encode (by decide) (by decide) (rfl) rfl rfl (Nat.le_of_ble_eq_true rfl) ?_
  have f3 : ∀ x i, ¬ (x = S.2 m + 40) → ¬ (x = S.2 m + 20) → ¬ (x = S.2 m ∧ i = 3) → ¬ (x = 5 ∧ i = 1) → (setRow (setRow S1 (S.2 m + 20) (pt a b c d) 4) (S.2 m + 40) (fun k => tval ((setRow S1 (S.2 m + 20) (pt a b c d) 4).1 9 k) ((setRow S1 (S.2 m + 20) (pt a b c d) 4).1 (S.2 m + 20))) 4).1 x i = S.1 x i := fun x i h1 h2 h3 h4 => by rw [setRow_ne h1, setRow_ne h2, f1 x i h3 h4]
  refine Ev.det (c_z_encode (setRow (setRow S1 (S.2 m + 20) (pt a b c d) 4) (S.2 m + 40) (fun k => tval ((setRow S1 (S.2 m + 20) (pt a b c d) 4).1 9 k) ((setRow S1 (S.2 m + 20) (pt a b c d) 4).1 (S.2 m + 20))) 4) kind nl nc (S.2 m) ((f3 4 4 (by omega) (by omega) (by omega) (by omega)).trans hk) ((f3 4 5 (by omega) (by omega) (by omega) (by omega)).trans hl) hl1 hl4 ((f3 4 6 (by omega) (by omega) (by omega) (by omega)).trans hc) hc1 hc4 hTm.1 hTm.2) ?_
  have ex : ∀ k, k < 4 → (setRow (setRow S1 (S.2 m + 20) (pt a b c d) 4) (S.2 m + 40) (fun k => tval ((setRow S1 (S.2 m + 20) (pt a b c d) 4).1 9 k) ((setRow S1 (S.2 m + 20) (pt a b c d) 4).1 (S.2 m + 20))) 4).1 (S.2 m + 40) k = tv S a b c d k := fun k hk => by rw [setRow_at hk]; exact et k hk
  have el : lsOf (setRow (setRow S1 (S.2 m + 20) (pt a b c d) 4) (S.2 m + 40) (fun k => tval ((setRow S1 (S.2 m + 20) (pt a b c d) 4).1 9 k) ((setRow S1 (S.2 m + 20) (pt a b c d) 4).1 (S.2 m + 20))) 4) nl ((setRow (setRow S1 (S.2 m + 20) (pt a b c d) 4) (S.2 m + 40) (fun k => tval ((setRow S1 (S.2 m + 20) (pt a b c d) 4).1 9 k) ((setRow S1 (S.2 m + 20) (pt a b c d) 4).1 (S.2 m + 20))) 4).1 (S.2 m + 40)) = lsOf S nl (tv S a b c d) := lsOf_congr (fun l hl k hk => f3 _ _ (by omega) (by omega) (by omega) (by omega)) ex
  have hls := lsOf_lt (S := S) (x := tv S a b c d) hl1
  rw [el]
  refine w_aload d_q_putEntry_58 rfl ?_
  refine w_getIV (v := (nI (lsOf S nl (tv S a b c d)))) d_q_putEntry_60 FL_q_146 (by have := hT m (by omega); omega) (kd_ent ((hT m (by omega)).1) ((hT m (by omega)).2)) (fref_entI ((hT m (by omega)).1) (by decide)) (by rw [setRow_ne (by omega), setRow_ne (by omega), put_at]) ?_
  refine w_iret (st := []) rfl d_q_putEntry_63 ?_
  refine ⟨rfl, p, hp1, hp2, hp3, fun i => g2 i, ?_, ?_, ?_, ?_, ?_, ?_⟩
  · intro x i hx
    rw [setRow_ne (by omega), setRow_ne (by omega), put_ne (by omega)]
    exact f3 x i (by omega) (by omega) (by omega) (by omega)
  · rw [setRow_ne (by omega), setRow_ne (by omega), put_ne (by omega), setRow_ne (by omega), setRow_ne (by omega), g1, put_at]
  · rw [setRow_ne (by omega), setRow_ne (by omega), put_ne (by omega), setRow_ne (by omega), setRow_ne (by omega), g1, put_ne (by omega), put_at]
  · rw [setRow_ne (by omega), setRow_ne (by omega), put_at]
  · intro k hk
    refine ⟨?_, ?_⟩
    · rw [setRow_ne (by omega), setRow_ne (by omega), put_ne (by omega), setRow_ne (by omega), setRow_at hk]
    · rw [setRow_ne (by omega), setRow_ne (by omega), put_ne (by omega)]
      exact ex k hk
  · intro q hq
    rw [setRow_at hq]
    refine congrArg nI (cdOf_congr hq (fun j hj k hk => ?_) (fun k hk => ?_))
    · have := parts_le kind
      exact f3 _ _ (by omega) (by omega) (by omega) (by omega)
    · unfold lfOf
      rw [ex k hk, f3 _ _ (by omega) (by omega) (by omega) (by omega)]
def adR (S : St) (nl m : Nat) (v a b c d : Int32) : Int32 := if S.1 4 3 = 0 then -1 else if ¬ (nI 0 ≤ v ∧ v ≤ nI 999) then -2 else if badPt a b c d = true then -3 else if ffind (fun i => S.1 (S.2 i) 3) v m < m then -4 else if ¬ m < 20 then -5 else nI (lsOf S nl (tv S a b c d))
def adOK (S : St) (m : Nat) (v a b c d : Int32) : Prop := ¬ S.1 4 3 = 0 ∧ (nI 0 ≤ v ∧ v ≤ nI 999) ∧ badPt a b c d = false ∧ ¬ ffind (fun i => S.1 (S.2 i) 3) v m < m ∧ m < 20
set_option maxRecDepth 100000 in
set_option maxHeartbeats 4000000 in
theorem c_q_add (S : St) (kind : Int32) (nl nc m : Nat) (v a b c d : Int32) (hk : S.1 4 4 = kind) (hq : ¬ S.1 4 3 = 0 → S.1 4 5 = nI nl ∧ 0 < nl ∧ nl ≤ 4 ∧ S.1 4 6 = nI nc ∧ 0 < nc ∧ nc ≤ 4) (hm : S.1 5 1 = nI m) (hm20 : m ≤ 20) (hT : ∀ i, i < 20 → 124 ≤ S.2 i ∧ S.2 i < 144) (hne : m < 20 → ∀ i, i < m → S.2 i ≠ S.2 m) (ho : ∀ k, k < 4 → okStep (S.1 9 k)) : Ev M_q_add [.ref 0, .int v, .int a, .int b, .int c, .int d] S (fun v9 S' => v9 = some (.int (adR S nl m v a b c d)) ∧ (adOK S m v a b c d → ∃ p, PE S S' kind nl nc m p v a b c d) ∧ (¬ adOK S m v a b c d → S' = S)) := by
  refine Ev.of MF_q_add (all_cat rfl) (Nat.le_of_ble_eq_true rfl) ?_
  show Wp M_q_add 0 [.ref 0, .int v, .int a, .int b, .int c, .int d] [] _ _
  refine w_aload_n d_q_add_0 rfl ?_
  refine w_getR d_q_add_1 FL_q_33 (by decide) (rfl) (rfl) ?_
  refine w_getI d_q_add_4 FL_q_62 (by decide) (rfl) (rfl) ?_
  refine w_if_ne 12 d_q_add_7 (by decide) (fun h7 => ?_) (fun h7 => ?_)
  · refine w_iload_n d_q_add_12 rfl ?_
    refine w_iconst (v := nI 0) d_q_add_13 (by decide +kernel) ?_
    refine w_sipush (v := nI 999) d_q_add_14 (by decide +kernel) ?_
    refine w_callS3 (N := M_q_isWithin) d_q_add_17 LK_q_86 MF_q_isWithin MS_q_isWithin NP_q_isWithin (by decide) rfl (Nat.le_of_ble_eq_true rfl) ?_
    refine Ev.det (c_q_isWithin _ _ _ _) ?_
    refine w_if_neB 26 d_q_add_20 (by decide) (fun h20 => ?_) (fun h20 => ?_)
    · refine w_iload_n d_q_add_26 rfl ?_
      refine w_iload_n d_q_add_27 rfl ?_
      refine w_iload d_q_add_28 rfl ?_
      refine w_iload d_q_add_30 rfl ?_
      refine w_callS4 (N := M_q_isBad) d_q_add_32 LK_q_70 MF_q_isBad MS_q_isBad NP_q_isBad (by decide) rfl (Nat.le_of_ble_eq_true rfl) ?_
      refine Ev.det (c_q_isBad _ _ _ _ _) ?_
      refine w_if_eqB 41 d_q_add_35 (by decide) (fun h35 => ?_) (fun h35 => ?_)
      · refine w_aload_n d_q_add_41 rfl ?_
        refine w_getR d_q_add_42 FL_q_40 (by decide) (rfl) (rfl) ?_
        refine w_iload_n d_q_add_45 rfl ?_
        refine w_callV1 (N := M_b_placeOf) d_q_add_46 LK_q_132 MF_b_placeOf MV_b_placeOf NP_b_placeOf (by decide) (by decide) (rfl) rfl rfl (Nat.le_of_ble_eq_true rfl) ?_
        refine Ev.det (c_b_placeOf S v m hm hm20 hT) ?_
        show Wp _ _ _ (.int (plI (fun i => S.1 (S.2 i) 3) v m) :: _) _ _
        refine w_iconst (v := -1) d_q_add_49 (by decide +kernel) ?_
        refine w_icmp_eq 56 d_q_add_50 (by decide) (fun h50 => ?_) (fun h50 => ?_)
        · refine w_aload_n d_q_add_56 rfl ?_
          refine w_getR d_q_add_57 FL_q_40 (by decide) (rfl) (rfl) ?_
          refine w_getIV (v := (nI m)) d_q_add_60 FL_q_85 (by decide) (rfl) (rfl) (hm) ?_
          refine w_bipush (v := nI 20) d_q_add_63 (by decide +kernel) ?_
          refine w_icmp_ltN 71 d_q_add_65 (by decide) (by omega) (by omega) (fun h65 => ?_) (fun h65 => ?_)
          · refine w_aload_n d_q_add_71 rfl ?_
            refine w_iload_n d_q_add_72 rfl ?_
            refine w_iload_n d_q_add_73 rfl ?_
            refine w_iload_n d_q_add_74 rfl ?_
            refine w_iload d_q_add_75 rfl ?_
            refine w_iload d_q_add_77 rfl ?_
            refine w_callV5 (N := M_q_putEntry) d_q_add_79 LK_q_135 MF_q_putEntry MV_q_putEntry NP_q_putEntry (by decide) (by decide) (rfl) rfl rfl (Nat.le_of_ble_eq_true rfl) ?_
            obtain ⟨hl, hl1, hl4, hc, hc1, hc4⟩ := hq h7
            refine Ev.mono (c_q_putEntry S kind nl nc m v a b c d hk hl hl1 hl4 hc hc1 hc4 hm h65 hT (hne h65) ho) (fun r9 S1 hq9 => ?_)
            obtain ⟨rfl, hpe⟩ := hq9
            show Wp _ _ _ [.int (nI (lsOf S nl (tv S a b c d)))] _ _
            refine w_iret (st := []) rfl d_q_add_82 ?_
            exact ⟨by unfold adR; rw [if_neg h7, if_neg (fun q => q (of_decide_eq_true h20)), if_neg (by rw [h35]; decide), if_neg (pl_no (by omega) h50), if_neg (by omega)], fun _ => hpe, fun q => absurd ⟨h7, of_decide_eq_true h20, h35, pl_no (by omega) h50, h65⟩ q⟩
          · refine w_bipush (v := -5) d_q_add_68 (by decide +kernel) ?_
            refine w_iret (st := []) rfl d_q_add_70 ?_
            exact ⟨by unfold adR; rw [if_neg h7, if_neg (fun q => q (of_decide_eq_true h20)), if_neg (by rw [h35]; decide), if_neg (pl_no (by omega) h50), if_pos (by omega)], fun q => absurd q.2.2.2.2 (by omega), fun _ => rfl⟩
        · refine w_bipush (v := -4) d_q_add_53 (by decide +kernel) ?_
          refine w_iret (st := []) rfl d_q_add_55 ?_
          exact ⟨by unfold adR; rw [if_neg h7, if_neg (fun q => q (of_decide_eq_true h20)), if_neg (by rw [h35]; decide), if_pos (pl_yes h50).2], fun q => absurd (pl_yes h50).2 q.2.2.2.1, fun _ => rfl⟩
      · refine w_bipush (v := -3) d_q_add_38 (by decide +kernel) ?_
        refine w_iret (st := []) rfl d_q_add_40 ?_
        exact ⟨by unfold adR; rw [if_neg h7, if_neg (fun q => q (of_decide_eq_true h20)), if_pos h35], fun q => absurd (q.2.2.1.symm.trans h35) (by decide), fun _ => rfl⟩
    · refine w_bipush (v := -2) d_q_add_23 (by decide +kernel) ?_
      refine w_iret (st := []) rfl d_q_add_25 ?_
      exact ⟨by unfold adR; rw [if_neg h7, if_pos (of_decide_eq_false h20)], fun q => absurd q.2.1 (of_decide_eq_false h20), fun _ => rfl⟩
  · refine w_iconst (v := -1) d_q_add_10 (by decide +kernel) ?_
    refine w_iret (st := []) rfl d_q_add_11 ?_
    exact ⟨by unfold adR; rw [if_pos h7], fun q => absurd h7 q.1, fun _ => rfl⟩
def srR (S : St) (a b c d k : Int32) : Int32 := if S.1 4 3 = 0 then -1 else if badPt a b c d = true then -2 else -3
def srOK (S : St) (a b c d k : Int32) : Prop := ¬ S.1 4 3 = 0 ∧ badPt a b c d = false ∧ (nI 1 ≤ k ∧ k ≤ nI 8)
/-- the state with the sought point turned -/
def goalS (S : St) (a b c d : Int32) : St := setRow (setRow S 20 (pt a b c d) 4) 21 (tv S a b c d) 4
set_option maxRecDepth 100000 in
set_option maxHeartbeats 4000000 in
theorem c_q_search (S : St) (kind : Int32) (m pb rf : Nat) (a b c d k : Int32) (hE : ¬ S.1 4 3 = 0 → ∃ nl l cc, EH S kind nl m l cc) (hpb : S.1 6 5 = nI pb) (hpb4 : pb ≤ 4) (hrf : S.1 6 6 = nI rf) (hrf3 : rf ≤ 3) (ho : ∀ k, k < 4 → okStep (S.1 9 k)) : Ev M_q_search [.ref 0, .int a, .int b, .int c, .int d, .int k] S (fun v9 S' => (srOK S a b c d k → v9 = some (.int (S'.1 6 8)) ∧ ∃ kk, k = nI kk ∧ 1 ≤ kk ∧ kk ≤ 8 ∧ ∃ nl l cc, EH S kind nl m l cc ∧ FrF (goalS S a b c d) S' ∧ S'.1 6 7 = nI (cntB (prb (goalS S a b c d) nl pb l) m) ∧ S'.1 6 8 = nI (min kk (cntB (prb (goalS S a b c d) nl pb l) m)) ∧ ∃ R0 R : Nat → Nat, Enm R0 (cntB (prb (goalS S a b c d) nl pb l) m) (fun i => i < m ∧ (prb (goalS S a b c d) nl pb l) i = true) (dcd (goalS S a b c d) kind l cc) ∧ (rf = 0 → R = R0) ∧ (0 < rf → Enm R (min (kk * rf) (cntB (prb (goalS S a b c d) nl pb l) m)) (fun i => ∃ j, j < (min (kk * rf) (cntB (prb (goalS S a b c d) nl pb l) m)) ∧ R0 j = i) (exd (goalS S a b c d))) ∧ ∀ j, j < (min kk (cntB (prb (goalS S a b c d) nl pb l) m)) → S'.1 24 j = (goalS S a b c d).1 ((goalS S a b c d).2 (R j)) 3 ∧ S'.1 23 j = (if rf = 0 then (dcd (goalS S a b c d) kind l cc) (R j) else (exd (goalS S a b c d)) (R j))) ∧ (¬ srOK S a b c d k → v9 = some (.int (srR S a b c d k)) ∧ S' = S)) := by
  refine Ev.of MF_q_search (all_cat rfl) (Nat.le_of_ble_eq_true rfl) ?_
  show Wp M_q_search 0 [.ref 0, .int a, .int b, .int c, .int d, .int k] [] _ _
  refine w_aload_n d_q_search_0 rfl ?_
  refine w_getR d_q_search_1 FL_q_33 (by decide) (rfl) (rfl) ?_
  refine w_getI d_q_search_4 FL_q_62 (by decide) (rfl) (rfl) ?_
  refine w_if_ne 12 d_q_search_7 (by decide) (fun h7 => ?_) (fun h7 => ?_)
  · refine w_iload_n d_q_search_12 rfl ?_
    refine w_iload_n d_q_search_13 rfl ?_
    refine w_iload_n d_q_search_14 rfl ?_
    refine w_iload d_q_search_15 rfl ?_
    refine w_callS4 (N := M_q_isBad) d_q_search_17 LK_q_70 MF_q_isBad MS_q_isBad NP_q_isBad (by decide) rfl (Nat.le_of_ble_eq_true rfl) ?_
    refine Ev.det (c_q_isBad _ _ _ _ _) ?_
    refine w_if_eqB 26 d_q_search_20 (by decide) (fun h20 => ?_) (fun h20 => ?_)
    · refine w_iload d_q_search_26 rfl ?_
      refine w_iconst (v := nI 1) d_q_search_28 (by decide +kernel) ?_
      refine w_bipush (v := nI 8) d_q_search_29 (by decide +kernel) ?_
      refine w_callS3 (N := M_q_isWithin) d_q_search_31 LK_q_86 MF_q_isWithin MS_q_isWithin NP_q_isWithin (by decide) rfl (Nat.le_of_ble_eq_true rfl) ?_
      refine Ev.det (c_q_isWithin _ _ _ _) ?_
      refine w_if_neB 40 d_q_search_34 (by decide) (fun h34 => ?_) (fun h34 => ?_)
      · have h34 := of_decide_eq_true h34
        obtain ⟨kk, hkk1, hkk2, rfl⟩ := nI_in2 h34 (by decide) (by decide)
        refine w_aload_n d_q_search_40 rfl ?_
        refine w_getR d_q_search_41 FL_q_47 (by decide) (rfl) (rfl) ?_
        refine w_getR d_q_search_44 FL_q_164 (by decide) (rfl) (rfl) ?_
        refine w_iload_n d_q_search_47 rfl ?_
        refine w_iload_n d_q_search_48 rfl ?_
        refine w_iload_n d_q_search_49 rfl ?_
        refine w_iload d_q_search_50 rfl ?_
        refine w_callS5 (N := M_q_setPoint) d_q_search_52 LK_q_81 MF_q_setPoint MS_q_setPoint NP_q_setPoint (by decide) rfl (Nat.le_of_ble_eq_true rfl) ?_
        refine Ev.det (c_q_setPoint _ _ _ _ _ _ (by decide) (by decide) (by decide)) ?_
        refine w_aload_n d_q_search_55 rfl ?_
        refine w_getR d_q_search_56 FL_q_10 (by decide) (rfl) (rfl) ?_
        refine w_aload_n d_q_search_59 rfl ?_
        show Wp _ 60 _ _ _ _
        refine w_getR d_q_search_60 FL_q_47 (by decide) (rfl) (rfl) ?_
        refine w_getR d_q_search_63 FL_q_164 (by decide) (rfl) (rfl) ?_
        refine w_aload_n d_q_search_66 rfl ?_
        refine w_getR d_q_search_67 FL_q_47 (by decide) (rfl) (rfl) ?_
        refine w_getR d_q_search_70 FL_q_168 (by decide) (rfl) (rfl) ?_
        refine w_callV2 (N := M_t_apply) d_q_search_73 LK_q_171 MF_t_apply MV_t_apply NP_t_apply (by decide) (by decide) (rfl) rfl rfl (Nat.le_of_ble_eq_true rfl) ?_
        refine Ev.det (c_t_apply _ _ _ (by decide) (by decide) (by decide) (by decide) (by decide) (by decide) (by decide) (by decide) (fun k hk => by rw [setRow_ne (by decide)]; exact ho k hk)) ?_
        have eg : setRow (setRow S 20 (pt a b c d) 4) 21 (fun k => tval ((setRow S 20 (pt a b c d) 4).1 9 k) ((setRow S 20 (pt a b c d) 4).1 20)) 4 = goalS S a b c d := setRow_congr (fun k hk => by
          rw [setRow_ne (by decide)]
          exact tval_congr (ho k hk) (fun j hj => setRow_at hj))
        rw [eg]
        refine w_aload_n d_q_search_76 rfl ?_
        refine w_getR d_q_search_77 FL_q_47 (by decide) (rfl) (rfl) ?_
        refine w_aload_n d_q_search_80 rfl ?_
        refine w_getR d_q_search_81 FL_q_33 (by decide) (rfl) (rfl) ?_
        refine w_aload_n d_q_search_84 rfl ?_
        refine w_getR d_q_search_85 FL_q_40 (by decide) (rfl) (rfl) ?_
        show Wp _ 88 _ _ _ _
        refine w_iload d_q_search_88 rfl ?_
        refine w_callV3 (N := M_f_find) d_q_search_90 LK_q_175 MF_f_find MV_f_find NP_f_find (by decide) (by decide) (rfl) rfl rfl (Nat.le_of_ble_eq_true rfl) ?_
        have gs : ∀ x i, x ≠ 20 → x ≠ 21 → (goalS S a b c d).1 x i = S.1 x i := fun x i h1 h2 => by unfold goalS; rw [setRow_ne h2, setRow_ne h1]
        obtain ⟨nl, l, cc, hE⟩ := hE h7
        have hE2 : EH (goalS S a b c d) kind nl m l cc := by
          obtain ⟨e1, e2, e3, e4, e5, e6, e7, e8⟩ := hE
          refine ⟨by rw [gs _ _ (by decide) (by decide)]; exact e1, by rw [gs _ _ (by decide) (by decide)]; exact e2, e3, e4, by rw [gs _ _ (by decide) (by decide)]; exact e5, e6, e7, fun i hi => ?_⟩
          have := e7 i (by omega)
          show ((goalS S a b c d).1 (S.2 i) 4 = _ ∧ _) ∧ ∀ k, _ → (goalS S a b c d).1 (S.2 i + 60) k = _ ∧ _
          rw [gs _ _ (by omega) (by omega)]
          exact ⟨(e8 i hi).1, fun k hk => by rw [gs _ _ (by omega) (by omega)]; exact (e8 i hi).2 k hk⟩
        refine Ev.mono (c_f_find (goalS S a b c d) kind nl m l cc hE2 pb rf kk (by rw [gs _ _ (by decide) (by decide)]; exact hpb) hpb4 (by rw [gs _ _ (by decide) (by decide)]; exact hrf) hrf3 hkk2) (fun r9 S3 hq9 => ?_)
        obtain ⟨rfl, hfp⟩ := hq9
        show Wp _ _ _ [] _ _
        refine w_aload_n d_q_search_93 rfl ?_
        refine w_getR d_q_search_94 FL_q_47 (by decide) (rfl) (rfl) ?_
        refine w_getI d_q_search_97 FL_q_179 (by decide) (rfl) (rfl) ?_
        refine w_iret (st := []) rfl d_q_search_100 ?_
        exact ⟨fun _ => ⟨rfl, kk, rfl, hkk1, hkk2, nl, l, cc, hE, hfp⟩, fun q => absurd ⟨h7, h20, h34⟩ q⟩
      · refine w_bipush (v := -3) d_q_search_37 (by decide +kernel) ?_
        refine w_iret (st := []) rfl d_q_search_39 ?_
        exact ⟨fun q => absurd q.2.2 (of_decide_eq_false h34), fun _ => ⟨by unfold srR; rw [if_neg h7, if_neg (by rw [h20]; decide)], rfl⟩⟩
    · refine w_bipush (v := -2) d_q_search_23 (by decide +kernel) ?_
      refine w_iret (st := []) rfl d_q_search_25 ?_
      exact ⟨fun q => (by have := q.2.1; rw [h20] at this; cases this), fun _ => ⟨by unfold srR; rw [if_neg h7, if_pos h20], rfl⟩⟩
  · refine w_iconst (v := -1) d_q_search_10 (by decide +kernel) ?_
    refine w_iret (st := []) rfl d_q_search_11 ?_
    exact ⟨fun q => absurd h7 q.1, fun _ => ⟨by unfold srR; rw [if_pos h7], rfl⟩⟩
