/-! The table of entries: m of the twenty rows are in use, in the order S.2. -/
theorem w_ealdNV {M : Mt} {pc : Nat} {L st : List Value} {S : St} {Z : Option Value → St → Prop} {n b : Nat} (hd : decode M.2.1 pc = .ok (.aaload, 1)) (hn : n < 20) (he : S.2 n = b) (h : Wp M (pc + 1) L (.ref b :: st) S Z) : Wp M pc L (.int (nI n) :: .ref 19 :: st) S Z := w_ealdN hd hn (by rw [he]; exact h)
/-- the first place below n where f is v, or n -/
def ffind (f : Nat → Int32) (v : Int32) : Nat → Nat
  | 0 => 0
  | n + 1 => if ffind f v n < n then ffind f v n else if f n = v then n else n + 1
theorem ffind_le (f : Nat → Int32) (v : Int32) : ∀ n, ffind f v n ≤ n
  | 0 => Nat.le_refl 0
  | n + 1 => by
    have := ffind_le f v n
    show (if ffind f v n < n then ffind f v n else if f n = v then n else n + 1) ≤ n + 1
    split
    · omega
    · split <;> omega
theorem ffind_none {f : Nat → Int32} {v : Int32} : ∀ {n : Nat}, (∀ j, j < n → f j ≠ v) → ffind f v n = n
  | 0, _ => rfl
  | n + 1, h => by
    show (if ffind f v n < n then ffind f v n else if f n = v then n else n + 1) = n + 1
    rw [ffind_none (fun j hj => h j (by omega)), if_neg (by omega), if_neg (h n (by omega))]
theorem ffind_hit {f : Nat → Int32} {v : Int32} : ∀ {n i : Nat}, i < n → (∀ j, j < i → f j ≠ v) → f i = v → ffind f v n = i
  | 0, i, h, _, _ => absurd h (by omega)
  | n + 1, i, h, h1, h2 => by
    show (if ffind f v n < n then ffind f v n else if f n = v then n else n + 1) = i
    by_cases hi : i < n
    · rw [ffind_hit hi h1 h2, if_pos hi]
    · obtain rfl : i = n := by omega
      rw [ffind_none h1, if_neg (by omega), if_pos h2]
theorem ffind_spec {f : Nat → Int32} {v : Int32} : ∀ {n : Nat}, ffind f v n < n → f (ffind f v n) = v ∧ ∀ j, j < ffind f v n → f j ≠ v
  | 0, h => absurd h (by omega)
  | n + 1, h => by
    by_cases hl : ffind f v n < n
    · have e : ffind f v (n + 1) = ffind f v n := by show (if ffind f v n < n then _ else _) = _; rw [if_pos hl]
      rw [e]
      exact ffind_spec hl
    · have hn : ffind f v n = n := by have := ffind_le f v n; omega
      by_cases hv : f n = v
      · have e : ffind f v (n + 1) = n := by show (if ffind f v n < n then _ else if f n = v then n else n + 1) = _; rw [if_neg hl, if_pos hv]
        rw [e]
        refine ⟨hv, fun j hj q => ?_⟩
        by_cases ha : ∃ i, i < n ∧ f i = v ∧ ∀ k, k < i → f k ≠ v
        · obtain ⟨i, h1, h2, h3⟩ := ha
          have := ffind_hit h1 h3 h2
          omega
        · obtain ⟨i, hi1, hi2⟩ := pk_least (fun i => i < n ∧ f i = v) ⟨j, hj, q⟩
          exact ha ⟨i, hi1.1, hi1.2, fun k hk z => hi2 k hk ⟨by omega, z⟩⟩
      · have e : ffind f v (n + 1) = n + 1 := by show (if ffind f v n < n then _ else if f n = v then n else n + 1) = _; rw [if_neg hl, if_neg hv]
        omega
def cntI (f : Nat → Int32) (v : Int32) : Nat → Nat
  | 0 => 0
  | n + 1 => cntI f v n + if f n = v then 1 else 0
theorem cntI_le (f : Nat → Int32) (v : Int32) : ∀ n, cntI f v n ≤ n
  | 0 => Nat.le_refl 0
  | n + 1 => by
    have := cntI_le f v n
    show cntI f v n + (if _ then 1 else 0) ≤ n + 1
    split <;> omega
set_option maxRecDepth 100000 in
set_option maxHeartbeats 4000000 in
theorem c_b_placeOf (S : St) (v : Int32) (m : Nat) (hm : S.1 5 1 = nI m) (hm20 : m ≤ 20) (hT : ∀ i, i < 20 → 124 ≤ S.2 i ∧ S.2 i < 144) : Ev M_b_placeOf [.ref 5, .int v] S (fun v9 S' => v9 = some (.int (if ffind (fun i => S.1 (S.2 i) 3) v m < m then nI (ffind (fun i => S.1 (S.2 i) 3) v m) else -1)) ∧ S' = S) := by
  refine Ev.of MF_b_placeOf (all_cat rfl) (Nat.le_of_ble_eq_true rfl) ?_
  show Wp M_b_placeOf 0 [.ref 5, .int v, .null] [] _ _
  have hk0 : ∀ k, k ≤ m → (∀ j, j < k → (fun i => S.1 (S.2 i) 3) j ≠ v) → Wp M_b_placeOf 2 [.ref 5, .int v, .int (nI k)] [] S (fun v9 S' => v9 = some (.int (if ffind (fun i => S.1 (S.2 i) 3) v m < m then nI (ffind (fun i => S.1 (S.2 i) 3) v m) else -1)) ∧ S' = S) := by
    refine loopUp (m) (fun k hk9 hn => ?_)
    intro hno
    refine w_iload_n d_b_placeOf_2 rfl ?_
    refine w_aload_n d_b_placeOf_3 rfl ?_
    refine w_getIV (v := (nI m)) d_b_placeOf_4 FL_b_18 (by decide) (rfl) (rfl) (hm) ?_
    refine w_icmp_geN 31 d_b_placeOf_7 (by decide) (by omega) (by omega) (fun h7 => ?_) (fun h7 => ?_)
    · refine w_iconst (v := -1) d_b_placeOf_31 (by decide +kernel) ?_
      refine w_iret (st := []) rfl d_b_placeOf_32 ?_
      obtain rfl : k = m := by omega
      exact ⟨by rw [ffind_none hno, if_neg (Nat.lt_irrefl _)], rfl⟩
    · refine w_aload_n d_b_placeOf_10 rfl ?_
      refine w_getR d_b_placeOf_11 FL_b_11 (by decide) (rfl) (rfl) ?_
      refine w_iload_n d_b_placeOf_14 rfl ?_
      refine w_ealdN d_b_placeOf_15 (by omega) ?_
      refine w_getI d_b_placeOf_16 FL_b_22 (by have := hT k (by omega); omega) (kd_ent ((hT k (by omega)).1) ((hT k (by omega)).2)) (fref_entI ((hT k (by omega)).1) (by decide)) ?_
      refine w_iload_n d_b_placeOf_19 rfl ?_
      refine w_icmp_ne 25 d_b_placeOf_20 (by decide) (fun h20 => ?_) (fun h20 => ?_)
      · refine w_iincN d_b_placeOf_25 rfl ?_
        refine w_goto 2 d_b_placeOf_28 (by decide) ?_
        exact hn h7 (lt_s hno h20)
      · refine w_iload_n d_b_placeOf_23 rfl ?_
        refine w_iret (st := []) rfl d_b_placeOf_24 ?_
        exact ⟨by rw [ffind_hit (by omega) hno h20, if_pos (by omega)], rfl⟩
  refine w_iconst (v := nI 0) d_b_placeOf_0 (by decide +kernel) ?_
  refine w_istore_n d_b_placeOf_1 (Nat.le_of_ble_eq_true rfl) ?_
  exact hk0 0 (by omega) lt_0
set_option maxRecDepth 100000 in
set_option maxHeartbeats 4000000 in
theorem c_b_countInList (S : St) (v : Int32) (m : Nat) (hm : S.1 5 1 = nI m) (hm20 : m ≤ 20) (hT : ∀ i, i < 20 → 124 ≤ S.2 i ∧ S.2 i < 144) : Ev M_b_countInList [.ref 5, .int v] S (fun v9 S' => v9 = some (.int (nI (cntI (fun i => S.1 (S.2 i) 4) v m))) ∧ S' = S) := by
  refine Ev.of MF_b_countInList (all_cat rfl) (Nat.le_of_ble_eq_true rfl) ?_
  show Wp M_b_countInList 0 [.ref 5, .int v, .null, .null] [] _ _
  have hk0 : ∀ k, k ≤ m → ∀ (b : Nat), b = cntI (fun i => S.1 (S.2 i) 4) v k → Wp M_b_countInList 4 [.ref 5, .int v, .int (nI b), .int (nI k)] [] S (fun v9 S' => v9 = some (.int (nI (cntI (fun i => S.1 (S.2 i) 4) v m))) ∧ S' = S) := by
    refine loopUp (m) (fun k hk9 hn => ?_)
    intro b hb
    refine w_iload_n d_b_countInList_4 rfl ?_
    refine w_aload_n d_b_countInList_5 rfl ?_
    refine w_getIV (v := (nI m)) d_b_countInList_6 FL_b_18 (by decide) (rfl) (rfl) (hm) ?_
    refine w_icmp_geN 34 d_b_countInList_9 (by decide) (by omega) (by omega) (fun h9 => ?_) (fun h9 => ?_)
    · refine w_iload_n d_b_countInList_34 rfl ?_
      refine w_iret (st := []) rfl d_b_countInList_35 ?_
      obtain rfl : k = m := by omega
      exact ⟨by rw [hb], rfl⟩
    · refine w_aload_n d_b_countInList_12 rfl ?_
      refine w_getR d_b_countInList_13 FL_b_11 (by decide) (rfl) (rfl) ?_
      refine w_iload_n d_b_countInList_16 rfl ?_
      refine w_ealdN d_b_countInList_17 (by omega) ?_
      refine w_getI d_b_countInList_18 FL_b_25 (by have := hT k (by omega); omega) (kd_ent ((hT k (by omega)).1) ((hT k (by omega)).2)) (fref_entI ((hT k (by omega)).1) (by decide)) ?_
      refine w_iload_n d_b_countInList_21 rfl ?_
      refine w_icmp_ne 28 d_b_countInList_22 (by decide) (fun h22 => ?_) (fun h22 => ?_)
      · refine w_iincN d_b_countInList_28 rfl ?_
        refine w_goto 4 d_b_countInList_31 (by decide) ?_
        exact hn h9 _ (by show _ = cntI (fun i => S.1 (S.2 i) 4) v k + (if _ then 1 else 0); rw [← hb, if_neg h22, Nat.add_zero])
      · refine w_iincN d_b_countInList_25 rfl ?_
        refine w_iincN d_b_countInList_28 rfl ?_
        refine w_goto 4 d_b_countInList_31 (by decide) ?_
        exact hn h9 _ (by show _ = cntI (fun i => S.1 (S.2 i) 4) v k + (if _ then 1 else 0); rw [← hb, if_pos h22])
  refine w_iconst (v := nI 0) d_b_countInList_0 (by decide +kernel) ?_
  refine w_istore_n d_b_countInList_1 (Nat.le_of_ble_eq_true rfl) ?_
  refine w_iconst (v := nI 0) d_b_countInList_2 (by decide +kernel) ?_
  refine w_istore_n d_b_countInList_3 (Nat.le_of_ble_eq_true rfl) ?_
  exact hk0 0 (by omega) 0 rfl
set_option maxRecDepth 100000 in
set_option maxHeartbeats 4000000 in
theorem c_b_makeRoom (S : St) (v : Int32) (m : Nat) (hm : S.1 5 1 = nI m) (hm20 : m < 20) (hT : ∀ i, i < 20 → 124 ≤ S.2 i ∧ S.2 i < 144) (hne : ∀ i, i < m → S.2 i ≠ S.2 m) : Ev M_b_makeRoom [.ref 5, .int v] S (fun v9 S' => ∃ p, p ≤ m ∧ v9 = some (.int (nI p)) ∧ (∀ i, p ≤ i → i < m → ¬ S.1 (S.2 i) 3 ≤ v) ∧ (0 < p → S.1 (S.2 (p - 1)) 3 ≤ v) ∧ S'.1 = (put (put S (S.2 m) 3 v) 5 1 (nI (m + 1))).1 ∧ ∀ i, S'.2 i = if i = p then S.2 m else if p < i ∧ i ≤ m then S.2 (i - 1) else S.2 i) := by
  refine Ev.of MF_b_makeRoom (all_cat rfl) (Nat.le_of_ble_eq_true rfl) ?_
  show Wp M_b_makeRoom 0 [.ref 5, .int v, .null, .null] [] _ _
  have hk0 : ∀ k, ∀ (S1 : St), k ≤ m → S1.1 = (put S (S.2 m) 3 v).1 → (∀ i, S1.2 i = if k < i ∧ i ≤ m then S.2 (i - 1) else S.2 i) → (∀ i, k ≤ i → i < m → ¬ S.1 (S.2 i) 3 ≤ v) → Wp M_b_makeRoom 20 [.ref 5, .int v, .ref ((S.2 m)), .int (nI k)] [] S1 (fun v9 S' => ∃ p, p ≤ m ∧ v9 = some (.int (nI p)) ∧ (∀ i, p ≤ i → i < m → ¬ S.1 (S.2 i) 3 ≤ v) ∧ (0 < p → S.1 (S.2 (p - 1)) 3 ≤ v) ∧ S'.1 = (put (put S (S.2 m) 3 v) 5 1 (nI (m + 1))).1 ∧ ∀ i, S'.2 i = if i = p then S.2 m else if p < i ∧ i ≤ m then S.2 (i - 1) else S.2 i) := by
    refine loopDown (fun k  hn => ?_)
    intro S1 hkm h1 h2 hgt
    refine w_iload_n d_b_makeRoom_20 rfl ?_
    refine w_if_leN 59 d_b_makeRoom_21 (by decide) (by omega) (fun h21 => ?_) (fun h21 => ?_)
    · refine w_aload_n d_b_makeRoom_59 rfl ?_
      refine w_getR d_b_makeRoom_60 FL_b_11 (by decide) (rfl) (rfl) ?_
      refine w_iload_n d_b_makeRoom_63 rfl ?_
      refine w_aload_n d_b_makeRoom_64 rfl ?_
      refine w_eastNP d_b_makeRoom_65 (by omega) ((hT m (by omega)).1) ((hT m (by omega)).2) ?_
      refine w_aload_n d_b_makeRoom_66 rfl ?_
      refine w_dup d_b_makeRoom_67 rfl ?_
      refine w_getIV (v := (nI m)) d_b_makeRoom_68 FL_b_18 (by decide) (rfl) (rfl) (by show S1.1 5 1 = nI m; rw [h1, put_ne (by have := hT m (by omega); omega)]; exact hm) ?_
      refine w_iconst (v := nI 1) d_b_makeRoom_71 (by decide +kernel) ?_
      refine w_iaddN d_b_makeRoom_72 ?_
      refine w_putIP d_b_makeRoom_73 FL_b_18 FW_5_1 (by decide) (rfl) (rfl) ?_
      show Wp _ 76 _ _ _ _
      refine w_iload_n d_b_makeRoom_76 rfl ?_
      refine w_iret (st := []) rfl d_b_makeRoom_77 ?_
      refine ⟨k, hkm, rfl, hgt, fun q => absurd q (by omega), ?_, ?_⟩
      · show (put (putT S1 k (S.2 m)) 5 1 (nI (m + 1))).1 = _
        have e5 : (putT S1 k (S.2 m)).1 = (put S (S.2 m) 3 v).1 := h1
        show up2 (putT S1 k (S.2 m)).1 5 1 _ = up2 (put S (S.2 m) 3 v).1 5 1 _
        rw [e5]
      · intro i
        show upT S1.2 k (S.2 m) i = _
        unfold upT
        by_cases hi : i = k
        · rw [if_pos hi, if_pos hi]
        · rw [if_neg hi, if_neg hi, h2 i]
    · refine w_aload_n d_b_makeRoom_24 rfl ?_
      refine w_getR d_b_makeRoom_25 FL_b_11 (by decide) (rfl) (rfl) ?_
      refine w_iload_n d_b_makeRoom_28 rfl ?_
      refine w_iconst (v := nI 1) d_b_makeRoom_29 (by decide +kernel) ?_
      refine w_isubN d_b_makeRoom_30 (by omega) ?_
      refine w_ealdNV (b := ((S.2 (k - 1)))) d_b_makeRoom_31 (by omega) (by rw [h2, if_neg (by omega)]) ?_
      refine w_getIV (v := ((S.1 (S.2 (k - 1)) 3))) d_b_makeRoom_32 FL_b_22 (by have := hT (k - 1) (by omega); omega) (kd_ent ((hT (k - 1) (by omega)).1) ((hT (k - 1) (by omega)).2)) (fref_entI ((hT (k - 1) (by omega)).1) (by decide)) (by rw [h1]; exact put_ne (fun q => hne (k - 1) (by omega) q.1)) ?_
      refine w_iload_n d_b_makeRoom_35 rfl ?_
      refine w_icmp_le 59 d_b_makeRoom_36 (by decide) (fun h36 => ?_) (fun h36 => ?_)
      · refine w_aload_n d_b_makeRoom_59 rfl ?_
        refine w_getR d_b_makeRoom_60 FL_b_11 (by decide) (rfl) (rfl) ?_
        refine w_iload_n d_b_makeRoom_63 rfl ?_
        refine w_aload_n d_b_makeRoom_64 rfl ?_
        refine w_eastNP d_b_makeRoom_65 (by omega) ((hT m (by omega)).1) ((hT m (by omega)).2) ?_
        refine w_aload_n d_b_makeRoom_66 rfl ?_
        refine w_dup d_b_makeRoom_67 rfl ?_
        refine w_getIV (v := (nI m)) d_b_makeRoom_68 FL_b_18 (by decide) (rfl) (rfl) (by show S1.1 5 1 = nI m; rw [h1, put_ne (by have := hT m (by omega); omega)]; exact hm) ?_
        refine w_iconst (v := nI 1) d_b_makeRoom_71 (by decide +kernel) ?_
        refine w_iaddN d_b_makeRoom_72 ?_
        refine w_putIP d_b_makeRoom_73 FL_b_18 FW_5_1 (by decide) (rfl) (rfl) ?_
        show Wp _ 76 _ _ _ _
        refine w_iload_n d_b_makeRoom_76 rfl ?_
        refine w_iret (st := []) rfl d_b_makeRoom_77 ?_
        refine ⟨k, hkm, rfl, hgt, fun _ => h36, ?_, ?_⟩
        · show (put (putT S1 k (S.2 m)) 5 1 (nI (m + 1))).1 = _
          have e5 : (putT S1 k (S.2 m)).1 = (put S (S.2 m) 3 v).1 := h1
          show up2 (putT S1 k (S.2 m)).1 5 1 _ = up2 (put S (S.2 m) 3 v).1 5 1 _
          rw [e5]
        · intro i
          show upT S1.2 k (S.2 m) i = _
          unfold upT
          by_cases hi : i = k
          · rw [if_pos hi, if_pos hi]
          · rw [if_neg hi, if_neg hi, h2 i]
      · refine w_aload_n d_b_makeRoom_39 rfl ?_
        refine w_getR d_b_makeRoom_40 FL_b_11 (by decide) (rfl) (rfl) ?_
        refine w_iload_n d_b_makeRoom_43 rfl ?_
        refine w_aload_n d_b_makeRoom_44 rfl ?_
        refine w_getR d_b_makeRoom_45 FL_b_11 (by decide) (rfl) (rfl) ?_
        refine w_iload_n d_b_makeRoom_48 rfl ?_
        refine w_iconst (v := nI 1) d_b_makeRoom_49 (by decide +kernel) ?_
        refine w_isubN d_b_makeRoom_50 (by omega) ?_
        refine w_ealdNV (b := ((S.2 (k - 1)))) d_b_makeRoom_51 (by omega) (by rw [h2, if_neg (by omega)]) ?_
        refine w_eastNP d_b_makeRoom_52 (by omega) ((hT (k - 1) (by omega)).1) ((hT (k - 1) (by omega)).2) ?_
        refine w_idecN d_b_makeRoom_53 rfl (by omega) ?_
        show Wp _ 56 _ _ _ _
        refine w_goto 20 d_b_makeRoom_56 (by decide) ?_
        refine hn (by omega) _ (by omega) h1 ?_ ?_
        · intro i
          show upT S1.2 k _ i = _
          unfold upT
          by_cases hi : i = k
          · rw [if_pos hi, if_pos (by omega), hi]
          · rw [if_neg hi, h2 i]
            by_cases hi2 : k < i ∧ i ≤ m
            · rw [if_pos hi2, if_pos (by omega)]
            · rw [if_neg hi2, if_neg (by omega)]
        · intro i hi1 hi2
          by_cases hi : i = k - 1
          · rw [hi]; exact h36
          · exact hgt i (by omega) hi2
  refine w_aload_n d_b_makeRoom_0 rfl ?_
  refine w_getR d_b_makeRoom_1 FL_b_11 (by decide) (rfl) (rfl) ?_
  refine w_aload_n d_b_makeRoom_4 rfl ?_
  refine w_getIV (v := (nI m)) d_b_makeRoom_5 FL_b_18 (by decide) (rfl) (rfl) (hm) ?_
  refine w_ealdN d_b_makeRoom_8 (by omega) ?_
  refine w_astore_n d_b_makeRoom_9 (Nat.le_of_ble_eq_true rfl) ?_
  refine w_aload_n d_b_makeRoom_10 rfl ?_
  refine w_iload_n d_b_makeRoom_11 rfl ?_
  refine w_putIP d_b_makeRoom_12 FL_b_22 FW_9_3 (by have := hT m (by omega); omega) (kd_ent ((hT m (by omega)).1) ((hT m (by omega)).2)) (fref_entI ((hT m (by omega)).1) (by decide)) ?_
  refine w_aload_n d_b_makeRoom_15 rfl ?_
  refine w_getIV (v := (nI m)) d_b_makeRoom_16 FL_b_18 (by decide) (rfl) (rfl) (by rw [put_ne (by have := hT m (by omega); omega)]; exact hm) ?_
  show Wp _ 19 _ _ _ _
  refine w_istore_n d_b_makeRoom_19 (Nat.le_of_ble_eq_true rfl) ?_
  exact hk0 m _ (Nat.le_refl _) rfl (fun i => by rw [if_neg (by omega)]; rfl) (fun i h1 h2 => absurd h2 (by omega))
set_option maxRecDepth 100000 in
set_option maxHeartbeats 4000000 in
theorem c_b_drop (S : St) (p m : Nat) (hm : S.1 5 1 = nI m) (hm20 : m ≤ 20) (hpm : p < m) (hT : ∀ i, i < 20 → 124 ≤ S.2 i ∧ S.2 i < 144) : Ev M_b_drop [.ref 5, .int (nI p)] S (fun v9 S' => v9 = none ∧ S'.1 = (put S 5 1 (nI (m - 1))).1 ∧ ∀ i, S'.2 i = if p ≤ i ∧ i < m - 1 then S.2 (i + 1) else if i = m - 1 then S.2 p else S.2 i) := by
  refine Ev.of MF_b_drop (all_cat rfl) (Nat.le_of_ble_eq_true rfl) ?_
  show Wp M_b_drop 0 [.ref 5, .int (nI p), .null, .null] [] _ _
  have hk0 : ∀ k, k ≤ m - 1 → ∀ (S1 : St), p ≤ k → S1.1 = (put S 5 1 (nI (m - 1))).1 → (∀ i, S1.2 i = if p ≤ i ∧ i < k then S.2 (i + 1) else S.2 i) → Wp M_b_drop 19 [.ref 5, .int (nI p), .ref ((S.2 p)), .int (nI k)] [] S1 (fun v9 S' => v9 = none ∧ S'.1 = (put S 5 1 (nI (m - 1))).1 ∧ ∀ i, S'.2 i = if p ≤ i ∧ i < m - 1 then S.2 (i + 1) else if i = m - 1 then S.2 p else S.2 i) := by
    refine loopUp (m - 1) (fun k hk9 hn => ?_)
    intro S1 hpk h1 h2
    refine w_iload_n d_b_drop_19 rfl ?_
    refine w_aload_n d_b_drop_20 rfl ?_
    refine w_getIV (v := (nI (m - 1))) d_b_drop_21 FL_b_18 (by decide) (rfl) (rfl) (by rw [h1]; exact put_at) ?_
    refine w_icmp_geN 47 d_b_drop_24 (by decide) (by omega) (by omega) (fun h24 => ?_) (fun h24 => ?_)
    · refine w_aload_n d_b_drop_47 rfl ?_
      refine w_getR d_b_drop_48 FL_b_11 (by decide) (rfl) (rfl) ?_
      refine w_aload_n d_b_drop_51 rfl ?_
      refine w_getIV (v := (nI (m - 1))) d_b_drop_52 FL_b_18 (by decide) (rfl) (rfl) (by rw [h1]; exact put_at) ?_
      refine w_aload_n d_b_drop_55 rfl ?_
      refine w_eastNP d_b_drop_56 (by omega) ((hT p (by omega)).1) ((hT p (by omega)).2) ?_
      refine w_ret (st := []) rfl d_b_drop_57 ?_
      obtain rfl : k = m - 1 := by omega
      refine ⟨rfl, h1, ?_⟩
      intro i
      show upT S1.2 (m - 1) _ i = _
      unfold upT
      by_cases hi : i = m - 1
      · rw [if_pos hi, if_neg (by omega), if_pos hi]
      · rw [if_neg hi, if_neg hi, h2 i]
    · refine w_aload_n d_b_drop_27 rfl ?_
      refine w_getR d_b_drop_28 FL_b_11 (by decide) (rfl) (rfl) ?_
      refine w_iload_n d_b_drop_31 rfl ?_
      refine w_aload_n d_b_drop_32 rfl ?_
      refine w_getR d_b_drop_33 FL_b_11 (by decide) (rfl) (rfl) ?_
      refine w_iload_n d_b_drop_36 rfl ?_
      refine w_iconst (v := nI 1) d_b_drop_37 (by decide +kernel) ?_
      refine w_iaddN d_b_drop_38 ?_
      refine w_ealdNV (b := ((S.2 (k + 1)))) d_b_drop_39 (by omega) (by rw [h2, if_neg (by omega)]) ?_
      refine w_eastNP d_b_drop_40 (by omega) ((hT (k + 1) (by omega)).1) ((hT (k + 1) (by omega)).2) ?_
      refine w_iincN d_b_drop_41 rfl ?_
      show Wp _ 44 _ _ _ _
      refine w_goto 19 d_b_drop_44 (by decide) ?_
      refine hn h24 _ (by omega) h1 ?_
      intro i
      show upT S1.2 k _ i = _
      unfold upT
      by_cases hi : i = k
      · rw [if_pos hi, if_pos (by omega), hi]
      · rw [if_neg hi, h2 i]
        by_cases hi2 : p ≤ i ∧ i < k
        · rw [if_pos hi2, if_pos (by omega)]
        · rw [if_neg hi2, if_neg (by omega)]
  refine w_aload_n d_b_drop_0 rfl ?_
  refine w_getR d_b_drop_1 FL_b_11 (by decide) (rfl) (rfl) ?_
  refine w_iload_n d_b_drop_4 rfl ?_
  refine w_ealdN d_b_drop_5 (by omega) ?_
  refine w_astore_n d_b_drop_6 (Nat.le_of_ble_eq_true rfl) ?_
  refine w_aload_n d_b_drop_7 rfl ?_
  refine w_dup d_b_drop_8 rfl ?_
  refine w_getIV (v := (nI m)) d_b_drop_9 FL_b_18 (by decide) (rfl) (rfl) (hm) ?_
  refine w_iconst (v := nI 1) d_b_drop_12 (by decide +kernel) ?_
  refine w_isubN d_b_drop_13 (by omega) ?_
  refine w_putIP d_b_drop_14 FL_b_18 FW_5_1 (by decide) (rfl) (rfl) ?_
  show Wp _ 17 _ _ _ _
  refine w_iload_n d_b_drop_17 rfl ?_
  refine w_istore_n d_b_drop_18 (Nat.le_of_ble_eq_true rfl) ?_
  exact hk0 p (by omega) _ (Nat.le_refl _) rfl (fun i => by rw [if_neg (by omega)]; rfl)
