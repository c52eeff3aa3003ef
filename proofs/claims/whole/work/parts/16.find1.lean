/-! The finder: what is looked through, and the sorting by insertion. -/
def bef (d p e r : Int32) : Bool := decide (d < e ∨ d = e ∧ p < r)
theorem bef_trans {d p e r g s : Int32} (h1 : bef d p e r = true) (h2 : bef e r g s = true) : bef d p g s = true := by
  have k1 := of_decide_eq_true h1
  have k2 := of_decide_eq_true h2
  clear h1 h2
  refine decide_eq_true ?_
  rcases k1 with z1 | ⟨e1, z1⟩ <;> rcases k2 with z2 | ⟨e2, z2⟩
  · exact Or.inl (Int32.lt_trans z1 z2)
  · exact Or.inl (e2 ▸ z1)
  · exact Or.inl (e1 ▸ z2)
  · exact Or.inr ⟨e1.trans e2, Int32.lt_trans z1 z2⟩
theorem bef_total {d p e r : Int32} (hne : p ≠ r) (h : bef d p e r = false) : bef e r d p = true := by
  have h := of_decide_eq_false h
  refine decide_eq_true ?_
  by_cases hde : d = e
  · subst hde
    refine Or.inr ⟨rfl, ?_⟩
    by_cases q : r < p
    · exact q
    · exact absurd (Or.inr ⟨rfl, by
        rcases Int32.le_iff_lt_or_eq.mp (Int32.not_lt.mp q) with z | z
        · exact z
        · exact absurd z hne⟩) h
  · refine Or.inl ?_
    by_cases q : e < d
    · exact q
    · rcases Int32.le_iff_lt_or_eq.mp (Int32.not_lt.mp q) with z | z
      · exact absurd (Or.inl z) h
      · exact absurd z hde
theorem bef_irr {d p : Int32} : bef d p d p = false := decide_eq_false (fun q => q.elim (fun z => Int32.lt_irrefl z) (fun z => Int32.lt_irrefl z.2))
/-- the place i goes to t, the places from t on move up -/
def insF {α : Type} (a : Nat → α) (i t : Nat) : Nat → α := fun j => if j = t then a i else if t < j ∧ j ≤ i then a (j - 1) else a j
theorem insF_t {α : Type} {a : Nat → α} {i t j : Nat} (h : j = t) : insF a i t j = a i := if_pos h
theorem insF_m {α : Type} {a : Nat → α} {i t j : Nat} (h : t < j ∧ j ≤ i) : insF a i t j = a (j - 1) := by unfold insF; rw [if_neg (by omega), if_pos h]
theorem insF_o {α : Type} {a : Nat → α} {i t j : Nat} (h : j ≠ t) (h2 : ¬ (t < j ∧ j ≤ i)) : insF a i t j = a j := by unfold insF; rw [if_neg h, if_neg h2]
/-- s is a way to put the numbers below n in order -/
def Prm (s : Nat → Nat) (n : Nat) : Prop := (∀ j, j < n → s j < n) ∧ ∀ i j, i < n → j < n → s i = s j → i = j
theorem Prm.id (n : Nat) : Prm (fun j => j) n := ⟨fun _ h => h, fun _ _ _ _ h => h⟩
theorem Prm.ins {s : Nat → Nat} {n i t : Nat} (h : Prm s n) (hi : i < n) (ht : t ≤ i) : Prm (insF s i t) n := by
  have key : ∀ j, j < n → ∃ q, q < n ∧ insF s i t j = s q ∧ (j = t ∧ q = i ∨ t < j ∧ j ≤ i ∧ q = j - 1 ∨ j ≠ t ∧ ¬ (t < j ∧ j ≤ i) ∧ q = j) := by
    intro j hj
    unfold insF
    by_cases h1 : j = t
    · exact ⟨i, hi, if_pos h1, Or.inl ⟨h1, rfl⟩⟩
    · by_cases h2 : t < j ∧ j ≤ i
      · exact ⟨j - 1, by omega, by rw [if_neg h1, if_pos h2], Or.inr (Or.inl ⟨h2.1, h2.2, rfl⟩)⟩
      · exact ⟨j, hj, by rw [if_neg h1, if_neg h2], Or.inr (Or.inr ⟨h1, h2, rfl⟩)⟩
  refine ⟨fun j hj => ?_, fun a b ha hb hab => ?_⟩
  · obtain ⟨q, hq, e, -⟩ := key j hj
    rw [e]
    exact h.1 q hq
  · obtain ⟨q, hq, e, c1⟩ := key a ha
    obtain ⟨r, hr, e2, c2⟩ := key b hb
    rw [e, e2] at hab
    have := h.2 q r hq hr hab
    omega
theorem insF_comp {α : Type} (a : Nat → α) (s : Nat → Nat) (i t j : Nat) : insF (fun j => a (s j)) i t j = a (insF s i t j) := by
  unfold insF
  by_cases h1 : j = t
  · rw [if_pos h1, if_pos h1]
  · rw [if_neg h1, if_neg h1]
    by_cases h2 : t < j ∧ j ≤ i
    · rw [if_pos h2, if_pos h2]
    · rw [if_neg h2, if_neg h2]
/-- what is sorted stays sorted with one more -/
theorem srt_ins {d p : Nat → Int32} {i t : Nat} (ht : t ≤ i) (hs : ∀ a b, a < b → b < i → bef (d a) (p a) (d b) (p b) = true) (hne : ∀ a, a < i → p i ≠ p a) (hgt : ∀ a, t ≤ a → a < i → bef (d i) (p i) (d a) (p a) = true) (hle : 0 < t → bef (d i) (p i) (d (t - 1)) (p (t - 1)) = false) :
    ∀ a b, a < b → b < i + 1 → bef (insF d i t a) (insF p i t a) (insF d i t b) (insF p i t b) = true := by
  have hlo : ∀ a, a < t → bef (d a) (p a) (d i) (p i) = true := by
    intro a ha
    have h1 := bef_total (hne (t - 1) (by omega)) (hle (by omega))
    by_cases hat : a = t - 1
    · rw [hat]; exact h1
    · exact bef_trans (hs a (t - 1) (by omega) (by omega)) h1
  intro a b hab hb
  by_cases a1 : a = t
  · rw [insF_t a1, insF_t a1, insF_m (by omega), insF_m (by omega)]
    exact hgt _ (by omega) (by omega)
  · by_cases a2 : t < a ∧ a ≤ i
    · rw [insF_m a2, insF_m a2, insF_m (by omega), insF_m (by omega)]
      exact hs _ _ (by omega) (by omega)
    · rw [insF_o a1 a2, insF_o a1 a2]
      by_cases b1 : b = t
      · rw [insF_t b1, insF_t b1]
        exact hlo a (by omega)
      · by_cases b2 : t < b ∧ b ≤ i
        · rw [insF_m b2, insF_m b2]
          exact hs _ _ (by omega) (by omega)
        · rw [insF_o b1 b2, insF_o b1 b2]
          exact hs _ _ (by omega) (by omega)
set_option maxRecDepth 100000 in
set_option maxHeartbeats 4000000 in
theorem c_f_hasResult (S : St) (v : Int32) : Ev M_f_hasResult [.ref 6, .int v] S (fun v9 S' => v9 = some (.int (bI (decide (nI 0 ≤ v ∧ v ≤ S.1 6 8 - nI 1)))) ∧ S' = S) := by
  refine Ev.of MF_f_hasResult (all_cat rfl) (Nat.le_of_ble_eq_true rfl) ?_
  show Wp M_f_hasResult 0 [.ref 6, .int v] [] _ _
  refine w_iload_n d_f_hasResult_0 rfl ?_
  refine w_iconst (v := nI 0) d_f_hasResult_1 (by decide +kernel) ?_
  refine w_aload_n d_f_hasResult_2 rfl ?_
  refine w_getI d_f_hasResult_3 FL_f_34 (by decide) (rfl) (rfl) ?_
  refine w_iconst (v := nI 1) d_f_hasResult_6 (by decide +kernel) ?_
  refine w_isub d_f_hasResult_7 ?_
  refine w_callS3 (N := M_q_isWithin) d_f_hasResult_8 LK_f_37 MF_q_isWithin MS_q_isWithin NP_q_isWithin (by decide) rfl (Nat.le_of_ble_eq_true rfl) ?_
  refine Ev.det (c_q_isWithin _ _ _ _) ?_
  refine w_zret (st := []) rfl d_f_hasResult_11 (bI_01 _) ?_
  exact ⟨rfl, rfl⟩
set_option maxRecDepth 100000 in
set_option maxHeartbeats 4000000 in
theorem c_f_isBefore (S : St) (d p : Int32) (o : Nat) (ho : o < 20) : Ev M_f_isBefore [.ref 6, .int d, .int p, .int (nI o)] S (fun v9 S' => v9 = some (.int (bI (bef d p (S.1 23 o) (S.1 22 o)))) ∧ S' = S) := by
  refine Ev.of MF_f_isBefore (all_cat rfl) (Nat.le_of_ble_eq_true rfl) ?_
  show Wp M_f_isBefore 0 [.ref 6, .int d, .int p, .int (nI o)] [] _ _
  refine w_iload_n d_f_isBefore_0 rfl ?_
  refine w_aload_n d_f_isBefore_1 rfl ?_
  refine w_getR d_f_isBefore_2 FL_f_21 (by decide) (rfl) (rfl) ?_
  refine w_iload_n d_f_isBefore_5 rfl ?_
  refine w_ialdN d_f_isBefore_6 (by decide) (rfl) (show o < 20 from (by omega)) ?_
  refine w_icmp_lt 30 d_f_isBefore_7 (by decide) (fun h7 => ?_) (fun h7 => ?_)
  · refine w_iconst (v := nI 1) d_f_isBefore_30 (by decide +kernel) ?_
    refine w_goto 35 d_f_isBefore_31 (by decide) ?_
    refine w_zret (st := []) rfl d_f_isBefore_35 (by decide) ?_
    exact ⟨rb1 (decide_eq_true (Or.inl h7)), rfl⟩
  · refine w_iload_n d_f_isBefore_10 rfl ?_
    refine w_aload_n d_f_isBefore_11 rfl ?_
    refine w_getR d_f_isBefore_12 FL_f_21 (by decide) (rfl) (rfl) ?_
    refine w_iload_n d_f_isBefore_15 rfl ?_
    refine w_ialdN d_f_isBefore_16 (by decide) (rfl) (show o < 20 from (by omega)) ?_
    refine w_icmp_ne 34 d_f_isBefore_17 (by decide) (fun h17 => ?_) (fun h17 => ?_)
    · refine w_iconst (v := nI 0) d_f_isBefore_34 (by decide +kernel) ?_
      refine w_zret (st := []) rfl d_f_isBefore_35 (by decide) ?_
      exact ⟨rb0 (decide_eq_false (fun q => q.elim h7 (fun q => h17 q.1))), rfl⟩
    · refine w_iload_n d_f_isBefore_20 rfl ?_
      refine w_aload_n d_f_isBefore_21 rfl ?_
      refine w_getR d_f_isBefore_22 FL_f_18 (by decide) (rfl) (rfl) ?_
      refine w_iload_n d_f_isBefore_25 rfl ?_
      refine w_ialdN d_f_isBefore_26 (by decide) (rfl) (show o < 20 from (by omega)) ?_
      refine w_icmp_ge 34 d_f_isBefore_27 (by decide) (fun h27 => ?_) (fun h27 => ?_)
      · refine w_iconst (v := nI 0) d_f_isBefore_34 (by decide +kernel) ?_
        refine w_zret (st := []) rfl d_f_isBefore_35 (by decide) ?_
        exact ⟨rb0 (decide_eq_false (fun q => q.elim h7 (fun q => absurd q.2 (Int32.not_lt.mpr h27)))), rfl⟩
      · refine w_iconst (v := nI 1) d_f_isBefore_30 (by decide +kernel) ?_
        refine w_goto 35 d_f_isBefore_31 (by decide) ?_
        refine w_zret (st := []) rfl d_f_isBefore_35 (by decide) ?_
        exact ⟨rb1 (decide_eq_true (Or.inr ⟨h17, Int32.not_le.mp h27⟩)), rfl⟩
set_option maxRecDepth 100000 in
set_option maxHeartbeats 4000000 in
theorem c_f_sort (S : St) (n : Nat) (hn20 : n ≤ 20) (hne : ∀ a b, a < n → b < n → a ≠ b → S.1 22 a ≠ S.1 22 b) : Ev M_f_sort [.ref 6, .int (nI n)] S (fun v9 S' => v9 = none ∧ S'.2 = S.2 ∧ (∀ a i, ¬ ((a = 22 ∨ a = 23) ∧ i < n) → S'.1 a i = S.1 a i) ∧ ∃ s, Prm s n ∧ (∀ j, j < n → S'.1 22 j = S.1 22 (s j) ∧ S'.1 23 j = S.1 23 (s j)) ∧ ∀ a b, a < b → b < n → bef (S'.1 23 a) (S'.1 22 a) (S'.1 23 b) (S'.1 22 b) = true) := by
  refine Ev.of MF_f_sort (all_cat rfl) (Nat.le_of_ble_eq_true rfl) ?_
  show Wp M_f_sort 0 [.ref 6, .int (nI n), .null, .null, .null, .null] [] _ _
  have hk0 : ∀ i, i ≤ n → ∀ (S1 : St) (x3 : Value) (x4 : Value) (x5 : Value), 1 ≤ i → S1.2 = S.2 → (∀ a i, ¬ ((a = 22 ∨ a = 23) ∧ i < n) → S1.1 a i = S.1 a i) → ∀ s : Nat → Nat, Prm s n → (∀ j, j < n → S1.1 22 j = S.1 22 (s j) ∧ S1.1 23 j = S.1 23 (s j)) → (∀ a b, a < b → b < i → bef (S1.1 23 a) (S1.1 22 a) (S1.1 23 b) (S1.1 22 b) = true) → Wp M_f_sort 2 [.ref 6, .int (nI n), .int (nI i), x3, x4, x5] [] S1 (fun v9 S' => v9 = none ∧ S'.2 = S.2 ∧ (∀ a i, ¬ ((a = 22 ∨ a = 23) ∧ i < n) → S'.1 a i = S.1 a i) ∧ ∃ s, Prm s n ∧ (∀ j, j < n → S'.1 22 j = S.1 22 (s j) ∧ S'.1 23 j = S.1 23 (s j)) ∧ ∀ a b, a < b → b < n → bef (S'.1 23 a) (S'.1 22 a) (S'.1 23 b) (S'.1 22 b) = true) := by
    refine loopUp (n) (fun i hk9 hn9 => ?_)
    intro S1 x3 x4 x5 hi1 h1 h2 s hs1 hs2 hs3
    refine w_iload_n d_f_sort_2 rfl ?_
    refine w_iload_n d_f_sort_3 rfl ?_
    refine w_icmp_geN 105 d_f_sort_4 (by decide) (by omega) (by omega) (fun h4 => ?_) (fun h4 => ?_)
    · refine w_ret (st := []) rfl d_f_sort_105 ?_
      have hin9 : i = n := by omega
      exact ⟨rfl, h1, h2, s, hs1, hs2, fun a b hab hb => hs3 a b hab (by omega)⟩
    · refine w_aload_n d_f_sort_7 rfl ?_
      refine w_getR d_f_sort_8 FL_f_18 (by decide) (rfl) (rfl) ?_
      refine w_iload_n d_f_sort_11 rfl ?_
      refine w_ialdN d_f_sort_12 (by decide) (rfl) (show i < 20 from (by omega)) ?_
      refine w_istore_n d_f_sort_13 (Nat.le_of_ble_eq_true rfl) ?_
      refine w_aload_n d_f_sort_14 rfl ?_
      refine w_getR d_f_sort_15 FL_f_21 (by decide) (rfl) (rfl) ?_
      refine w_iload_n d_f_sort_18 rfl ?_
      refine w_ialdN d_f_sort_19 (by decide) (rfl) (show i < 20 from (by omega)) ?_
      refine w_istore d_f_sort_20 (Nat.le_of_ble_eq_true rfl) ?_
      refine w_iload_n d_f_sort_22 rfl ?_
      show Wp _ 23 _ _ _ _
      refine w_istore d_f_sort_23 (Nat.le_of_ble_eq_true rfl) ?_
      have hin : ∀ t, ∀ (S2 : St), t ≤ i → S2.2 = S.2 → (∀ a i, ¬ ((a = 22 ∨ a = 23) ∧ i < n) → S2.1 a i = S.1 a i) → (∀ a, a = 22 ∨ a = 23 → ∀ j, j < n → S2.1 a j = if t < j ∧ j ≤ i then S1.1 a (j - 1) else S1.1 a j) → (∀ a, t ≤ a → a < i → bef (S1.1 23 i) (S1.1 22 i) (S1.1 23 a) (S1.1 22 a) = true) → Wp M_f_sort 25 [.ref 6, .int (nI n), .int (nI i), .int ((S1.1 22 i)), .int ((S1.1 23 i)), .int (nI t)] [] S2 (fun v9 S' => v9 = none ∧ S'.2 = S.2 ∧ (∀ a i, ¬ ((a = 22 ∨ a = 23) ∧ i < n) → S'.1 a i = S.1 a i) ∧ ∃ s, Prm s n ∧ (∀ j, j < n → S'.1 22 j = S.1 22 (s j) ∧ S'.1 23 j = S.1 23 (s j)) ∧ ∀ a b, a < b → b < n → bef (S'.1 23 a) (S'.1 22 a) (S'.1 23 b) (S'.1 22 b) = true) := by
        refine loopDown (fun t hn8 => ?_)
        intro S2 gti g1 g2 g3 g4
        refine w_iload d_f_sort_25 rfl ?_
        refine w_if_leN 82 d_f_sort_27 (by decide) (by omega) (fun h27 => ?_) (fun h27 => ?_)
        · refine w_aload_n d_f_sort_82 rfl ?_
          refine w_getR d_f_sort_83 FL_f_18 (by decide) (rfl) (rfl) ?_
          refine w_iload d_f_sort_86 rfl ?_
          refine w_iload_n d_f_sort_88 rfl ?_
          refine w_iastNP d_f_sort_89 (by decide) (rfl) (show t < 20 from (by omega)) ?_
          refine w_aload_n d_f_sort_90 rfl ?_
          refine w_getR d_f_sort_91 FL_f_21 (by decide) (rfl) (rfl) ?_
          refine w_iload d_f_sort_94 rfl ?_
          refine w_iload d_f_sort_96 rfl ?_
          refine w_iastNP d_f_sort_98 (by decide) (rfl) (show t < 20 from (by omega)) ?_
          refine w_iincN d_f_sort_99 rfl ?_
          show Wp _ 102 _ _ _ _
          refine w_goto 2 d_f_sort_102 (by decide) ?_
          refine hn9 h4 _ _ _ _ (by omega) (by exact g1) ?_ (insF s i t) (hs1.ins h4 gti) ?_ ?_
          · intro a j ha
            rw [put_ne (by omega), put_ne (by omega)]
            exact g2 a j ha
          · have k22 : ∀ j, j < n → (put (put S2 22 t (S1.1 22 i)) 23 t (S1.1 23 i)).1 22 j = insF (S1.1 22) i t j := by
              intro j hj
              rw [put_ne (by omega)]
              unfold insF
              by_cases hjt : j = t
              · rw [if_pos hjt, hjt, put_at]
              · rw [if_neg hjt, put_ne (by omega), g3 22 (by omega) j hj]
            have k23 : ∀ j, j < n → (put (put S2 22 t (S1.1 22 i)) 23 t (S1.1 23 i)).1 23 j = insF (S1.1 23) i t j := by
              intro j hj
              unfold insF
              by_cases hjt : j = t
              · rw [if_pos hjt, hjt, put_at]
              · rw [if_neg hjt, put_ne (by omega), put_ne (by omega), g3 23 (by omega) j hj]
            intro j hj
            have q22 : insF (S1.1 22) i t j = S.1 22 (insF s i t j) := by
              rw [← insF_comp (S.1 22) s i t j]
              unfold insF
              rw [(hs2 i h4).1, (hs2 j hj).1]
              by_cases hj0 : j = 0
              · rw [show j - 1 = j by omega, (hs2 j hj).1]
              · rw [(hs2 (j - 1) (by omega)).1]
            have q23 : insF (S1.1 23) i t j = S.1 23 (insF s i t j) := by
              rw [← insF_comp (S.1 23) s i t j]
              unfold insF
              rw [(hs2 i h4).2, (hs2 j hj).2]
              by_cases hj0 : j = 0
              · rw [show j - 1 = j by omega, (hs2 j hj).2]
              · rw [(hs2 (j - 1) (by omega)).2]
            exact ⟨(k22 j hj).trans q22, (k23 j hj).trans q23⟩
          · have k22 : ∀ j, j < n → (put (put S2 22 t (S1.1 22 i)) 23 t (S1.1 23 i)).1 22 j = insF (S1.1 22) i t j := by
              intro j hj
              rw [put_ne (by omega)]
              unfold insF
              by_cases hjt : j = t
              · rw [if_pos hjt, hjt, put_at]
              · rw [if_neg hjt, put_ne (by omega), g3 22 (by omega) j hj]
            have k23 : ∀ j, j < n → (put (put S2 22 t (S1.1 22 i)) 23 t (S1.1 23 i)).1 23 j = insF (S1.1 23) i t j := by
              intro j hj
              unfold insF
              by_cases hjt : j = t
              · rw [if_pos hjt, hjt, put_at]
              · rw [if_neg hjt, put_ne (by omega), put_ne (by omega), g3 23 (by omega) j hj]
            intro a b hab hb
            rw [k22 a (by omega), k22 b (by omega), k23 a (by omega), k23 b (by omega)]
            exact srt_ins gti hs3 (fun a ha => by rw [(hs2 i h4).1, (hs2 a (by omega)).1]; exact hne _ _ (hs1.1 i h4) (hs1.1 a (by omega)) (fun q => by have := hs1.2 i a h4 (by omega) q; omega)) g4 (fun q => absurd q (by omega)) a b hab hb
        · refine w_aload_n d_f_sort_30 rfl ?_
          refine w_iload d_f_sort_31 rfl ?_
          refine w_iload_n d_f_sort_33 rfl ?_
          refine w_iload d_f_sort_34 rfl ?_
          refine w_iconst (v := nI 1) d_f_sort_36 (by decide +kernel) ?_
          refine w_isubN d_f_sort_37 (by omega) ?_
          refine w_callV3 (N := M_f_isBefore) d_f_sort_38 LK_f_97 MF_f_isBefore MV_f_isBefore NP_f_isBefore (by decide) (by decide) (rfl) rfl rfl (Nat.le_of_ble_eq_true rfl) ?_
          refine Ev.det (c_f_isBefore S2 _ _ _ (by omega)) ?_
          rw [g3 22 (by omega) (t - 1) (by omega), g3 23 (by omega) (t - 1) (by omega), if_neg (by omega), if_neg (by omega)]
          refine w_if_eqB 82 d_f_sort_41 (by decide) (fun h41 => ?_) (fun h41 => ?_)
          · refine w_aload_n d_f_sort_82 rfl ?_
            refine w_getR d_f_sort_83 FL_f_18 (by decide) (rfl) (rfl) ?_
            refine w_iload d_f_sort_86 rfl ?_
            refine w_iload_n d_f_sort_88 rfl ?_
            refine w_iastNP d_f_sort_89 (by decide) (rfl) (show t < 20 from (by omega)) ?_
            refine w_aload_n d_f_sort_90 rfl ?_
            refine w_getR d_f_sort_91 FL_f_21 (by decide) (rfl) (rfl) ?_
            refine w_iload d_f_sort_94 rfl ?_
            refine w_iload d_f_sort_96 rfl ?_
            refine w_iastNP d_f_sort_98 (by decide) (rfl) (show t < 20 from (by omega)) ?_
            refine w_iincN d_f_sort_99 rfl ?_
            show Wp _ 102 _ _ _ _
            refine w_goto 2 d_f_sort_102 (by decide) ?_
            refine hn9 h4 _ _ _ _ (by omega) (by exact g1) ?_ (insF s i t) (hs1.ins h4 gti) ?_ ?_
            · intro a j ha
              rw [put_ne (by omega), put_ne (by omega)]
              exact g2 a j ha
            · have k22 : ∀ j, j < n → (put (put S2 22 t (S1.1 22 i)) 23 t (S1.1 23 i)).1 22 j = insF (S1.1 22) i t j := by
                intro j hj
                rw [put_ne (by omega)]
                unfold insF
                by_cases hjt : j = t
                · rw [if_pos hjt, hjt, put_at]
                · rw [if_neg hjt, put_ne (by omega), g3 22 (by omega) j hj]
              have k23 : ∀ j, j < n → (put (put S2 22 t (S1.1 22 i)) 23 t (S1.1 23 i)).1 23 j = insF (S1.1 23) i t j := by
                intro j hj
                unfold insF
                by_cases hjt : j = t
                · rw [if_pos hjt, hjt, put_at]
                · rw [if_neg hjt, put_ne (by omega), put_ne (by omega), g3 23 (by omega) j hj]
              intro j hj
              have q22 : insF (S1.1 22) i t j = S.1 22 (insF s i t j) := by
                rw [← insF_comp (S.1 22) s i t j]
                unfold insF
                rw [(hs2 i h4).1, (hs2 j hj).1]
                by_cases hj0 : j = 0
                · rw [show j - 1 = j by omega, (hs2 j hj).1]
                · rw [(hs2 (j - 1) (by omega)).1]
              have q23 : insF (S1.1 23) i t j = S.1 23 (insF s i t j) := by
                rw [← insF_comp (S.1 23) s i t j]
                unfold insF
                rw [(hs2 i h4).2, (hs2 j hj).2]
                by_cases hj0 : j = 0
                · rw [show j - 1 = j by omega, (hs2 j hj).2]
                · rw [(hs2 (j - 1) (by omega)).2]
              exact ⟨(k22 j hj).trans q22, (k23 j hj).trans q23⟩
            · have k22 : ∀ j, j < n → (put (put S2 22 t (S1.1 22 i)) 23 t (S1.1 23 i)).1 22 j = insF (S1.1 22) i t j := by
                intro j hj
                rw [put_ne (by omega)]
                unfold insF
                by_cases hjt : j = t
                · rw [if_pos hjt, hjt, put_at]
                · rw [if_neg hjt, put_ne (by omega), g3 22 (by omega) j hj]
              have k23 : ∀ j, j < n → (put (put S2 22 t (S1.1 22 i)) 23 t (S1.1 23 i)).1 23 j = insF (S1.1 23) i t j := by
                intro j hj
                unfold insF
                by_cases hjt : j = t
                · rw [if_pos hjt, hjt, put_at]
                · rw [if_neg hjt, put_ne (by omega), put_ne (by omega), g3 23 (by omega) j hj]
              intro a b hab hb
              rw [k22 a (by omega), k22 b (by omega), k23 a (by omega), k23 b (by omega)]
              exact srt_ins gti hs3 (fun a ha => by rw [(hs2 i h4).1, (hs2 a (by omega)).1]; exact hne _ _ (hs1.1 i h4) (hs1.1 a (by omega)) (fun q => by have := hs1.2 i a h4 (by omega) q; omega)) g4 (fun _ => h41) a b hab hb
          · refine w_aload_n d_f_sort_44 rfl ?_
            refine w_getR d_f_sort_45 FL_f_18 (by decide) (rfl) (rfl) ?_
            refine w_iload d_f_sort_48 rfl ?_
            refine w_aload_n d_f_sort_50 rfl ?_
            refine w_getR d_f_sort_51 FL_f_18 (by decide) (rfl) (rfl) ?_
            refine w_iload d_f_sort_54 rfl ?_
            refine w_iconst (v := nI 1) d_f_sort_56 (by decide +kernel) ?_
            refine w_isubN d_f_sort_57 (by omega) ?_
            refine w_ialdNV (v := ((S1.1 22 (t - 1)))) d_f_sort_58 (by decide) (rfl) (show t - 1 < 20 from (by omega)) (by rw [g3 22 (by omega) _ (by omega), if_neg (by omega)]) ?_
            refine w_iastNP d_f_sort_59 (by decide) (rfl) (show t < 20 from (by omega)) ?_
            refine w_aload_n d_f_sort_60 rfl ?_
            show Wp _ 61 _ _ _ _
            refine w_getR d_f_sort_61 FL_f_21 (by decide) (rfl) (rfl) ?_
            refine w_iload d_f_sort_64 rfl ?_
            refine w_aload_n d_f_sort_66 rfl ?_
            refine w_getR d_f_sort_67 FL_f_21 (by decide) (rfl) (rfl) ?_
            refine w_iload d_f_sort_70 rfl ?_
            refine w_iconst (v := nI 1) d_f_sort_72 (by decide +kernel) ?_
            refine w_isubN d_f_sort_73 (by omega) ?_
            refine w_ialdNV (v := ((S1.1 23 (t - 1)))) d_f_sort_74 (by decide) (rfl) (show t - 1 < 20 from (by omega)) (by rw [put_ne (by omega), g3 23 (by omega) _ (by omega), if_neg (by omega)]) ?_
            refine w_iastNP d_f_sort_75 (by decide) (rfl) (show t < 20 from (by omega)) ?_
            refine w_idecN d_f_sort_76 rfl (by omega) ?_
            refine w_goto 25 d_f_sort_79 (by decide) ?_
            refine hn8 (by omega) _ (by omega) (by exact g1) ?_ ?_ ?_
            · intro a j ha
              rw [put_ne (by omega), put_ne (by omega)]
              exact g2 a j ha
            · intro a ha j hj
              rcases ha with rfl | rfl
              · rw [put_ne (by omega)]
                by_cases hjt : j = t
                · rw [hjt, put_at, if_pos (by omega)]
                · rw [put_ne (by omega), g3 22 (by omega) j hj]
                  by_cases hc : t < j ∧ j ≤ i
                  · rw [if_pos hc, if_pos (by omega)]
                  · rw [if_neg hc, if_neg (by omega)]
              · by_cases hjt : j = t
                · rw [hjt, put_at, if_pos (by omega)]
                · rw [put_ne (by omega), put_ne (by omega), g3 23 (by omega) j hj]
                  by_cases hc : t < j ∧ j ≤ i
                  · rw [if_pos hc, if_pos (by omega)]
                  · rw [if_neg hc, if_neg (by omega)]
            · intro a ha1 ha2
              by_cases hat : a = t - 1
              · rw [hat]; exact h41
              · exact g4 a (by omega) ha2
      refine hin i _ (Nat.le_refl i) h1 h2 (fun a ha j hj => by rw [if_neg (by omega)]) (fun a h1 h2 => absurd h2 (by omega))
  by_cases hn1 : n = 0
  · subst hn1
    refine w_iconst (v := nI 1) d_f_sort_0 (by decide +kernel) ?_
    refine w_istore_n d_f_sort_1 (Nat.le_of_ble_eq_true rfl) ?_
    refine w_iload_n d_f_sort_2 rfl ?_
    refine w_iload_n d_f_sort_3 rfl ?_
    refine w_icmp_geN 105 d_f_sort_4 (by decide) (by omega) (by omega) (fun h4 => ?_) (fun h4 => ?_)
    · refine w_ret (st := []) rfl d_f_sort_105 ?_
      exact ⟨rfl, rfl, fun _ _ _ => rfl, fun j => j, Prm.id 0, fun j hj => absurd hj (by omega), fun a b h1 h2 => absurd h2 (by omega)⟩
    · exact absurd h4 (by omega)
  · have h01 : ∀ x3 x4 x5 : Value, Wp M_f_sort 2 [.ref 6, .int (nI n), .int (nI 1), x3, x4, x5] [] S (fun v9 S' => v9 = none ∧ S'.2 = S.2 ∧ (∀ a i, ¬ ((a = 22 ∨ a = 23) ∧ i < n) → S'.1 a i = S.1 a i) ∧ ∃ s, Prm s n ∧ (∀ j, j < n → S'.1 22 j = S.1 22 (s j) ∧ S'.1 23 j = S.1 23 (s j)) ∧ ∀ a b, a < b → b < n → bef (S'.1 23 a) (S'.1 22 a) (S'.1 23 b) (S'.1 22 b) = true) := fun x3 x4 x5 => hk0 1 (by omega) S x3 x4 x5 (Nat.le_refl 1) rfl (fun _ _ _ => rfl) (fun j => j) (Prm.id n) (fun _ _ => ⟨rfl, rfl⟩) (fun a b h1 h2 => absurd h1 (by omega))
    refine w_iconst (v := nI 1) d_f_sort_0 (by decide +kernel) ?_
    refine w_istore_n d_f_sort_1 (Nat.le_of_ble_eq_true rfl) ?_
    exact h01 _ _ _
