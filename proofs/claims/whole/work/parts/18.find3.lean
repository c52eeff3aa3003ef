noncomputable def selN (p : Nat → Bool) (n j : Nat) : Nat := if h : j < cntB p n then (cntB_surj h).choose else 0
theorem selN_spec {p : Nat → Bool} {n j : Nat} (h : j < cntB p n) : selN p n j < n ∧ p (selN p n j) = true ∧ cntB p (selN p n j) = j := by
  unfold selN
  rw [dif_pos h]
  exact (cntB_surj h).choose_spec
set_option maxRecDepth 100000 in
set_option maxHeartbeats 4000000 in
theorem c_f_find (S : St) (kind : Int32) (nl m : Nat) (l : Nat → Nat) (c : Nat → Nat → Nat) (hE : EH S kind nl m l c) (pb rf kk : Nat) (hpb : S.1 6 5 = nI pb) (hpb4 : pb ≤ 4) (hrf : S.1 6 6 = nI rf) (hrf3 : rf ≤ 3) (hk8 : kk ≤ 8) : Ev M_f_find [.ref 6, .ref 4, .ref 5, .int (nI kk)] S (fun v9 S' => v9 = none ∧ FrF S S' ∧ S'.1 6 7 = nI (cntB (prb S nl pb l) m) ∧ S'.1 6 8 = nI (min kk (cntB (prb S nl pb l) m)) ∧ ∃ R0 R : Nat → Nat, Enm R0 (cntB (prb S nl pb l) m) (fun i => i < m ∧ (prb S nl pb l) i = true) (dcd S kind l c) ∧ (rf = 0 → R = R0) ∧ (0 < rf → Enm R (min (kk * rf) (cntB (prb S nl pb l) m)) (fun i => ∃ j, j < (min (kk * rf) (cntB (prb S nl pb l) m)) ∧ R0 j = i) (exd S)) ∧ ∀ j, j < (min kk (cntB (prb S nl pb l) m)) → S'.1 24 j = S.1 (S.2 (R j)) 3 ∧ S'.1 23 j = (if rf = 0 then (dcd S kind l c) (R j) else (exd S) (R j))) := by
  refine Ev.of MF_f_find (all_cat rfl) (Nat.le_of_ble_eq_true rfl) ?_
  show Wp M_f_find 0 [.ref 6, .ref 4, .ref 5, .int (nI kk), .null] [] _ _
  have hE0 := hE
  obtain ⟨hk, hl, hl1, hl4, hm, hm20, hT, hen⟩ := hE
  have hq := cntB_le (prb S nl pb l) m
  have h49 : ∀ (S5 : St) (x4 : Value) (R0 R : Nat → Nat), FrF S S5 → S5.1 6 7 = nI (cntB (prb S nl pb l) m) → Enm R0 (cntB (prb S nl pb l) m) (fun i => i < m ∧ (prb S nl pb l) i = true) (dcd S kind l c) → (rf = 0 → R = R0) → (0 < rf → Enm R (min (kk * rf) (cntB (prb S nl pb l) m)) (fun i => ∃ j, j < (min (kk * rf) (cntB (prb S nl pb l) m)) ∧ R0 j = i) (exd S)) → (∀ j, j < (min kk (cntB (prb S nl pb l) m)) → R j < m ∧ S5.1 22 j = nI (R j) ∧ S5.1 23 j = (if rf = 0 then (dcd S kind l c) (R j) else (exd S) (R j))) → Wp M_f_find 49 [.ref 6, .ref 4, .ref 5, .int (nI kk), x4] [] S5 (fun v9 S' => v9 = none ∧ FrF S S' ∧ S'.1 6 7 = nI (cntB (prb S nl pb l) m) ∧ S'.1 6 8 = nI (min kk (cntB (prb S nl pb l) m)) ∧ ∃ R0 R : Nat → Nat, Enm R0 (cntB (prb S nl pb l) m) (fun i => i < m ∧ (prb S nl pb l) i = true) (dcd S kind l c) ∧ (rf = 0 → R = R0) ∧ (0 < rf → Enm R (min (kk * rf) (cntB (prb S nl pb l) m)) (fun i => ∃ j, j < (min (kk * rf) (cntB (prb S nl pb l) m)) ∧ R0 j = i) (exd S)) ∧ ∀ j, j < (min kk (cntB (prb S nl pb l) m)) → S'.1 24 j = S.1 (S.2 (R j)) 3 ∧ S'.1 23 j = (if rf = 0 then (dcd S kind l c) (R j) else (exd S) (R j))) := by
    intro S5 x4 R0 R k1 k2 k3 k4 k5 k6
    refine w_aload_n d_f_find_49 rfl ?_
    refine w_iload_n d_f_find_50 rfl ?_
    refine w_aload_n d_f_find_51 rfl ?_
    refine w_getIV (v := (nI ((cntB (prb S nl pb l) m)))) d_f_find_52 FL_f_45 (by decide) (rfl) (rfl) (k2) ?_
    refine w_callS2 (N := M_j_min) d_f_find_55 LK_f_52 MF_j_min MS_j_min NP_j_min (by decide) rfl (Nat.le_of_ble_eq_true rfl) ?_
    refine Ev.det (c_j_min _ _ _) ?_
    rw [minN (by omega) (by omega)]
    refine w_putIP d_f_find_58 FL_f_34 FW_6_8 (by decide) (rfl) (rfl) ?_
    refine w_aload_n d_f_find_61 rfl ?_
    refine w_aload_n d_f_find_62 rfl ?_
    refine w_callV1 (N := M_f_keepIds) d_f_find_63 LK_f_62 MF_f_keepIds MV_f_keepIds NP_f_keepIds (by decide) (by decide) (rfl) rfl rfl (Nat.le_of_ble_eq_true rfl) ?_
    have k7 : FrF S (put S5 6 8 (nI (min kk (cntB (prb S nl pb l) m)))) := k1.put (by omega)
    refine Ev.det (c_f_keepIds _ (min kk (cntB (prb S nl pb l) m)) R put_at (by omega) (fun j hj => ⟨by rw [put_ne (by omega)]; exact (k6 j hj).2.1, by have := (k6 j hj).1; omega⟩) (by rw [k7.1]; exact hT)) ?_
    refine w_ret (st := []) rfl d_f_find_66 ?_
    refine ⟨rfl, ⟨k7.1, fun a i ha => by rw [setRow_ne (by omega)]; exact k7.2 a i ha⟩, by rw [setRow_ne (by omega), put_ne (by omega)]; exact k2, by rw [setRow_ne (by omega), put_at], R0, R, k3, k4, k5, fun j hj => ⟨?_, ?_⟩⟩
    · rw [setRow_at hj, k7.1, k7.2 _ _ (by have := hT (R j) (by have := (k6 j hj).1; omega); omega)]
    · rw [setRow_ne (by omega), put_ne (by omega)]
      exact (k6 j hj).2.2
  refine w_aload_n d_f_find_0 rfl ?_
  refine w_aload_n d_f_find_1 rfl ?_
  refine w_aload_n d_f_find_2 rfl ?_
  refine w_callV2 (N := M_f_lookThrough) d_f_find_3 LK_f_41 MF_f_lookThrough MV_f_lookThrough NP_f_lookThrough (by decide) (by decide) (rfl) rfl rfl (Nat.le_of_ble_eq_true rfl) ?_
  refine Ev.mono (c_f_lookThrough S kind nl m l c hE0 pb hpb hpb4) (fun r9 S1 hq9 => ?_)
  obtain ⟨rfl, f1, f2, f3⟩ := hq9
  show Wp _ _ _ [] _ _
  have p1 : ∀ j, j < (cntB (prb S nl pb l) m) → S1.1 22 j = nI (selN (prb S nl pb l) m j) ∧ S1.1 23 j = (dcd S kind l c) (selN (prb S nl pb l) m j) := by
    intro j hj
    obtain ⟨a1, a2, a3⟩ := selN_spec hj
    have := f3 _ a1 a2
    rw [a3] at this
    exact this
  refine w_aload_n d_f_find_6 rfl ?_
  refine w_aload_n d_f_find_7 rfl ?_
  refine w_getIV (v := (nI ((cntB (prb S nl pb l) m)))) d_f_find_8 FL_f_45 (by decide) (rfl) (rfl) (f2) ?_
  refine w_callV1 (N := M_f_sort) d_f_find_11 LK_f_48 MF_f_sort MV_f_sort NP_f_sort (by decide) (by decide) (rfl) rfl rfl (Nat.le_of_ble_eq_true rfl) ?_
  refine Ev.mono (c_f_sort S1 (cntB (prb S nl pb l) m) (by omega) (fun a b ha hb hab => by
    rw [(p1 a ha).1, (p1 b hb).1]
    intro q
    have h1 := selN_spec ha
    have h2 := selN_spec hb
    have := (nI_eq (by omega) (by omega)).mp q
    rw [← h1.2.2, ← h2.2.2, this] at hab
    exact hab rfl)) (fun r9 S2 hq9 => ?_)
  obtain ⟨rfl, g1, g2, s, g3, g4, g5⟩ := hq9
  show Wp _ _ _ [] _ _
  have hF2 : FrF S S2 := ⟨g1.trans f1.1, fun a i ha => (g2 a i (by omega)).trans (f1.2 a i ha)⟩
  have e7 : S2.1 6 7 = nI (cntB (prb S nl pb l) m) := (g2 6 7 (by omega)).trans f2
  obtain ⟨R0, hR0⟩ : ∃ R0 : Nat → Nat, R0 = fun j => selN (prb S nl pb l) m (s j) := ⟨_, rfl⟩
  have r1 : ∀ j, j < (cntB (prb S nl pb l) m) → S2.1 22 j = nI (R0 j) ∧ S2.1 23 j = (dcd S kind l c) (R0 j) := by
    intro j hj
    rw [(g4 j hj).1, (g4 j hj).2, hR0]
    exact p1 _ (g3.1 j hj)
  have r2 : Enm R0 (cntB (prb S nl pb l) m) (fun i => i < m ∧ (prb S nl pb l) i = true) (dcd S kind l c) := by
    refine ⟨fun j hj => ?_, fun i hi => ?_, fun a b hab hb => ?_⟩
    · have := selN_spec (g3.1 j hj)
      rw [hR0]
      exact ⟨this.1, this.2.1⟩
    · have hci := cntB_lt hi.1 hi.2
      obtain ⟨j, hj, e⟩ := g3.onto _ hci
      refine ⟨j, hj, ?_⟩
      rw [hR0]
      show selN (prb S nl pb l) m (s j) = i
      have h2 := selN_spec (g3.1 j hj)
      exact cntB_inj h2.2.1 hi.2 (by rw [h2.2.2, e])
    · have := g5 a b hab hb
      rw [(r1 a (by omega)).1, (r1 a (by omega)).2, (r1 b hb).1, (r1 b hb).2] at this
      exact this
  have r3 : ∀ j, j < (cntB (prb S nl pb l) m) → R0 j < m := fun j hj => (r2.1 j hj).1
  refine w_aload_n d_f_find_14 rfl ?_
  refine w_getIV (v := (nI rf)) d_f_find_15 FL_f_31 (by decide) (rfl) (rfl) ((hF2.2 6 6 (by omega)).trans hrf) ?_
  refine w_if_leN 49 d_f_find_18 (by decide) (by omega) (fun h18 => ?_) (fun h18 => ?_)
  · have hrf : rf = 0 := by omega
    refine h49 S2 _ R0 R0 hF2 e7 r2 (fun _ => rfl) (fun q => absurd q (by omega)) (fun j hj => ⟨r3 j (by omega), (r1 j (by omega)).1, ?_⟩)
    rw [if_pos hrf]
    exact (r1 j (by omega)).2
  · refine w_iload_n d_f_find_21 rfl ?_
    refine w_aload_n d_f_find_22 rfl ?_
    refine w_getIV (v := (nI rf)) d_f_find_23 FL_f_31 (by decide) (rfl) (rfl) ((hF2.2 6 6 (by omega)).trans hrf) ?_
    refine w_imulN d_f_find_26 ?_
    refine w_aload_n d_f_find_27 rfl ?_
    refine w_getIV (v := (nI ((cntB (prb S nl pb l) m)))) d_f_find_28 FL_f_45 (by decide) (rfl) (rfl) (e7) ?_
    refine w_callS2 (N := M_j_min) d_f_find_31 LK_f_52 MF_j_min MS_j_min NP_j_min (by decide) rfl (Nat.le_of_ble_eq_true rfl) ?_
    refine Ev.det (c_j_min _ _ _) ?_
    have hkr : kk * rf ≤ 24 := Nat.le_trans (Nat.mul_le_mul hk8 hrf3) (by decide)
    rw [minN (by omega) (by omega)]
    refine w_istore d_f_find_34 (Nat.le_of_ble_eq_true rfl) ?_
    refine w_aload_n d_f_find_36 rfl ?_
    refine w_aload_n d_f_find_37 rfl ?_
    refine w_iload d_f_find_38 rfl ?_
    show Wp _ 40 _ _ _ _
    refine w_callV2 (N := M_f_measure) d_f_find_40 LK_f_58 MF_f_measure MV_f_measure NP_f_measure (by decide) (by decide) (rfl) rfl rfl (Nat.le_of_ble_eq_true rfl) ?_
    refine Ev.det (c_f_measure S2 (min (kk * rf) (cntB (prb S nl pb l) m)) R0 (by omega) (fun j hj => ⟨(r1 j (by omega)).1, by have := r3 j (by omega); omega⟩) (by rw [hF2.1]; exact hT)) ?_
    have hx : ∀ j, j < (min (kk * rf) (cntB (prb S nl pb l) m)) → exd S2 (R0 j) = exd S (R0 j) := fun j hj => exd_keep hF2 (hT _ (by have := r3 j (by omega); omega))
    refine w_aload_n d_f_find_43 rfl ?_
    refine w_iload d_f_find_44 rfl ?_
    refine w_callV1 (N := M_f_sort) d_f_find_46 LK_f_48 MF_f_sort MV_f_sort NP_f_sort (by decide) (by decide) (rfl) rfl rfl (Nat.le_of_ble_eq_true rfl) ?_
    refine Ev.mono (c_f_sort (setRow S2 23 (fun j => exd S2 (R0 j)) (min (kk * rf) (cntB (prb S nl pb l) m))) (min (kk * rf) (cntB (prb S nl pb l) m)) (by omega) (fun a b ha hb hab => by
      rw [setRow_ne (by omega), setRow_ne (by omega), (r1 a (by omega)).1, (r1 b (by omega)).1]
      intro q
      have h1 := r3 a (by omega)
      have h2 := r3 b (by omega)
      exact hab (r2.inj (by omega) (by omega) ((nI_eq (by omega) (by omega)).mp q)))) (fun r9 S4 hq9 => ?_)
    obtain ⟨rfl, u1, u2, s2, u3, u4, u5⟩ := hq9
    show Wp _ _ _ [] _ _
    have w1 : ∀ j, j < (min (kk * rf) (cntB (prb S nl pb l) m)) → S4.1 22 j = nI (R0 (s2 j)) ∧ S4.1 23 j = exd S (R0 (s2 j)) := by
      intro j hj
      have hsj := u3.1 j hj
      rw [(u4 j hj).1, (u4 j hj).2, setRow_ne (by omega), setRow_at hsj]
      exact ⟨(r1 _ (by omega)).1, hx _ hsj⟩
    have hk1 : kk ≤ kk * rf := Nat.le_mul_of_pos_right kk h18
    refine h49 S4 _ R0 (fun j => R0 (s2 j)) ⟨u1.trans hF2.1, fun a i ha => ?_⟩ ?_ r2 (fun q => absurd q (by omega)) (fun _ => ⟨fun j hj => ⟨s2 j, u3.1 j hj, rfl⟩, fun i hi => ?_, fun a b hab hb => ?_⟩) (fun j hj => ⟨r3 _ (by have := u3.1 j (by omega); omega), (w1 j (by omega)).1, ?_⟩)
    · rw [u2 a i (by omega), setRow_ne (by omega)]
      exact hF2.2 a i ha
    · rw [u2 6 7 (by omega), setRow_ne (by omega)]
      exact e7
    · obtain ⟨j, hj, e⟩ := hi
      obtain ⟨j2, hj2, e2⟩ := u3.onto j hj
      exact ⟨j2, hj2, by show R0 (s2 j2) = i; rw [e2, e]⟩
    · have := u5 a b hab hb
      rw [(w1 a (by omega)).1, (w1 a (by omega)).2, (w1 b hb).1, (w1 b hb).2] at this
      exact this
    · rw [if_neg (by omega)]
      exact (w1 j (by omega)).2
