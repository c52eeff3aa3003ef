set_option maxRecDepth 100000 in
set_option maxHeartbeats 4000000 in
theorem c_q_codeOf0 (S : St) (v : Int32) (m : Nat) (h0 : m = 0) (hm : S.1 5 1 = nI m) (hm20 : m ≤ 20) (hT : ∀ i, i < 20 → 124 ≤ S.2 i ∧ S.2 i < 144) : Ev M_q_codeOf [.ref 0, .int v] S (fun v9 S' => v9 = some (.int (-1)) ∧ S' = S) := by
  refine Ev.of MF_q_codeOf (all_cat rfl) (Nat.le_of_ble_eq_true rfl) ?_
  show Wp M_q_codeOf 0 [.ref 0, .int v, .null] [] _ _
  refine w_aload_n d_q_codeOf_0 rfl ?_
  refine w_getR d_q_codeOf_1 FL_q_40 (by decide) (rfl) (rfl) ?_
  refine w_iload_n d_q_codeOf_4 rfl ?_
  refine w_callV1 (N := M_b_placeOf) d_q_codeOf_5 LK_q_132 MF_b_placeOf MV_b_placeOf NP_b_placeOf (by decide) (by decide) (rfl) rfl rfl (Nat.le_of_ble_eq_true rfl) ?_
  refine Ev.det (c_b_placeOf S v m hm hm20 hT) ?_
  show Wp _ _ _ (.int (plI (fun i => S.1 (S.2 i) 3) v m) :: _) _ _
  refine w_istore_n d_q_codeOf_8 (Nat.le_of_ble_eq_true rfl) ?_
  refine w_iload_n d_q_codeOf_9 rfl ?_
  refine w_iconst (v := -1) d_q_codeOf_10 (by decide +kernel) ?_
  refine w_icmp_ne 18 d_q_codeOf_11 (by decide) (fun h11 => ?_) (fun h11 => ?_)
  · exact absurd (pl_yes h11).2 (by omega)
  · refine w_iconst (v := -1) d_q_codeOf_14 (by decide +kernel) ?_
    refine w_goto 34 d_q_codeOf_15 (by decide) ?_
    refine w_iret (st := []) rfl d_q_codeOf_34 ?_
    exact ⟨rfl, rfl⟩
set_option maxRecDepth 100000 in
set_option maxHeartbeats 4000000 in
theorem c_q_save0 (S : St) (h0 : S.1 4 3 = 0) : Ev M_q_save [.ref 0] S (fun v9 S' => v9 = some (.int (-1)) ∧ S' = S) := by
  refine Ev.of MF_q_save (all_cat rfl) (Nat.le_of_ble_eq_true rfl) ?_
  show Wp M_q_save 0 [.ref 0] [] _ _
  refine w_aload_n d_q_save_0 rfl ?_
  refine w_getR d_q_save_1 FL_q_33 (by decide) (rfl) (rfl) ?_
  refine w_getI d_q_save_4 FL_q_62 (by decide) (rfl) (rfl) ?_
  refine w_if_ne 12 d_q_save_7 (by decide) (fun h7 => ?_) (fun h7 => ?_)
  · exact absurd h0 h7
  · refine w_iconst (v := -1) d_q_save_10 (by decide +kernel) ?_
    refine w_iret (st := []) rfl d_q_save_11 ?_
    exact ⟨rfl, rfl⟩
set_option maxRecDepth 100000 in
set_option maxHeartbeats 4000000 in
theorem c_m_save0 (S : St) (h0 : S.1 8 3 = 0) : Ev M_m_save [.ref 8] S (fun v9 S' => v9 = some (.int (-1)) ∧ S' = S) := by
  refine Ev.of MF_m_save (all_cat rfl) (Nat.le_of_ble_eq_true rfl) ?_
  show Wp M_m_save 0 [.ref 8, .null, .null, .null] [] _ _
  refine w_aload_n d_m_save_0 rfl ?_
  refine w_getI d_m_save_1 FL_m_92 (by decide) (rfl) (rfl) ?_
  refine w_if_ne 9 d_m_save_4 (by decide) (fun h4 => ?_) (fun h4 => ?_)
  · exact absurd h0 h4
  · refine w_iconst (v := -1) d_m_save_7 (by decide +kernel) ?_
    refine w_iret (st := []) rfl d_m_save_8 ?_
    exact ⟨rfl, rfl⟩
theorem cnt_ins {p q : Nat → Bool} {u : Nat} (hq : q u = true) (hp : p u = false) (hne : ∀ w, w ≠ u → q w = p w) : ∀ w, (w ≤ u → cntB q w = cntB p w) ∧ (u < w → cntB q w = cntB p w + 1)
  | 0 => ⟨fun _ => rfl, fun h => absurd h (by omega)⟩
  | w + 1 => by
    have ih := cnt_ins hq hp hne w
    refine ⟨fun h => ?_, fun h => ?_⟩
    · show cntB q w + (if q w = true then 1 else 0) = cntB p w + (if p w = true then 1 else 0)
      rw [ih.1 (by omega), hne w (by omega)]
    · by_cases hw : w = u
      · subst hw
        rw [cntB_s1 hq, cntB_s0 hp, ih.1 (Nat.le_refl _)]
      · show cntB q w + (if q w = true then 1 else 0) = cntB p w + (if p w = true then 1 else 0) + 1
        rw [ih.2 (by omega), hne w hw]
        omega
theorem cntB_lt' {p : Nat → Bool} {a b : Nat} (hb : p a = true) (h : cntB p b ≤ cntB p a) : b ≤ a := by
  by_cases hab : a < b
  · have := cntB_lt hab hb
    omega
  · omega
theorem InvM.none {S : St} {m : Nat} (h : InvM S m) (h0 : m = 0) {u : Nat} (hu : u < 1000) : prM S u = false := by
  cases hp : prM S u with
  | false => rfl
  | true =>
    have := cntB_lt hu hp
    have hm := h.2.1.2.2.1
    omega
theorem InvM.tr {S : St} {m : Nat} (h : InvM S m) {u : Nat} (hu : u < 1000) (hp : prM S u = true) : ¬ S.1 4 3 = 0 := fun q => by
  have := h.none (h.2.1.2.2.2.2.2.2 q) hu
  rw [this] at hp
  cases hp
theorem InvM.pos {S : St} {m : Nat} (h : InvM S m) {u : Nat} (hu : u < 1000) (hp : prM S u = true) : cntB (prM S) u < m ∧ S.1 (S.2 (cntB (prM S) u)) 3 = nI u := by
  have hlt := cntB_lt hu hp
  refine ⟨by rw [h.2.1.2.2.1]; exact hlt, ?_⟩
  obtain ⟨kn, nl, nc, -, hE⟩ := h.2.2 (h.tr hu hp)
  exact (hE u hu hp).1
theorem InvM.at {S : St} {m : Nat} (h : InvM S m) {i : Nat} (hi : i < m) : ∃ u, u < 1000 ∧ prM S u = true ∧ cntB (prM S) u = i := by
  have hm := h.2.1.2.2.1
  exact cntB_surj (by rw [← hm]; exact hi)
theorem InvM.find {S : St} {m : Nat} (h : InvM S m) {u : Nat} (hu : u < 1000) (hp : prM S u = true) : ffind (fun i => S.1 (S.2 i) 3) (nI u) m = cntB (prM S) u := by
  obtain ⟨p1, p2⟩ := h.pos hu hp
  refine ffind_hit p1 (fun j hj q => ?_) p2
  obtain ⟨w, hw, hpw, hjw⟩ := h.at (show j < m by omega)
  have hw2 := (h.pos hw hpw).2
  rw [hjw] at hw2
  have := (nI_eq (by omega) (by omega)).mp (hw2.symm.trans q)
  subst this
  omega
theorem thr_nI {S : St} {v : Int32} : thr S v ↔ ∃ u, u < 1000 ∧ v = nI u ∧ prM S u = true := by
  constructor
  · intro h
    obtain ⟨u, hu, hv, hp⟩ := thr_id h
    exact ⟨u, hu, hv, decide_eq_true hp⟩
  · intro ⟨u, hu, hv, hp⟩
    subst hv
    refine ⟨⟨by rw [nI_leI (by decide) (by omega)]; omega, by rw [nI_leI (by omega) (by decide)]; omega⟩, ?_⟩
    rw [nI_clamp (by omega)]
    exact of_decide_eq_true hp
theorem InvM.nofind {S : St} {m : Nat} (h : InvM S m) {v : Int32} (hn : ¬ thr S v) : ¬ ffind (fun i => S.1 (S.2 i) 3) v m < m := fun q => by
  obtain ⟨e, -⟩ := ffind_spec q
  obtain ⟨u, hu, hp, hc⟩ := h.at q
  have := (h.pos hu hp).2
  rw [hc] at this
  exact hn (thr_nI.mpr ⟨u, hu, (this.symm.trans e).symm, hp⟩)
theorem st_listOf {S : St} (h : Inv S) (v : Int32) : Stq M_q_listOf M_m_listOf [.int v] S := by
  have h0 := h
  obtain ⟨h1, -, ⟨m, h3⟩, -⟩ := h
  have hE := h3.2.1
  refine Ev.mono (c_q_listOf S v m hE.1 hE.2.2.2.1 hE.2.2.2.2.1) (fun r S1 hq => ⟨_, hq.1, ?_⟩)
  obtain ⟨-, rfl⟩ := hq
  by_cases ht : thr S1 v
  · obtain ⟨u, hu, rfl, hp⟩ := thr_nI.mp ht
    obtain ⟨kn, nl, nc, hQ, hu2⟩ := h3.2.2 (h3.tr hu hp)
    refine Ev.mono (c_m_listOf S1 _ nl (fun _ => ⟨hQ.2.1.2.1, hQ.2.1.2.2.1, hQ.2.1.2.2.2⟩) (fun k hk => (h1 k hk).2)) (fun r' S2 hm => ?_)
    obtain ⟨hv, hS⟩ := hm.1 ht
    rw [h3.find hu hp, if_pos (h3.pos hu hp).1, (hu2 u hu hp).2.2.1]
    rw [nI_clamp (by omega)] at hv
    exact ⟨hv, by rw [hS]; exact h0.FrG (tE_fr _ _)⟩
  · refine Ev.mono (c_m_listOf S1 v 0 (fun q => absurd q ht) (fun k hk => (h1 k hk).2)) (fun r' S2 hm => ?_)
    obtain ⟨hv, hS⟩ := hm.2 ht
    rw [if_neg (h3.nofind ht)]
    exact ⟨hv, by rw [hS]; exact h0⟩
theorem hsum_csum {c : Nat → Nat} {nc P : Nat} : ∀ d, d ≤ P → hsum c nc P d * nc ^ (P - d) + csum c nc (P - d) = csum c nc P
  | 0, _ => by show 0 * _ + _ = _; rw [Nat.zero_mul, Nat.zero_add, Nat.sub_zero]
  | d + 1, h => by
    have ih := hsum_csum (c := c) (nc := nc) (P := P) d (by omega)
    obtain ⟨e, he⟩ : ∃ e, P - d = e + 1 := ⟨P - d - 1, by omega⟩
    have he2 : P - (d + 1) = e := by omega
    rw [he] at ih
    show (hsum c nc P d * nc + c (P - (d + 1))) * nc ^ (P - (d + 1)) + csum c nc (P - (d + 1)) = csum c nc P
    rw [he2, ← ih]
    show _ = hsum c nc P d * nc ^ (e + 1) + (csum c nc e + c e * nc ^ e)
    rw [Nat.add_mul, Nat.pow_succ, Nat.mul_assoc, Nat.mul_comm nc (nc ^ e)]
    omega
theorem hsum_eq (c : Nat → Nat) (nc P : Nat) : hsum c nc P P = csum c nc P := by
  have := hsum_csum (c := c) (nc := nc) P (Nat.le_refl P)
  rw [Nat.sub_self, Nat.pow_zero, Nat.mul_one] at this
  exact this
theorem csum_congr {c d : Nat → Nat} {nc : Nat} : ∀ {p : Nat}, (∀ q, q < p → c q = d q) → csum c nc p = csum d nc p
  | 0, _ => rfl
  | p + 1, h => by
    show csum c nc p + c p * nc ^ p = csum d nc p + d p * nc ^ p
    rw [csum_congr (fun q hq => h q (by omega)), h p (by omega)]
/-- the entries' lists and codes as numbers -/
def enL (S : St) (i : Nat) : Nat := (S.1 (S.2 i) 4).toNatClampNeg
def enC (S : St) (i k : Nat) : Nat := (S.1 (S.2 i + 60) k).toNatClampNeg
theorem InvM.EH {S : St} {m : Nat} (h : InvM S m) {kn nl nc : Nat} (hQ : QH S kn nl nc) (hu2 : ∀ u, u < 1000 → prM S u = true → EE1 S kn nl nc (cntB (prM S) u) u) : EH S (nI kn) nl m (enL S) (enC S) ∧ ∀ u, u < 1000 → prM S u = true → enL S (cntB (prM S) u) = lsM S nl (mtv S u) ∧ ∀ q, q < parts (nI kn) → enC S (cntB (prM S) u) q = cdM S (nI kn) nc (lfM S (lsM S nl (mtv S u)) (mtv S u)) q := by
  have hE := h.2.1
  have key : ∀ u, u < 1000 → prM S u = true → enL S (cntB (prM S) u) = lsM S nl (mtv S u) ∧ ∀ q, q < parts (nI kn) → enC S (cntB (prM S) u) q = cdM S (nI kn) nc (lfM S (lsM S nl (mtv S u)) (mtv S u)) q := fun u hu hp => by
    have e := hu2 u hu hp
    have hl := lsM_lt (S := S) (x := mtv S u) hQ.2.1.2.2.1
    refine ⟨?_, fun q hq => ?_⟩
    · unfold enL
      rw [e.2.2.1, nI_clamp (by have := hQ.2.1.2.2.2; omega)]
    · unfold enC
      have hc := cdM_lt (S := S) (kind := nI kn) (y := lfM S (lsM S nl (mtv S u)) (mtv S u)) (p := q) hQ.2.2.1.2.2.1
      rw [e.2.2.2 q hq, nI_clamp (by have := hQ.2.2.1.2.2.2; omega)]
  refine ⟨⟨hQ.1.1, hQ.2.1.1, hQ.2.1.2.2.1, hQ.2.1.2.2.2, hE.1, hE.2.2.2.1, hE.2.2.2.2.1, fun i hi => ?_⟩, key⟩
  obtain ⟨u, hu, hp, rfl⟩ := h.at hi
  have e := hu2 u hu hp
  obtain ⟨k1, k2⟩ := key u hu hp
  refine ⟨⟨by rw [k1]; exact e.2.2.1, by rw [k1]; exact lsM_lt hQ.2.1.2.2.1⟩, fun k hk => ⟨by rw [k2 k hk]; exact e.2.2.2 k hk, ?_⟩⟩
  rw [k2 k hk]
  have hc := cdM_lt (S := S) (kind := nI kn) (y := lfM S (lsM S nl (mtv S u)) (mtv S u)) (p := k) hQ.2.2.1.2.2.1
  have := hQ.2.2.1.2.2.2
  omega
theorem st_codeOf {S : St} (h : Inv S) (v : Int32) : Stq M_q_codeOf M_m_codeOf [.int v] S := by
  have h0 := h
  obtain ⟨h1, -, ⟨m, h3⟩, -⟩ := h
  have hE := h3.2.1
  by_cases ht0 : S.1 4 3 = 0
  · have hm0 := hE.2.2.2.2.2.2 ht0
    refine Ev.mono (c_q_codeOf0 S v m hm0 hE.1 hE.2.2.2.1 hE.2.2.2.2.1) (fun r S1 hq => ⟨_, hq.1, ?_⟩)
    obtain ⟨-, rfl⟩ := hq
    have hn : ¬ thr S1 v := fun q => by
      obtain ⟨u, hu, -, hp⟩ := thr_nI.mp q
      exact h3.tr hu hp ht0
    refine Ev.mono (c_m_codeOf S1 v _ 0 0 rfl (fun q => absurd q hn) (fun k hk => (h1 k hk).2)) (fun r' S2 hm => ?_)
    obtain ⟨hv, hS⟩ := hm.2.2 hn
    exact ⟨hv, by rw [hS]; exact h0⟩
  · obtain ⟨kn, nl, nc, hQ, hu2⟩ := h3.2.2 ht0
    obtain ⟨hEH, hkey⟩ := h3.EH hQ hu2
    refine Ev.mono (c_q_codeOf S v (nI kn) nl m nc _ _ hEH hQ.2.2.1.1) (fun r S1 hq => ⟨_, hq.1, ?_⟩)
    obtain ⟨-, rfl⟩ := hq
    refine Ev.mono (c_m_codeOf S1 v (nI kn) nl nc hQ.1.2.1 (fun _ => ⟨hQ.2.1.2.1, hQ.2.1.2.2.1, hQ.2.1.2.2.2, hQ.2.2.1.2.1, hQ.2.2.1.2.2.1, hQ.2.2.1.2.2.2⟩) (fun k hk => (h1 k hk).2)) (fun r' S2 hm => ?_)
    by_cases ht : thr S1 v
    · obtain ⟨u, hu, rfl, hp⟩ := thr_nI.mp ht
      obtain ⟨hv, hS⟩ := hm.1 ht
      rw [nI_clamp (by omega), hsum_eq] at hv
      rw [h3.find hu hp, if_pos (h3.pos hu hp).1, csum_congr (hkey u hu hp).2]
      exact ⟨hv, h0.FrG ⟨hm.2.1 ht, fun a i q => hS a i (by omega) (by omega) (by omega)⟩⟩
    · obtain ⟨hv, hS⟩ := hm.2.2 ht
      rw [if_neg (h3.nofind ht)]
      exact ⟨hv, by rw [hS]; exact h0⟩
theorem cntI_B {f : Nat → Int32} {v : Int32} : ∀ n, cntI f v n = cntB (fun i => decide (f i = v)) n
  | 0 => rfl
  | n + 1 => by
    show cntI f v n + (if f n = v then 1 else 0) = cntB _ n + (if decide (f n = v) = true then 1 else 0)
    rw [cntI_B n]
    by_cases h : f n = v
    · rw [if_pos h, if_pos (decide_eq_true h)]
    · rw [if_neg h, if_neg (fun q => h (of_decide_eq_true q))]
theorem st_entries {S : St} (h : Inv S) (v : Int32) : Stq M_q_entries M_m_entries [.int v] S := by
  have h0 := h
  obtain ⟨h1, -, ⟨m, h3⟩, -⟩ := h
  have hE := h3.2.1
  refine Ev.mono (c_q_entries S v m hE.1 hE.2.2.2.1 hE.2.2.2.2.1) (fun r S1 hq => ⟨_, hq.1, ?_⟩)
  obtain ⟨-, rfl⟩ := hq
  by_cases ht0 : S1.1 4 3 = 0
  · have ht1 : S1.1 8 3 = 0 := h3.1 ▸ ht0
    refine Ev.mono (c_m_entries S1 v 0 (fun q => absurd ht1 q) (fun k hk => (h1 k hk).2)) (fun r' S2 hm => ?_)
    obtain ⟨hv, hS⟩ := hm
    rw [if_neg (fun q => q.1 ht1)] at hv
    rw [if_neg (fun q => q.1 ht0)]
    exact ⟨hv, h0.FrG hS⟩
  · obtain ⟨kn, nl, nc, hQ, hu2⟩ := h3.2.2 ht0
    refine Ev.mono (c_m_entries S1 v nl (fun _ => ⟨hQ.2.1.2.1, hQ.2.1.2.2.1, hQ.2.1.2.2.2⟩) (fun k hk => (h1 k hk).2)) (fun r' S2 hm => ?_)
    obtain ⟨hv, hS⟩ := hm
    refine ⟨?_, h0.FrG hS⟩
    rw [hv, hQ.2.1.1, hQ.2.1.2.1, ← h3.1]
    have e : cntI (fun i => S1.1 (S1.2 i) 4) v m = cntB (enP S1 nl v) 1000 := by
      rw [cntI_B, hE.2.2.1]
      refine (cntB_comp (P := fun u => decide (nI (lsM S1 nl (mtv S1 u)) = v)) (fun u hu hp => ?_)).trans (cntB_congr (fun u _ => ?_))
      · show decide (S1.1 (S1.2 (cntB (prM S1) u)) 4 = v) = _
        rw [(hu2 u hu hp).2.2.1]
      · unfold enP prM
        by_cases q1 : S1.1 30 u = 0
        · rw [decide_eq_false (fun z => z q1), Bool.false_and]
          exact (decide_eq_false (fun z => z.1 q1)).symm
        · by_cases q2 : nI (lsM S1 nl (mtv S1 u)) = v
          · rw [decide_eq_true q1, decide_eq_true q2, decide_eq_true ⟨q1, q2⟩]; rfl
          · rw [decide_eq_true q1, decide_eq_false q2, decide_eq_false (fun z => q2 z.2)]; rfl
    rw [e]
