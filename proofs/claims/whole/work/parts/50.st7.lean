/-! load -/
theorem cntB_lt_n (i : Nat) : ∀ n, cntB (fun j => decide (j < i)) n = min n i
  | 0 => (Nat.zero_min i).symm
  | n + 1 => by
    have ih := cntB_lt_n i n
    by_cases h : n < i
    · rw [cntB_s1 (decide_eq_true h), ih]; omega
    · rw [cntB_s0 (decide_eq_false h), ih]; omega
theorem inc_cnt {pr : Nat → Bool} {f : Nat → Nat} {n : Nat} (hinc : ∀ i j, i < j → j < n → f i < f j) : ∀ U, U ≤ 1000 → (∀ u, u < U → (pr u = true ↔ ∃ i, i < n ∧ f i = u)) → cntB pr U = cntB (fun i => decide (f i < U)) n
  | 0, _, _ => (cntB_none (fun i => decide_eq_false (Nat.not_lt_zero _)) n).symm
  | U + 1, hU, h => by
    have ih := inc_cnt hinc U (by omega) (fun u hu => h u (by omega))
    cases hp : pr U with
    | false =>
      rw [cntB_s0 hp, ih]
      refine cntB_congr (fun i hi => ?_)
      have : f i ≠ U := fun e => by
        have := (h U (by omega)).mpr ⟨i, hi, e⟩
        rw [hp] at this
        cases this
      by_cases q : f i < U
      · rw [decide_eq_true q, decide_eq_true (show f i < U + 1 by omega)]
      · rw [decide_eq_false q, decide_eq_false (show ¬ f i < U + 1 by omega)]
    | true =>
      obtain ⟨i0, hi0, e0⟩ := (h U (by omega)).mp hp
      rw [cntB_s1 hp, ih]
      have key := (cnt_ins (p := fun i => decide (i < n) && decide (f i < U)) (q := fun i => decide (i < n) && decide (f i < U + 1)) (u := i0) (by rw [decide_eq_true hi0, decide_eq_true (show f i0 < U + 1 by omega)]; rfl) (by rw [decide_eq_false (show ¬ f i0 < U by omega), Bool.and_false]) (fun w hw => by
        by_cases hwn : w < n
        · have hne : f w ≠ U := fun e => by
            by_cases hlt : w < i0
            · have := hinc w i0 hlt hi0; omega
            · have := hinc i0 w (by omega) hwn; omega
          by_cases q : f w < U
          · rw [decide_eq_true q, decide_eq_true (show f w < U + 1 by omega)]
          · rw [decide_eq_false q, decide_eq_false (show ¬ f w < U + 1 by omega)]
        · rw [decide_eq_false hwn, Bool.false_and, Bool.false_and]) n).2 hi0
      have c1 : cntB (fun i => decide (i < n) && decide (f i < U + 1)) n = cntB (fun i => decide (f i < U + 1)) n := cntB_congr (fun i hi => by rw [decide_eq_true hi, Bool.true_and])
      have c2 : cntB (fun i => decide (i < n) && decide (f i < U)) n = cntB (fun i => decide (f i < U)) n := cntB_congr (fun i hi => by rw [decide_eq_true hi, Bool.true_and])
      rw [c1, c2] at key
      exact key.symm
theorem inc_at {pr : Nat → Bool} {f : Nat → Nat} {n : Nat} (hinc : ∀ i j, i < j → j < n → f i < f j) (hf : ∀ i, i < n → f i < 1000) (h : ∀ u, u < 1000 → (pr u = true ↔ ∃ i, i < n ∧ f i = u)) : (∀ i, i < n → cntB pr (f i) = i) ∧ cntB pr 1000 = n := by
  refine ⟨fun i hi => ?_, ?_⟩
  · have hf1 := hf i hi
    rw [inc_cnt hinc (f i) (by omega) (fun u hu => h u (by omega))]
    refine Eq.trans (cntB_congr (fun j hj => ?_)) ((cntB_lt_n i n).trans (by omega))
    by_cases q : j < i
    · rw [decide_eq_true q, decide_eq_true (hinc j i q hi)]
    · have : ¬ f j < f i := fun z => by
        by_cases e : j = i
        · rw [e] at z; omega
        · have := hinc i j (by omega) hj
          omega
      rw [decide_eq_false q, decide_eq_false this]
  · rw [inc_cnt hinc 1000 (Nat.le_refl _) h]
    refine Eq.trans (cntB_congr (q := fun j => decide (j < n)) (fun j hj => ?_)) ((cntB_lt_n n n).trans (Nat.min_self n))
    rw [decide_eq_true hj, decide_eq_true (hf j hj)]
theorem wdN_bd {b : Nat → Nat} (h : wdB b = true) {q : Nat} (hq : q < wcN b) : bd 300 (wdN b q) := by
  have hle := of_decide_eq_true (allB_iff.mp h q hq)
  unfold wdN bd
  rw [pk_sub_toInt (by omega) (by decide)]
  omega
theorem cdN_bd {b : Nat → Nat} (h : allB (idB b) (b 5) = true) {i : Nat} (hi : i < b 5) {k : Nat} (hk : k < 4) : bd 100 (cdN b i k) := by
  have hle := pts_ok h hi hk
  unfold cdN bd
  rw [pk_sub_toInt (by omega) (by decide)]
  omega
theorem parts_kn {kn p : Nat} (hk : kn ≤ 2) (hp : p < parts (nI kn)) : kn ≠ 2 := fun e => by
  rw [e] at hp
  have : parts (nI 2) = 0 := by decide +kernel
  omega
set_option maxHeartbeats 4000000 in
theorem st_load {S : St} (h : Inv S) : Stq M_q_load M_m_load [] S := by
  have h0 := h
  obtain ⟨h1, ⟨ns, h2⟩, ⟨m, h3⟩, ⟨pb, rf, rs, h4⟩, n, b, h5⟩ := h
  have hE := h3.2.1
  have hT := hE.2.2.2.2.1
  have hinj := hE.2.2.2.2.2.1
  refine Ev.mono (c_q_load S b (fun p hp => ⟨(h5.2.2.2 p hp).1, (h5.2.2.2 p hp).2.2⟩) n h5.1 h5.2.2.1 hT hinj) (fun r S1 hq => ⟨_, hq.1, ?_⟩)
  obtain ⟨-, hq0, hq1⟩ := hq
  by_cases hf : faN b n = 0
  · obtain ⟨S3, hLH, hLE⟩ := hq1 hf
    obtain ⟨l1, l2, l3, l4, l5, l6, l7, l8, l9⟩ := hLH
    obtain ⟨k1, k2, k3, k4⟩ := hLE
    obtain ⟨f1, f2, f3, f4, f5, f6⟩ := faN_0 hf
    have hs := of_decide_eq_true f2
    obtain ⟨i1, i2⟩ := ids_ok f6
    have e1 : ∀ x i, ¬ (x = 4 ∨ x = 9 ∨ (104 ≤ x ∧ x < 204) ∨ x = 18 ∨ (x = 5 ∧ i = 1)) → S1.1 x i = S.1 x i := fun x i y => by rw [k2 x i (by omega), l2 x i (by omega)]
    refine Ev.mono (c_m_load S1 b (fun p hp => by rw [e1 34 p (by omega)]; exact (h5.2.2.2 p hp).2) n (by rw [e1 8 19 (by omega)]; exact h5.2.1) h5.2.2.1) (fun r' S2 hm => ?_)
    obtain ⟨hv', -, hML⟩ := hm
    obtain ⟨m1, m2, m3, m4, m5, m6, m7, m8, m9, m10, m11, m12⟩ := hML hf
    have ek : ∀ x i, ¬ (x = 4 ∨ x = 9 ∨ (104 ≤ x ∧ x < 204) ∨ x = 18 ∨ (x = 5 ∧ i = 1)) → ¬ (x = 26 ∨ x = 28 ∨ x = 29 ∨ x = 30 ∨ x = 31 ∨ (x = 8 ∧ (i = 3 ∨ i = 4 ∨ i = 5 ∨ i = 6 ∨ i = 11))) → S2.1 x i = S.1 x i := fun x i y1 y2 => by rw [m2 x i y2, e1 x i y1]
    have e23 : ∀ x i, ¬ (x = 26 ∨ x = 28 ∨ x = 29 ∨ x = 30 ∨ x = 31 ∨ (x = 8 ∧ (i = 3 ∨ i = 4 ∨ i = 5 ∨ i = 6 ∨ i = 11))) → ¬ ((124 ≤ x ∧ x < 204) ∨ x = 18 ∨ (x = 5 ∧ i = 1)) → S2.1 x i = S3.1 x i := fun x i y1 y2 => by rw [m2 x i y1, k2 x i y2]
    have e22 : S2.2 = S.2 := by rw [m1, k1, l1]
    have hk31 : S3.2 = S.2 := l1
    have hT1 : InvT S2 := fun k hk => by
      rw [e23 9 k (by omega) (by omega), l3 k hk, m8 k hk]
      exact ⟨rfl, turn_ok4 (f := stN b) f3 hk⟩
    have hpl := parts_le (nI (b 2))
    have hpm := pw_mul (nI (b 2))
    have hwc : ∀ p, p < parts (nI (b 2)) → wcN b = 4 * b 3 + 4 * b 4 := fun p hp => by
      have := parts_kn hs.1 hp
      unfold wcN
      rw [if_neg this]
      omega
    have hwc0 : 4 * b 3 ≤ wcN b := by unfold wcN; split <;> omega
    have hwb : parts (nI (b 2)) * b 4 * pwid (nI (b 2)) ≤ 4 * b 4 := by
      rw [Nat.mul_right_comm]
      exact Nat.mul_le_mul_right _ hpm
    have hQ : QH S2 (b 2) (b 3) (b 4) := by
      refine ⟨⟨by rw [e23 4 4 (by omega) (by omega)]; exact l5, m4, hs.1⟩, ⟨by rw [e23 4 5 (by omega) (by omega)]; exact l6, m5, by omega, by omega⟩, ⟨by rw [e23 4 6 (by omega) (by omega)]; exact l7, m6, by omega, by omega⟩, fun l hl k hk => ?_, fun p hp j hj k hk => ?_⟩
      · rw [e23 _ _ (by omega) (by omega), l8 l hl k hk, m9 _ (by omega), Nat.mul_comm l 4]
        exact ⟨rfl, wdN_bd f5 (by omega)⟩
      · have hwx := wix_lt hp hj hk
        have hmp : msz (nI (b 2)) = pwid (nI (b 2)) := msz_pw hp
        have hz := m10 (wix (b 4) (msz (nI (b 2))) p j k) (by rw [hmp]; exact hwx)
        rw [wpos_wix hj (by rw [hmp]; exact hk), hmp] at hz
        rw [e23 _ _ (by omega) (by omega), l9 p hp j hj k hk, hz]
        refine ⟨rfl, wdN_bd f5 ?_⟩
        have := hwc p hp
        omega
    have hpr : ∀ u, u < 1000 → (prM S2 u = true ↔ ∃ i, i < b 5 ∧ prN b (esN b i) = u) := fun u hu => by
      unfold prM
      rw [decide_eq_true_iff]
      exact (m11 u hu).2
    obtain ⟨c1, c2⟩ := inc_at i2 (fun i hi => by have := i1 i hi; omega) hpr
    refine ⟨hv', hT1, ⟨ns, h2.keep (fun x i q => ek x i (by unfold inS at q; omega) (by unfold inS at q; omega))⟩, ⟨b 5, by rw [m3, e23 4 3 (by omega) (by omega)]; exact l4, ⟨by rw [m2 5 1 (by omega)]; exact k3, m7, c2.symm, by omega, by rw [e22]; exact hT, by rw [e22]; exact hinj, fun q => absurd q (by rw [e23 4 3 (by omega) (by omega), l4]; decide)⟩, fun _ => ⟨b 2, b 3, b 4, hQ, fun u hu hp => ?_⟩⟩, ⟨pb, rf, rs, h4.keep (fun x i q => ek x i (by unfold inF at q; omega) (by unfold inF at q; omega))⟩, n, b, h5.keep (fun x i q => ek x i (by unfold inB at q; omega) (by unfold inB at q; omega))⟩
    obtain ⟨i, hi, rfl⟩ := (hpr u hu).mp hp
    rw [c1 i hi]
    obtain ⟨z1, z2, z3, z4⟩ := k4 i hi
    rw [hk31] at z1 z2 z3 z4
    have hTi := hT i (by omega)
    have en : ∀ x j, (124 ≤ x ∧ x < 204) → S2.1 x j = S1.1 x j := fun x j y => m2 x j (by omega)
    have em : ∀ k, k < 4 → tv S3 (cdN b i 0) (cdN b i 1) (cdN b i 2) (cdN b i 3) k = mtv S2 (prN b (esN b i)) k := fun k hk => by
      unfold tv mtv
      rw [l3 k hk, m8 k hk]
      refine tval_congr (turn_ok4 (f := stN b) f3 hk) (fun z hz => ?_)
      rw [pt_k hz]
      exact (m12 i hi z hz).symm
    have el : ∀ x y : Nat → Int32, (∀ k, k < 4 → x k = y k) → lsOf S3 (b 3) x = lsM S2 (b 3) y := fun x y hxy => (lsOf_congr (S' := S2) (fun l hl k hk => (e23 (104 + l) k (by omega) (by omega)).symm) (fun _ _ => rfl)).trans (lsOf_eq hQ hxy)
    have hl := el _ _ em
    unfold EE1
    rw [e22]
    refine ⟨by rw [en _ _ (by omega)]; exact z1, fun k hk => ⟨?_, ?_, ?_⟩, ?_, fun q hq => ?_⟩
    · rw [en _ _ (by omega), (z3 k hk).1, m12 i hi k hk]
    · rw [m12 i hi k hk]
      exact cdN_bd f6 hi hk
    · rw [en _ _ (by omega), (z3 k hk).2, em k hk]
    · rw [en _ _ (by omega), z2, hl]
    · rw [en _ _ (by omega), z4 q hq, hl]
      refine congrArg nI ((cdOf_congr (S' := S2) hq (fun j hj k hk => (e23 _ _ (by omega) (by omega)).symm) (fun _ _ => rfl)).trans (cdOf_eq hQ (fun k hk => ?_) hq))
      have hlt := lsM_lt (S := S2) (x := mtv S2 (prN b (esN b i))) (show 0 < b 3 by omega)
      unfold lfOf lfM
      rw [em k hk, ← e23 (104 + _) k (by omega) (by omega), (hQ.2.2.2.1 _ hlt k hk).1]
  · obtain rfl := hq0 hf
    refine Ev.mono (c_m_load S1 b (fun p hp => (h5.2.2.2 p hp).2) n h5.2.1 h5.2.2.1) (fun r' S2 hm => ?_)
    obtain ⟨rfl, hz, -⟩ := hm
    obtain rfl := hz hf
    exact ⟨rfl, h0⟩
