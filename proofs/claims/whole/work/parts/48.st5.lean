/-! search -/
theorem lbef_congr {d e : Nat → Int32} {l : Nat} (hl : d l = e l) : ∀ {n : Nat}, (∀ j, j < n → d j = e j) → lbef d l n = lbef e l n
  | 0, _ => rfl
  | n + 1, h => by
    show lbef d l n + (if d n < d l ∨ d n = d l ∧ n < l then 1 else 0) = lbef e l n + (if e n < e l ∨ e n = e l ∧ n < l then 1 else 0)
    rw [lbef_congr hl (fun j hj => h j (by omega)), h n (by omega), hl]
theorem wsum_eq {S S' : St} {kind : Int32} {nc : Nat} {y y' : Nat → Int32} {c c' : Nat → Nat} (hy : ∀ k, k < 4 → y k = y' k) (hw : ∀ p, p < parts kind → ∀ j, j < nc → ∀ k, k < pwid kind → S.1 (108 + (p * 4 + j)) k = S'.1 29 (8 * p + 2 * j + k)) (hc : ∀ p, p < parts kind → c p = c' p ∧ c' p < nc) : ∀ p, p ≤ parts kind → wsum S kind y c p = wsM S' kind y' c' p
  | 0, _ => rfl
  | p + 1, hp => by
    have ih := wsum_eq hy hw hc p (by omega)
    obtain ⟨e1, e2⟩ := hc p (by omega)
    show wsum S kind y c p + wdOf S kind y p (c p) = wsM S' kind y' c' p + wdM S' kind y' p (c' p)
    rw [ih, e1]
    have : wdOf S kind y p (c' p) = wdM S' kind y' p (c' p) := dst_congr (fun k hk => hw p (by omega) _ e2 k hk) (fun k hk => hy _ (pw_in (show p < parts kind by omega) hk))
    rw [this]
theorem cntB_none {p : Nat → Bool} (h : ∀ i, p i = false) : ∀ n, cntB p n = 0
  | 0 => rfl
  | n + 1 => by rw [cntB_s0 (h n)]; exact cntB_none h n
/-- in an enumeration the rank of the j-th is j -/
theorem enm_cnt {R : Nat → Nat} {n m : Nat} {p : Nat → Prop} {D : Nat → Int32} (h : Enm R n p D) (hm : ∀ i, p i → i < m) [∀ j i, Decidable (∃ a, a < j ∧ R a = i)] : ∀ j, j ≤ n → cntB (fun i => decide (∃ a, a < j ∧ R a = i)) m = j
  | 0, _ => cntB_none (fun i => decide_eq_false (fun ⟨a, ha, _⟩ => absurd ha (Nat.not_lt_zero a))) m
  | j + 1, hj => by
    have ih := enm_cnt h hm j (by omega)
    have hR : R j < m := hm _ (h.1 j (by omega))
    have := (cnt_ins (p := fun i => decide (∃ a, a < j ∧ R a = i)) (q := fun i => decide (∃ a, a < j + 1 ∧ R a = i)) (u := R j) (decide_eq_true ⟨j, by omega, rfl⟩) (decide_eq_false (fun ⟨a, ha, e⟩ => by have := h.inj (by omega) (by omega) e; omega)) (fun w hw => by
      by_cases q : ∃ a, a < j ∧ R a = w
      · rw [decide_eq_true q]
        obtain ⟨a, ha, e⟩ := q
        exact decide_eq_true ⟨a, by omega, e⟩
      · rw [decide_eq_false q]
        refine decide_eq_false (fun ⟨a, ha, e⟩ => ?_)
        by_cases haj : a = j
        · exact hw (by rw [← e, haj])
        · exact q ⟨a, by omega, e⟩) m).2 hR
    rw [this, ih]
theorem enm_rank {R : Nat → Nat} {n m : Nat} {p : Nat → Prop} {D : Nat → Int32} (h : Enm R n p D) (hm : ∀ i, p i → i < m) {t : Nat → Bool} (ht : ∀ i, i < m → (t i = true ↔ p i)) {j : Nat} (hj : j < n) : cntB (fun i => t i && bef (D i) (nI i) (D (R j)) (nI (R j))) m = j := by
  haveI : ∀ j i, Decidable (∃ a, a < j ∧ R a = i) := fun _ _ => Classical.propDecidable _
  refine Eq.trans (cntB_congr (fun i hi => ?_)) (enm_cnt h hm j (by omega))
  cases hd : decide (∃ a, a < j ∧ R a = i) with
  | true =>
    obtain ⟨a, ha, rfl⟩ := of_decide_eq_true hd
    rw [(ht _ hi).mpr (h.1 a (by omega)), h.2.2 a j ha hj]
    rfl
  | false =>
    have hd := of_decide_eq_false hd
    cases hti : t i with
    | false => rfl
    | true =>
      obtain ⟨a, ha, rfl⟩ := h.2.1 i ((ht i hi).mp hti)
      have haj : ¬ a < j := fun q => hd ⟨a, q, rfl⟩
      rw [Bool.true_and]
      by_cases e : a = j
      · rw [e]; exact bef_irr
      · cases hb : bef (D (R a)) (nI (R a)) (D (R j)) (nI (R j)) with
        | false => rfl
        | true =>
          have := bef_trans hb (h.2.2 j a (by omega) ha)
          rw [bef_irr] at this
          cases this
/-- ranks over ids are ranks over places -/
theorem rk_tr {pr : Nat → Bool} {P t : Nat → Bool} {D D' : Nat → Int32} (hm20 : cntB pr 1000 ≤ 20) (h : ∀ w, w < 1000 → pr w = true → t (cntB pr w) = P w ∧ D' (cntB pr w) = D w) {u : Nat} (hu : u < 1000) (hp : pr u = true) : rkM (fun w => pr w && P w) D u = cntB (fun i => t i && bef (D' i) (nI i) (D' (cntB pr u)) (nI (cntB pr u))) (cntB pr 1000) := by
  unfold rkM
  refine Eq.symm ((cntB_comp (P := fun w => P w && bef (D w) (nI w) (D u) (nI u)) (fun w hw hpw => ?_)).trans (cntB_congr (fun w _ => ?_)))
  · obtain ⟨a1, a2⟩ := h w hw hpw
    obtain ⟨b1, b2⟩ := h u hu hp
    show (t _ && bef _ _ _ _) = (P w && bef _ _ _ _)
    rw [a1, a2, b2]
    refine congrArg (fun x => P w && x) ?_
    have hlw := cntB_lt hw hpw
    have hlu := cntB_lt hu hp
    have hiff : nI (cntB pr w) < nI (cntB pr u) ↔ nI w < nI u := by
      rw [nI_ltI (by omega) (by omega), nI_ltI (by omega) (by omega)]
      constructor
      · intro q
        by_cases hwu : w < u
        · exact hwu
        · have := cntB_mono (p := pr) (show u ≤ w by omega)
          omega
      · intro q
        exact cntB_lt q hpw
    unfold bef
    by_cases q1 : D w < D u
    · rw [decide_eq_true (Or.inl q1), decide_eq_true (Or.inl q1)]
    · by_cases q2 : D w = D u ∧ nI w < nI u
      · rw [decide_eq_true (Or.inr ⟨q2.1, hiff.mpr q2.2⟩), decide_eq_true (Or.inr q2)]
      · rw [decide_eq_false (fun z => z.elim q1 (fun z => q2 ⟨z.1, hiff.mp z.2⟩)), decide_eq_false (fun z => z.elim q1 q2)]
  · show (pr w && (P w && _)) = ((pr w && P w) && _)
    rw [Bool.and_assoc]
theorem goalS_ne {S : St} {a b c d : Int32} {x i : Nat} (h : x ≠ 20) (h2 : x ≠ 21) : (goalS S a b c d).1 x i = S.1 x i := by unfold goalS; rw [setRow_ne h2, setRow_ne h]
theorem goalS_21 {S : St} {a b c d : Int32} {k : Nat} (hk : k < 4) : (goalS S a b c d).1 21 k = tv S a b c d k := by unfold goalS; rw [setRow_at hk]
theorem gM_38 {S : St} {a b c d : Int32} {k : Nat} (hk : k < 4) : (gM S a b c d).1 38 k = tM S a b c d k := by unfold gM; rw [setRow_at hk]
set_option maxHeartbeats 4000000 in
theorem st_search {S : St} (h : Inv S) (a b c d k : Int32) : Stq M_q_search M_m_search [.int a, .int b, .int c, .int d, .int k] S := by
  have h0 := h
  obtain ⟨h1, ⟨ns, h2⟩, ⟨m, h3⟩, ⟨pb, rf, rs, h4⟩, n, b', h5⟩ := h
  have hE := h3.2.1
  have hT := hE.2.2.2.2.1
  have hm20 := hE.2.2.2.1
  have hcm := hE.2.2.1
  by_cases hok : srOK S a b c d k
  · have ht0 := hok.1
    have ht1 : ¬ S.1 8 3 = 0 := h3.1 ▸ ht0
    obtain ⟨kn, nl, nc, hQ, hu2⟩ := h3.2.2 ht0
    obtain ⟨hEH, hkey⟩ := h3.EH hQ hu2
    refine Ev.mono (c_q_search S (nI kn) m pb rf a b c d k (fun _ => ⟨nl, _, _, hEH⟩) h4.1 h4.2.2.1 h4.2.2.2.1 h4.2.2.2.2.2.1 (fun k hk => by rw [(h1 k hk).1]; exact (h1 k hk).2)) (fun r9 S1 hq => ?_)
    obtain ⟨hv, kk, rfl, hk1, hk8, nl', l, cc, hEH', hF, e67, e68, R0, R, hR0, hRz, hRp, hres⟩ := hq.1 hok
    refine ⟨_, hv, ?_⟩
    obtain rfl : nl' = nl := (nI_eq (by have := hEH'.2.2.2.1; omega) (by have := hQ.2.1.2.2.2; omega)).mp (hEH'.2.1.symm.trans hQ.2.1.1)
    have e1 : ∀ x i, ¬ (x = 18 ∨ x = 20 ∨ x = 21 ∨ x = 22 ∨ x = 23 ∨ x = 24 ∨ (x = 6 ∧ (i = 7 ∨ i = 8))) → S1.1 x i = S.1 x i := fun x i y => by rw [hF.2 x i (by omega), goalS_ne (by omega) (by omega)]
    have hpr1 : prM S1 = prM S := prM_keep (fun i => e1 30 i (by omega))
    have hokm : mrOk S1 a b c d (nI kk) := ⟨by rw [e1 8 3 (by omega)]; exact ht1, hok.2.1, hok.2.2⟩
    refine Ev.mono (c_m_search S1 (nI kn) nl' nc pb rf a b c d (nI kk) (fun _ => by rw [e1 8 4 (by omega), e1 8 5 (by omega), e1 8 6 (by omega)]; exact ⟨hQ.1.2.1, hQ.2.1.2.1, hQ.2.1.2.2.1, hQ.2.1.2.2.2, hQ.2.2.1.2.1, hQ.2.2.1.2.2.1, hQ.2.2.1.2.2.2⟩) (by rw [e1 8 12 (by omega)]; exact h4.2.1) h4.2.2.1 (by rw [e1 8 13 (by omega)]; exact h4.2.2.2.2.1) h4.2.2.2.2.2.1 (by rw [hpr1, ← hcm]; exact hm20) (fun k hk => by rw [e1 26 k (by omega)]; exact (h1 k hk).2)) (fun r' S2 hm => ?_)
    obtain ⟨hv', kk', hkk, -, hk8', hMS⟩ := hm.1 hokm
    obtain rfl := (nI_eq (by omega) (by omega)).mp hkk
    obtain ⟨hG, hGe⟩ : ∃ G, G = gM S1 a b c d := ⟨_, rfl⟩
    rw [← hGe] at hMS
    obtain ⟨hQg, hQe⟩ : ∃ G, G = goalS S a b c d := ⟨_, rfl⟩
    rw [← hQe] at hF e67 e68 hR0 hRp hres
    have g1 : ∀ x i, ¬ (x = 35 ∨ x = 36 ∨ x = 38) → hG.1 x i = S1.1 x i := fun x i y => by rw [hGe]; exact gM_ne y
    have gS : ∀ x i, ¬ (x = 35 ∨ x = 36 ∨ x = 38) → ¬ (x = 18 ∨ x = 20 ∨ x = 21 ∨ x = 22 ∨ x = 23 ∨ x = 24 ∨ (x = 6 ∧ (i = 7 ∨ i = 8))) → hG.1 x i = S.1 x i := fun x i y1 y2 => by rw [g1 x i y1, e1 x i y2]
    have q1 : ∀ x i, x ≠ 20 → x ≠ 21 → hQg.1 x i = S.1 x i := fun x i y1 y2 => by rw [hQe]; exact goalS_ne y1 y2
    have q2 : hQg.2 = S.2 := by rw [hQe]; rfl
    have h38 : ∀ k, k < 4 → hQg.1 21 k = hG.1 38 k := fun k hk => by
      rw [hQe, hGe, goalS_21 hk, gM_38 hk, tv_eq h1 a b c d hk]
      unfold tM
      rw [e1 26 k (by omega)]
    have hmt : ∀ u k, k < 4 → mtv hG u k = mtv S u k := fun u k hk => by
      unfold mtv
      rw [gS 26 k (by omega) (by omega)]
      exact tval_congr (h1 k hk).2 (fun z _ => gS 31 _ (by omega) (by omega))
    have hls : ∀ u, lsM hG nl' (mtv hG u) = lsM S nl' (mtv S u) := fun u => lsM_congr (fun i => gS 28 i (by omega) (by omega)) (fun k hk => hmt u k hk)
    have hlsl : ∀ u, lsM S nl' (mtv S u) < nl' := fun u => lsM_lt hQ.2.1.2.2.1
    have hnl4 := hQ.2.1.2.2.2
    have hnc1 := hQ.2.2.1.2.2.1
    have hnc4 := hQ.2.2.1.2.2.2
    have hpl := parts_le (nI kn)
    -- what stands at the place of an id
    have hl : ∀ u, u < 1000 → prM S u = true → l (cntB (prM S) u) = lsM S nl' (mtv S u) := fun u hu hp => by
      obtain ⟨p1, p2⟩ := h3.pos hu hp
      have := (hEH'.2.2.2.2.2.2.2 _ p1).1
      exact (nI_eq (by omega) (by have := hlsl u; omega)).mp (this.1.symm.trans (hu2 u hu hp).2.2.1)
    have hc : ∀ u, u < 1000 → prM S u = true → ∀ q, q < parts (nI kn) → cc (cntB (prM S) u) q = cdM hG (nI kn) nc (lfM hG (lsM hG nl' (mtv hG u)) (mtv hG u)) q := fun u hu hp q hq => by
      obtain ⟨p1, p2⟩ := h3.pos hu hp
      have hcq := (hEH'.2.2.2.2.2.2.2 _ p1).2 q hq
      have hlt := cdM_lt (S := S) (kind := nI kn) (y := lfM S (lsM S nl' (mtv S u)) (mtv S u)) (p := q) hnc1
      have e := (nI_eq (by omega) (by omega)).mp (hcq.1.symm.trans ((hu2 u hu hp).2.2.2 q hq))
      rw [e, hls u]
      refine cdM_congr hq (fun z => (gS 29 z (by omega) (by omega)).symm) (fun k hk => ?_)
      unfold lfM
      rw [hmt u k hk, gS 28 _ (by omega) (by omega)]
    have hcen : ∀ j, j < nl' → ∀ k, k < 4 → hQg.1 (104 + j) k = hG.1 28 (4 * j + k) := fun j hj k hk => by rw [q1 _ _ (by omega) (by omega), gS 28 _ (by omega) (by omega)]; exact (hQ.2.2.2.1 j hj k hk).1
    have hprb : ∀ u, u < 1000 → prM S u = true → prb hQg nl' pb l (cntB (prM S) u) = pbM hG nl' pb (lsM hG nl' (mtv hG u)) := fun u hu hp => by
      unfold prb pbM
      rw [hl u hu hp, hls u]
      have hd : ∀ j, j < nl' → dst (hQg.1 (104 + j)) (hQg.1 21) 4 = dst (fun k => hG.1 28 (4 * j + k)) (hG.1 38) 4 := fun j hj => dst_congr (hcen j hj) h38
      rw [lbef_congr (d := fun j => dst (hQg.1 (104 + j)) (hQg.1 21) 4) (e := fun j => dst (fun k => hG.1 28 (4 * j + k)) (hG.1 38) 4) (hd _ (hlsl u)) hd]
    have hexd : ∀ u, u < 1000 → prM S u = true → exd hQg (cntB (prM S) u) = mX hG u := fun u hu hp => by
      have hTu := hT _ (h3.lt20 hu hp)
      refine dst_congr h38 (fun k hk => ?_)
      rw [q2, q1 _ _ (by omega) (by omega), hmt u k hk]
      exact ((hu2 u hu hp).2.1 k hk).2.2
    have hdcd : ∀ u, u < 1000 → prM S u = true → dcd hQg (nI kn) l cc (cntB (prM S) u) = mK hG (nI kn) nl' nc u := fun u hu hp => by
      unfold dcd mK
      by_cases hk2 : nI kn = nI 2
      · rw [if_pos hk2, if_pos hk2]
        exact hexd u hu hp
      · rw [if_neg hk2, if_neg hk2]
        refine wsum_eq (nc := nc) (fun k hk => ?_) (fun p hp j hj k hk => ?_) (fun p hp' => ⟨hc u hu hp p hp', cdM_lt hnc1⟩) _ (Nat.le_refl _)
        · unfold lfOf lfM
          rw [hl u hu hp, hls u, h38 k hk, hcen _ (hlsl u) k hk]
        · rw [q1 _ _ (by omega) (by omega), gS 29 _ (by omega) (by omega)]
          exact (hQ.2.2.2.2 p hp j hj k hk).1
    have hA : pmM hG nl' pb = fun w => prM S w && pbM hG nl' pb (lsM hG nl' (mtv hG w)) := by
      funext w
      unfold pmM prM
      rw [gS 30 w (by omega) (by omega)]
    have hcnt : cntB (pmM hG nl' pb) 1000 = cntB (prb hQg nl' pb l) m := by
      rw [hA, hcm]
      exact (cntB_comp hprb).symm
    have hm20' : cntB (prM S) 1000 ≤ 20 := by rw [← hcm]; exact hm20
    obtain ⟨q, hqe⟩ : ∃ q, q = cntB (prb hQg nl' pb l) m := ⟨_, rfl⟩
    rw [← hqe] at e67 e68 hR0 hRp hres hcnt
    obtain ⟨s1, s2, s3, s4, s5⟩ := hMS
    rw [hcnt] at s2 s3
    have sk : ∀ x i, ¬ (x = 32 ∨ x = 33 ∨ x = 35 ∨ x = 36 ∨ x = 37 ∨ x = 38 ∨ x = 44 ∨ x = 45 ∨ x = 46 ∨ x = 47 ∨ (x = 8 ∧ (i = 16 ∨ i = 17))) → S2.1 x i = S1.1 x i := fun x i y => by rw [s1.2 x i (by omega), g1 x i (by omega)]
    have ek : ∀ x i, ¬ (x = 32 ∨ x = 33 ∨ x = 35 ∨ x = 36 ∨ x = 37 ∨ x = 38 ∨ x = 44 ∨ x = 45 ∨ x = 46 ∨ x = 47 ∨ (x = 8 ∧ (i = 16 ∨ i = 17))) → ¬ (x = 18 ∨ x = 20 ∨ x = 21 ∨ x = 22 ∨ x = 23 ∨ x = 24 ∨ (x = 6 ∧ (i = 7 ∨ i = 8))) → S2.1 x i = S.1 x i := fun x i y1 y2 => by rw [sk x i y1, e1 x i y2]
    have e22 : S2.2 = S.2 := by rw [s1.1, hGe]; show S1.2 = S.2; rw [hF.1, q2]
    have rk1 : ∀ u, u < 1000 → prM S u = true → rkM (pmM hG nl' pb) (mK hG (nI kn) nl' nc) u = cntB (fun i => prb hQg nl' pb l i && bef (dcd hQg (nI kn) l cc i) (nI i) (dcd hQg (nI kn) l cc (cntB (prM S) u)) (nI (cntB (prM S) u))) m := fun u hu hp => by
      rw [hA, hcm]
      exact rk_tr hm20' (fun w hw hpw => ⟨hprb w hw hpw, hdcd w hw hpw⟩) hu hp
    have rkR0 : ∀ j, j < q → ∀ u, u < 1000 → prM S u = true → cntB (prM S) u = R0 j → rkM (pmM hG nl' pb) (mK hG (nI kn) nl' nc) u = j := fun j hj u hu hp e => by
      rw [rk1 u hu hp, e]
      exact enm_rank hR0 (fun i hi => hi.1) (fun i hi => ⟨fun z => ⟨hi, z⟩, fun z => z.2⟩) hj
    have hpmu : ∀ u, u < 1000 → prM S u = true → prb hQg nl' pb l (cntB (prM S) u) = true → pmM hG nl' pb u = true := fun u hu hp z => by
      rw [hA]
      show (prM S u && _) = true
      rw [hp, ← hprb u hu hp, z]
      rfl
    have hidr : ∀ u, u < 1000 → prM S u = true → hQg.1 (hQg.2 (cntB (prM S) u)) 3 = nI u := fun u hu hp => by
      have hTu := hT _ (h3.lt20 hu hp)
      rw [q2, q1 _ _ (by omega) (by omega)]
      exact (hu2 u hu hp).1
    refine ⟨by rw [hv', s3, e68], h1.keep (fun x i y => ek x i (by unfold inT at y; omega) (by unfold inT at y; omega)), ⟨ns, h2.keep (fun x i y => ek x i (by unfold inS at y; omega) (by unfold inS at y; omega))⟩, ⟨m, h3.keep h1 e22 (fun x i y => ek x i (by unfold inM at y; omega) (by unfold inM at y; omega))⟩, ⟨pb, rf, min kk q, ?_⟩, n, b', h5.keep (fun x i y => ek x i (by unfold inB at y; omega) (by unfold inB at y; omega))⟩
    refine ⟨by rw [ek 6 5 (by omega) (by omega)]; exact h4.1, by rw [ek 8 12 (by omega) (by omega)]; exact h4.2.1, h4.2.2.1, by rw [ek 6 6 (by omega) (by omega)]; exact h4.2.2.2.1, by rw [ek 8 13 (by omega) (by omega)]; exact h4.2.2.2.2.1, h4.2.2.2.2.2.1, by rw [sk 6 7 (by omega), e67, s2], by rw [sk 6 8 (by omega), e68], s3, by omega, fun j hj => ?_⟩
    rw [sk 24 j (by omega), sk 23 j (by omega)]
    obtain ⟨r1, r2⟩ := hres j hj
    rw [r1, r2]
    by_cases hrf : rf = 0
    · have hRe := hRz hrf
      subst hRe
      obtain ⟨z1, z2⟩ := hR0.1 j (by omega)
      obtain ⟨u, hu, hp, hcu⟩ := h3.at z1
      have hrk := rkR0 j (by omega) u hu hp hcu
      obtain ⟨w1, w2⟩ := s4 hrf u hu (hpmu u hu hp (by rw [hcu]; exact z2)) (by rw [hrk]; omega)
      rw [hrk] at w1 w2
      rw [w1, w2, if_pos hrf, ← hcu, hidr u hu hp, hdcd u hu hp]
      exact ⟨rfl, rfl⟩
    · have hrf0 : 0 < rf := by omega
      have hRn := hRp hrf0
      have hkr : kk ≤ kk * rf := Nat.le_mul_of_pos_right kk hrf0
      obtain ⟨j0, hj0, hRj⟩ := hRn.1 j (by omega)
      obtain ⟨z1, z2⟩ := hR0.1 j0 (by omega)
      rw [hRj] at z1 z2
      obtain ⟨u, hu, hp, hcu⟩ := h3.at z1
      have hrk := rkR0 j0 (by omega) u hu hp (hcu.trans hRj.symm)
      -- the taken ones
      have htk : ∀ i, i < m → ((prb hQg nl' pb l i && decide (cntB (fun i' => prb hQg nl' pb l i' && bef (dcd hQg (nI kn) l cc i') (nI i') (dcd hQg (nI kn) l cc i) (nI i)) m < kk * rf)) = true ↔ ∃ j, j < min (kk * rf) q ∧ R0 j = i) := fun i hi => by
        rw [Bool.and_eq_true, decide_eq_true_iff]
        constructor
        · intro ⟨y1, y2⟩
          obtain ⟨j', hj', e⟩ := hR0.2.1 i ⟨hi, y1⟩
          have := enm_rank hR0 (m := m) (t := prb hQg nl' pb l) (fun i hi => hi.1) (fun i hi => ⟨fun z => ⟨hi, z⟩, fun z => z.2⟩) hj'
          rw [e] at this
          exact ⟨j', by omega, e⟩
        · intro ⟨j', hj', e⟩
          have := enm_rank hR0 (m := m) (t := prb hQg nl' pb l) (fun i hi => hi.1) (fun i hi => ⟨fun z => ⟨hi, z⟩, fun z => z.2⟩) (show j' < q by omega)
          rw [e] at this
          refine ⟨?_, by omega⟩
          rw [← e]
          exact (hR0.1 j' (by omega)).2
      have hB : (fun w => pmM hG nl' pb w && decide (rkM (pmM hG nl' pb) (mK hG (nI kn) nl' nc) w < kk * rf)) = fun w => prM S w && (pbM hG nl' pb (lsM hG nl' (mtv hG w)) && decide (rkM (pmM hG nl' pb) (mK hG (nI kn) nl' nc) w < kk * rf)) := by
        funext w
        have := congrFun hA w
        rw [Bool.eq_iff_iff]
        rw [this]
        simp only [Bool.and_eq_true]
        constructor
        · exact fun ⟨⟨a1, a2⟩, a3⟩ => ⟨a1, a2, a3⟩
        · exact fun ⟨a1, a2, a3⟩ => ⟨⟨a1, a2⟩, a3⟩
      have hrk2 : rkM (fun w => pmM hG nl' pb w && decide (rkM (pmM hG nl' pb) (mK hG (nI kn) nl' nc) w < kk * rf)) (mX hG) u = j := by
        rw [hB]
        refine (rk_tr hm20' (t := fun i => prb hQg nl' pb l i && decide (cntB (fun i' => prb hQg nl' pb l i' && bef (dcd hQg (nI kn) l cc i') (nI i') (dcd hQg (nI kn) l cc i) (nI i)) m < kk * rf)) (D' := exd hQg) (fun w hw hpw => ⟨?_, hexd w hw hpw⟩) hu hp).trans ?_
        · show (prb hQg nl' pb l (cntB (prM S) w) && decide _) = (_ && decide _)
          rw [hprb w hw hpw, rk1 w hw hpw]
        · rw [← hcm, hcu]
          refine enm_rank hRn (fun i ⟨j', hj', e⟩ => ?_) htk (by omega)
          rw [← e]
          exact (hR0.1 j' (by omega)).1
      obtain ⟨w1, w2⟩ := s5 hrf0 u hu (hpmu u hu hp (by rw [hcu]; exact z2)) (by rw [hrk]; omega) (by rw [hrk2]; omega)
      rw [hrk2] at w1 w2
      rw [w1, w2, if_neg hrf, ← hcu, hidr u hu hp, hexd u hu hp]
      exact ⟨rfl, rfl⟩
  · have hokm : ¬ mrOk S a b c d k := fun q => hok ⟨h3.1 ▸ q.1, q.2.1, q.2.2⟩
    have hEx : ¬ S.1 4 3 = 0 → ∃ nl l cc, EH S (S.1 4 4) nl m l cc := fun q => by
      obtain ⟨kn, nl, nc, hQ, hu2⟩ := h3.2.2 q
      exact ⟨nl, _, _, by rw [hQ.1.1]; exact (h3.EH hQ hu2).1⟩
    refine Ev.mono (c_q_search S (S.1 4 4) m pb rf a b c d k hEx h4.1 h4.2.2.1 h4.2.2.2.1 h4.2.2.2.2.2.1 (fun k hk => by rw [(h1 k hk).1]; exact (h1 k hk).2)) (fun r9 S1 hq => ?_)
    obtain ⟨hv, rfl⟩ := hq.2 hok
    refine ⟨_, hv, ?_⟩
    have hEy : ∃ nl nc, ¬ S1.1 8 3 = 0 → S1.1 8 4 = S1.1 8 4 ∧ S1.1 8 5 = nI nl ∧ 0 < nl ∧ nl ≤ 4 ∧ S1.1 8 6 = nI nc ∧ 0 < nc ∧ nc ≤ 4 := by
      by_cases q : S1.1 4 3 = 0
      · exact ⟨0, 0, fun z => absurd (h3.1 ▸ q) z⟩
      · obtain ⟨kn, nl, nc, hQ, hu2⟩ := h3.2.2 q
        exact ⟨nl, nc, fun _ => ⟨rfl, hQ.2.1.2.1, hQ.2.1.2.2.1, hQ.2.1.2.2.2, hQ.2.2.1.2.1, hQ.2.2.1.2.2.1, hQ.2.2.1.2.2.2⟩⟩
    obtain ⟨nl, nc, hEy⟩ := hEy
    refine Ev.mono (c_m_search S1 (S1.1 8 4) nl nc pb rf a b c d k hEy h4.2.1 h4.2.2.1 h4.2.2.2.2.1 h4.2.2.2.2.2.1 (by rw [← hcm]; exact hm20) (fun k hk => (h1 k hk).2)) (fun r' S2 hm => ?_)
    obtain ⟨rfl, rfl⟩ := hm.2 hokm
    refine ⟨?_, h0.keep rfl (fun x i q => setRow_ne (by unfold inT inS inM inF inB at q; omega))⟩
    unfold mrR srR
    rw [h3.1]
