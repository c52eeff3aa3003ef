/-! remove and add. -/
theorem tv_eq {S : St} (h : InvT S) (a b c d : Int32) {k : Nat} (hk : k < 4) : tv S a b c d k = tM S a b c d k := by
  unfold tv tM
  rw [(h k hk).1]
theorem lsOf_eq {S : St} {kn nl nc : Nat} (h : QH S kn nl nc) {x y : Nat → Int32} (hx : ∀ k, k < 4 → x k = y k) : lsOf S nl x = lsM S nl y := near_congr (fun l hl => dst_congr (fun k hk => (h.2.2.2.1 l hl k hk).1) hx)
theorem lfOf_eq {S : St} {kn nl nc : Nat} (h : QH S kn nl nc) {x y : Nat → Int32} (hx : ∀ k, k < 4 → x k = y k) {l : Nat} (hl : l < nl) {k : Nat} (hk : k < 4) : lfOf S l x k = lfM S l y k := by
  unfold lfOf lfM
  rw [hx k hk, (h.2.2.2.1 l hl k hk).1]
theorem wdOf_eq {S : St} {kn nl nc : Nat} (h : QH S kn nl nc) {x y : Nat → Int32} (hx : ∀ k, k < 4 → x k = y k) {p : Nat} (hp : p < parts (nI kn)) {j : Nat} (hj : j < nc) : wdOf S (nI kn) x p j = wdM S (nI kn) y p j := dst_congr (fun k hk => (h.2.2.2.2 p hp j hj k hk).1) (fun k hk => hx _ (pw_in hp hk))
theorem cdOf_eq {S : St} {kn nl nc : Nat} (h : QH S kn nl nc) {x y : Nat → Int32} (hx : ∀ k, k < 4 → x k = y k) {p : Nat} (hp : p < parts (nI kn)) : cdOf S (nI kn) nc x p = cdM S (nI kn) nc y p := near_congr (fun j hj => wdOf_eq h hx hp hj)
theorem InvM.lt20 {S : St} {m : Nat} (h : InvM S m) {u : Nat} (hu : u < 1000) (hp : prM S u = true) : cntB (prM S) u < 20 := by
  have := (h.pos hu hp).1
  have h20 := h.2.1.2.2.2.1
  omega
theorem st_remove {S : St} (h : Inv S) (v : Int32) : Stq M_q_remove M_m_remove [.int v] S := by
  have h0 := h
  obtain ⟨h1, ⟨ns, h2⟩, ⟨m, h3⟩, ⟨pb, rf, rs, h4⟩, n, b', h5⟩ := h
  have hE := h3.2.1
  have hT := hE.2.2.2.2.1
  have hinj := hE.2.2.2.2.2.1
  have hm20 := hE.2.2.2.1
  refine Ev.mono (c_q_remove S v m hE.1 hm20 hT) (fun r S1 hq => ⟨_, hq.1, ?_⟩)
  obtain ⟨-, hq1, hq2⟩ := hq
  by_cases ht : thr S v
  · obtain ⟨u, hu, rfl, hp⟩ := thr_nI.mp ht
    rw [h3.find hu hp] at hq1 ⊢
    obtain ⟨hfm, hid⟩ := h3.pos hu hp
    obtain ⟨g1, g2⟩ := hq1 hfm
    have e1 : ∀ x i, ¬ (x = 5 ∧ i = 1) → S1.1 x i = S.1 x i := fun x i q => by rw [g1, put_ne q]
    have ht1 : thr S1 (nI u) := thr_nI.mpr ⟨u, hu, rfl, by unfold prM; rw [e1 30 u (by omega)]; exact hp⟩
    refine Ev.mono (c_m_remove S1 (nI u) m (by rw [e1 8 11 (by omega)]; exact hE.2.1) (fun _ => by omega)) (fun r' S2 hm => ?_)
    obtain ⟨rfl, hS⟩ := hm.1 ht1
    rw [nI_clamp (by omega)] at hS
    refine ⟨rb1 (decide_eq_true hfm), ?_⟩
    have e51 : S2.1 5 1 = nI (m - 1) := by rw [hS, put_ne (by omega), put_ne (by omega), g1, put_at]
    have e811 : S2.1 8 11 = nI (m - 1) := by rw [hS, put_at]
    have e30 : S2.1 30 u = nI 0 := by rw [hS, put_ne (by omega), put_at]
    have ek : ∀ x i, ¬ (x = 5 ∧ i = 1) → ¬ (x = 30 ∧ i = u) → ¬ (x = 8 ∧ i = 11) → S2.1 x i = S.1 x i := fun x i y1 y2 y3 => by rw [hS, put_ne y3, put_ne y2, e1 x i y1]
    have es : S2.2 = S1.2 := by rw [hS]; rfl
    have hci := cnt_ins (p := prM S2) (q := prM S) (u := u) hp (by unfold prM; rw [e30]; rfl) (fun w hw => by unfold prM; rw [ek 30 w (by omega) (by omega) (by omega)])
    have c1000 := (hci 1000).2 hu
    have hcm := hE.2.2.1
    obtain ⟨f, hf⟩ : ∃ f, f = cntB (prM S) u := ⟨_, rfl⟩
    rw [← hf] at g2 hfm
    have hsg : ∃ sg : Nat → Nat, (∀ i, S2.2 i = S.2 (sg i)) ∧ (∀ i, i < 20 → sg i < 20) ∧ (∀ i j, sg i = sg j → i = j) ∧ (∀ i, i < f → sg i = i) ∧ ∀ i, f ≤ i → i < m - 1 → sg i = i + 1 := by
      refine ⟨fun i => if f ≤ i ∧ i < m - 1 then i + 1 else if i = m - 1 then f else i, fun i => ?_, fun i hi => ?_, fun i j hij => ?_, fun i hi => ?_, fun i h1 h2 => if_pos ⟨h1, h2⟩⟩
      · rw [es, g2 i]
        dsimp only
        by_cases a1 : f ≤ i ∧ i < m - 1
        · rw [if_pos a1, if_pos a1]
        · rw [if_neg a1, if_neg a1]
          by_cases a2 : i = m - 1
          · rw [if_pos a2, if_pos a2]
          · rw [if_neg a2, if_neg a2]
      · dsimp only
        split
        · omega
        · split <;> omega
      · dsimp only at hij
        by_cases a1 : f ≤ i ∧ i < m - 1
        · rw [if_pos a1] at hij
          by_cases a2 : f ≤ j ∧ j < m - 1
          · rw [if_pos a2] at hij; omega
          · rw [if_neg a2] at hij
            by_cases a3 : j = m - 1
            · rw [if_pos a3] at hij; omega
            · rw [if_neg a3] at hij; omega
        · rw [if_neg a1] at hij
          by_cases a2 : f ≤ j ∧ j < m - 1
          · rw [if_pos a2] at hij
            by_cases a3 : i = m - 1
            · rw [if_pos a3] at hij; omega
            · rw [if_neg a3] at hij; omega
          · rw [if_neg a2] at hij
            by_cases a3 : i = m - 1
            · rw [if_pos a3] at hij
              by_cases a4 : j = m - 1
              · omega
              · rw [if_neg a4] at hij; omega
            · rw [if_neg a3] at hij
              by_cases a4 : j = m - 1
              · rw [if_pos a4] at hij; omega
              · rw [if_neg a4] at hij; omega
      · dsimp only
        rw [if_neg (by omega), if_neg (by omega)]
    obtain ⟨sg, s1, s2, s3, s4, s5⟩ := hsg
    have ht0 := h3.tr hu hp
    obtain ⟨kn, nl, nc, hQ, hu2⟩ := h3.2.2 ht0
    refine ⟨h1.keep (fun x i q => ek x i (by unfold inT at q; omega) (by unfold inT at q; omega) (by unfold inT at q; omega)), ⟨ns, h2.keep (fun x i q => ek x i (by unfold inS at q; omega) (by unfold inS at q; omega) (by unfold inS at q; omega))⟩, ⟨m - 1, by rw [ek 4 3 (by omega) (by omega) (by omega), ek 8 3 (by omega) (by omega) (by omega)]; exact h3.1, ⟨e51, e811, by omega, by omega, fun i hi => by rw [s1 i]; exact hT _ (s2 i hi), fun i j hi hj hij => ?_, fun q => absurd ((ek 4 3 (by omega) (by omega) (by omega)).symm.trans q) ht0⟩, fun _ => ⟨kn, nl, nc, hQ.keep (fun x i q => ek x i (by omega) (by omega) (by omega)), fun w hw hpw => ?_⟩⟩, ⟨pb, rf, rs, h4.keep (fun x i q => ek x i (by unfold inF at q; omega) (by unfold inF at q; omega) (by unfold inF at q; omega))⟩, n, b', h5.keep (fun x i q => ek x i (by unfold inB at q; omega) (by unfold inB at q; omega) (by unfold inB at q; omega))⟩
    · rw [s1 i, s1 j] at hij
      exact s3 i j (hinj _ _ (s2 i hi) (s2 j hj) hij)
    · have hwu : w ≠ u := fun z => by rw [z] at hpw; unfold prM at hpw; rw [e30] at hpw; cases hpw
      have hpw' : prM S w = true := by
        unfold prM at hpw ⊢
        rw [ek 30 w (by omega) (by omega) (by omega)] at hpw
        exact hpw
      obtain ⟨q1, q2⟩ := h3.pos hw hpw'
      have hTw := hT _ (h3.lt20 hw hpw')
      have e2 : S2.2 (cntB (prM S2) w) = S.2 (cntB (prM S) w) := by
        by_cases hlt : w < u
        · have c1 := (hci w).1 (by omega)
          have c2 := cntB_lt hlt hpw'
          rw [s1, s4 _ (by omega), c1]
        · have c1 := (hci w).2 (by omega)
          have c2 := cntB_lt (show u < w by omega) hp
          rw [s1, s5 _ (by omega) (by omega), c1]
      exact (hu2 w hw hpw').keep hTw e2 (fun z => ek 26 z (by omega) (by omega) (by omega)) (fun z => ek 28 z (by omega) (by omega) (by omega)) (fun z => ek 29 z (by omega) (by omega) (by omega)) (fun k _ => ek 31 _ (by omega) (by omega) (by omega)) (fun k hk => (h1 k hk).2) (fun x z q => ek x z (by omega) (by omega) (by omega))
  · have hnf := h3.nofind ht
    obtain rfl := hq2 hnf
    refine Ev.mono (c_m_remove S1 v m hE.2.1 (fun q => absurd q ht)) (fun r' S2 hm => ?_)
    obtain ⟨rfl, rfl⟩ := hm.2 ht
    exact ⟨rb0 (decide_eq_false hnf), h0⟩
theorem st_add {S : St} (h : Inv S) (v a b c d : Int32) : Stq M_q_add M_m_add [.int v, .int a, .int b, .int c, .int d] S := by
  have h0 := h
  obtain ⟨h1, ⟨ns, h2⟩, ⟨m, h3⟩, ⟨pb, rf, rs, h4⟩, n, b', h5⟩ := h
  have hE := h3.2.1
  have hT := hE.2.2.2.2.1
  have hinj := hE.2.2.2.2.2.1
  have hm20 := hE.2.2.2.1
  by_cases ht0 : S.1 4 3 = 0
  · have ht1 : S.1 8 3 = 0 := h3.1 ▸ ht0
    refine Ev.mono (c_q_add S _ 0 0 m v a b c d rfl (fun q => absurd ht0 q) hE.1 hm20 hT (fun hm i hi q => by have := hinj i m (by omega) (by omega) q; omega) (fun k hk => by rw [(h1 k hk).1]; exact (h1 k hk).2)) (fun r S1 hq => ⟨_, hq.1, ?_⟩)
    obtain rfl := hq.2.2 (fun q => q.1 ht0)
    refine Ev.mono (c_m_add S1 0 m v a b c d (fun q => absurd ht1 q) hE.2.1 hm20 (fun k hk => (h1 k hk).2)) (fun r' S2 hm => ?_)
    refine ⟨?_, h0.FrG (hm.2.2 (fun q => q.1 ht1))⟩
    rw [hm.1]
    unfold mdR adR
    rw [if_pos ht1, if_pos ht0]
  · have ht1 : ¬ S.1 8 3 = 0 := h3.1 ▸ ht0
    obtain ⟨kn, nl, nc, hQ, hu2⟩ := h3.2.2 ht0
    refine Ev.mono (c_q_add S (nI kn) nl nc m v a b c d hQ.1.1 (fun _ => ⟨hQ.2.1.1, hQ.2.1.2.2.1, hQ.2.1.2.2.2, hQ.2.2.1.1, hQ.2.2.1.2.2.1, hQ.2.2.1.2.2.2⟩) hE.1 hm20 hT (fun hm i hi q => by have := hinj i m (by omega) (by omega) q; omega) (fun k hk => by rw [(h1 k hk).1]; exact (h1 k hk).2)) (fun r S1 hq => ⟨_, hq.1, ?_⟩)
    obtain ⟨-, hq1, hq2⟩ := hq
    have hls : lsOf S nl (tv S a b c d) = lsM S nl (tM S a b c d) := lsOf_eq hQ (fun k hk => tv_eq h1 a b c d hk)
    by_cases hv : nI 0 ≤ v ∧ v ≤ nI 999
    · obtain ⟨u, -, hu9, rfl⟩ := nI_in2 hv (by decide) (by decide)
      have hu : u < 1000 := by omega
      have hpr : (¬ S.1 30 u = 0) ↔ ffind (fun i => S.1 (S.2 i) 3) (nI u) m < m := by
        constructor
        · intro q
          rw [h3.find hu (decide_eq_true q)]
          exact (h3.pos hu (decide_eq_true q)).1
        · intro q z
          refine h3.nofind (v := nI u) (fun w => ?_) q
          obtain ⟨u', hu', e, hp'⟩ := thr_nI.mp w
          have := (nI_eq (by omega) (by omega)).mp e
          subst this
          exact of_decide_eq_true hp' z
      by_cases hok : adOK S m (nI u) a b c d
      · obtain ⟨p, hPE⟩ := hq1 hok
        obtain ⟨-, -, hbad, hnf, hm19⟩ := hok
        obtain ⟨p1, p2, p3, p4, p5, p6, p7, p8, p9, p10⟩ := hPE
        have hTm := hT m hm19
        have hnp : prM S u = false := decide_eq_false (fun q => hnf (hpr.mp q))
        have e1 : ∀ x i, ¬ (124 ≤ x ∧ x < 204) → x ≠ 18 → ¬ (x = 5 ∧ i = 1) → S1.1 x i = S.1 x i := fun x i y1 y2 y3 => p5 x i (by omega)
        have hokm : mdOK S1 m (nI u) a b c d := ⟨by rw [e1 8 3 (by omega) (by omega) (by omega)]; exact ht1, hv, hbad, by rw [nI_clamp (by omega), e1 30 u (by omega) (by omega) (by omega)]; exact Classical.not_not.mp (fun q => hnf (hpr.mp q)), by omega⟩
        refine Ev.mono (c_m_add S1 nl m (nI u) a b c d (fun _ => ⟨by rw [e1 8 5 (by omega) (by omega) (by omega)]; exact hQ.2.1.2.1, hQ.2.1.2.2.1, hQ.2.1.2.2.2⟩) (by rw [e1 8 11 (by omega) (by omega) (by omega)]; exact hE.2.1) hm20 (fun k hk => by rw [e1 26 k (by omega) (by omega) (by omega)]; exact (h1 k hk).2)) (fun r' S2 hm => ?_)
        obtain ⟨hr, hm1, -⟩ := hm
        obtain ⟨m1, m2, m3, m4, m5⟩ := hm1 hokm
        rw [nI_clamp (by omega)] at m2 m4 m5
        have ek : ∀ x i, ¬ (x = S.2 m ∨ x = S.2 m + 20 ∨ x = S.2 m + 40 ∨ x = S.2 m + 60 ∨ x = 18 ∨ (x = 5 ∧ i = 1)) → ¬ (x = 30 ∧ i = u) → ¬ (x = 8 ∧ i = 11) → ¬ (x = 31 ∧ 4 * u ≤ i ∧ i < 4 * u + 4) → ¬ (x = 35 ∨ x = 36) → S2.1 x i = S.1 x i := fun x i y1 y2 y3 y4 y5 => by rw [m5 x i y2 y3 y4 y5, p5 x i y1]
        have en : ∀ x i, (124 ≤ x ∧ x < 204) → S2.1 x i = S1.1 x i := fun x i y => m5 x i (by omega) (by omega) (by omega) (by omega)
        refine ⟨?_, ?_⟩
        · rw [hr]
          unfold mdR adR
          rw [if_neg hokm.1, if_neg (fun q => q hv), if_neg (by rw [hbad]; decide), if_neg (fun q => q hokm.2.2.2.1), if_neg hokm.2.2.2.2, if_neg ht0, if_neg (fun q => q hv), if_neg (by rw [hbad]; decide), if_neg hnf, if_neg (fun q => q hm19), hls]
          refine congrArg (fun x => some (Value.int (nI x))) (lsM_congr (fun i => e1 28 i (by omega) (by omega) (by omega)) (fun k hk => ?_))
          show tval _ _ = tval _ _
          rw [e1 26 k (by omega) (by omega) (by omega)]
        · have hcu : p = cntB (prM S) u := by
            have hcm := hE.2.2.1
            have hcle : cntB (prM S) u ≤ m := by rw [hcm]; exact cntB_mono (by omega)
            by_cases hlt : cntB (prM S) u < p
            · obtain ⟨w, hw, hpw, hcw⟩ := h3.at (show p - 1 < m by omega)
              have hidw := (h3.pos hw hpw).2
              rw [hcw] at hidw
              have hle := p3 (by omega)
              rw [hidw, nI_leI (by omega) (by omega)] at hle
              have hne : w ≠ u := fun z => by rw [z, hnp] at hpw; cases hpw
              have := cntB_lt (show w < u by omega) hpw
              omega
            · by_cases hgt : p < cntB (prM S) u
              · obtain ⟨w, hw, hpw, hcw⟩ := h3.at (show cntB (prM S) u - 1 < m by omega)
                have hidw := (h3.pos hw hpw).2
                rw [hcw] at hidw
                have hle := p2 (cntB (prM S) u - 1) (by omega) (by omega)
                rw [hidw, nI_leI (by omega) (by omega)] at hle
                have := cntB_mono (p := prM S) (show u ≤ w by omega)
                omega
              · omega
          have hp2u : prM S2 u = true := by unfold prM; rw [m2]; rfl
          have hci := cnt_ins (p := prM S) (q := prM S2) (u := u) hp2u hnp (fun w hw => by unfold prM; rw [ek 30 w (by omega) (by omega) (by omega) (by omega) (by omega)])
          have c1000 := (hci 1000).2 hu
          have hcm := hE.2.2.1
          have hsg : ∃ sg : Nat → Nat, (∀ i, S2.2 i = S.2 (sg i)) ∧ (∀ i, i < 20 → sg i < 20) ∧ (∀ i j, sg i = sg j → i = j) ∧ (∀ i, i < p → sg i = i) ∧ (sg p = m) ∧ ∀ i, p ≤ i → i < m → sg (i + 1) = i := by
            refine ⟨fun i => if i = p then m else if p < i ∧ i ≤ m then i - 1 else i, fun i => ?_, fun i hi => ?_, fun i j hij => ?_, fun i hi => ?_, if_pos rfl, fun i y1 y2 => ?_⟩
            · rw [m1, p4 i]
              dsimp only
              by_cases a1 : i = p
              · rw [if_pos a1, if_pos a1]
              · rw [if_neg a1, if_neg a1]
                by_cases a2 : p < i ∧ i ≤ m
                · rw [if_pos a2, if_pos a2]
                · rw [if_neg a2, if_neg a2]
            · dsimp only
              split
              · omega
              · split <;> omega
            · dsimp only at hij
              by_cases a1 : i = p
              · rw [if_pos a1] at hij
                by_cases a2 : j = p
                · omega
                · rw [if_neg a2] at hij
                  by_cases a3 : p < j ∧ j ≤ m
                  · rw [if_pos a3] at hij; omega
                  · rw [if_neg a3] at hij; omega
              · rw [if_neg a1] at hij
                by_cases a2 : j = p
                · rw [if_pos a2] at hij
                  by_cases a3 : p < i ∧ i ≤ m
                  · rw [if_pos a3] at hij; omega
                  · rw [if_neg a3] at hij; omega
                · rw [if_neg a2] at hij
                  by_cases a3 : p < i ∧ i ≤ m
                  · rw [if_pos a3] at hij
                    by_cases a4 : p < j ∧ j ≤ m
                    · rw [if_pos a4] at hij; omega
                    · rw [if_neg a4] at hij; omega
                  · rw [if_neg a3] at hij
                    by_cases a4 : p < j ∧ j ≤ m
                    · rw [if_pos a4] at hij; omega
                    · rw [if_neg a4] at hij; omega
            · dsimp only
              rw [if_neg (by omega), if_neg (by omega)]
            · dsimp only
              rw [if_neg (by omega), if_pos (by omega)]
              omega
          obtain ⟨sg, s1, s2, s3, s4, s5, s6⟩ := hsg
          have h26 : ∀ z, S2.1 26 z = S.1 26 z := fun z => ek 26 z (by omega) (by omega) (by omega) (by omega) (by omega)
          have h28 : ∀ z, S2.1 28 z = S.1 28 z := fun z => ek 28 z (by omega) (by omega) (by omega) (by omega) (by omega)
          have h29 : ∀ z, S2.1 29 z = S.1 29 z := fun z => ek 29 z (by omega) (by omega) (by omega) (by omega) (by omega)
          refine ⟨h1.keep (fun x i q => ek x i (by unfold inT at q; omega) (by unfold inT at q; omega) (by unfold inT at q; omega) (by unfold inT at q; omega) (by unfold inT at q; omega)), ⟨ns, h2.keep (fun x i q => ek x i (by unfold inS at q; omega) (by unfold inS at q; omega) (by unfold inS at q; omega) (by unfold inS at q; omega) (by unfold inS at q; omega))⟩, ⟨m + 1, by rw [ek 4 3 (by omega) (by omega) (by omega) (by omega) (by omega), ek 8 3 (by omega) (by omega) (by omega) (by omega) (by omega)]; exact h3.1, ⟨by rw [m5 5 1 (by omega) (by omega) (by omega) (by omega)]; exact p6, m3, by omega, by omega, fun i hi => by rw [s1 i]; exact hT _ (s2 i hi), fun i j hi hj hij => ?_, fun q => absurd ((ek 4 3 (by omega) (by omega) (by omega) (by omega) (by omega)).symm.trans q) ht0⟩, fun _ => ⟨kn, nl, nc, hQ.keep (fun x i q => ek x i (by omega) (by omega) (by omega) (by omega) (by omega)), fun w hw hpw => ?_⟩⟩, ⟨pb, rf, rs, h4.keep (fun x i q => ek x i (by unfold inF at q; omega) (by unfold inF at q; omega) (by unfold inF at q; omega) (by unfold inF at q; omega) (by unfold inF at q; omega))⟩, n, b', h5.keep (fun x i q => ek x i (by unfold inB at q; omega) (by unfold inB at q; omega) (by unfold inB at q; omega) (by unfold inB at q; omega) (by unfold inB at q; omega))⟩
          · rw [s1 i, s1 j] at hij
            exact s3 i j (hinj _ _ (s2 i hi) (s2 j hj) hij)
          · by_cases hwu : w = u
            · subst hwu
              have c1 := (hci w).1 (Nat.le_refl w)
              have em : ∀ k, k < 4 → mtv S2 w k = tM S a b c d k := fun k hk => by
                unfold mtv tM
                rw [h26 k]
                exact tval_congr (h1 k hk).2 (fun z hz => m4 z hz)
              have el : lsM S2 nl (mtv S2 w) = lsM S nl (tM S a b c d) := lsM_congr h28 em
              have ep : S2.2 (cntB (prM S2) w) = S.2 m := by rw [c1, ← hcu, s1, s5]
              unfold EE1
              rw [ep, el]
              refine ⟨by rw [en _ _ (by omega)]; exact p7, fun k hk => ⟨?_, ?_, ?_⟩, ?_, fun q hq => ?_⟩
              · rw [en _ _ (by omega), (p9 k hk).1, m4 k hk]
              · rw [m4 k hk]
                exact pt_bd hbad hk
              · rw [en _ _ (by omega), (p9 k hk).2, em k hk]
                exact tv_eq h1 a b c d hk
              · rw [en _ _ (by omega), p8, hls]
              · rw [en _ _ (by omega), p10 q hq, hls]
                refine congrArg nI ((cdOf_eq hQ (fun k hk => lfOf_eq hQ (fun k hk => tv_eq h1 a b c d hk) (lsM_lt hQ.2.1.2.2.1) hk) hq).trans (cdM_congr hq (fun z => (h29 z).symm) (fun k hk => ?_)))
                unfold lfM
                rw [em k hk, h28]
            · have hpw' : prM S w = true := by
                unfold prM at hpw ⊢
                rw [ek 30 w (by omega) (by omega) (by omega) (by omega) (by omega)] at hpw
                exact hpw
              obtain ⟨q1, q2⟩ := h3.pos hw hpw'
              have hTw := hT _ (h3.lt20 hw hpw')
              have e2 : S2.2 (cntB (prM S2) w) = S.2 (cntB (prM S) w) := by
                by_cases hlt : w < u
                · have c1 := (hci w).1 (by omega)
                  have c2 := cntB_lt hlt hpw'
                  rw [s1, c1, s4 _ (by omega)]
                · have c1 := (hci w).2 (by omega)
                  have c2 := cntB_mono (p := prM S) (show u ≤ w by omega)
                  rw [s1, c1, s6 _ (by omega) (by omega)]
              have hnem : S.2 (cntB (prM S) w) ≠ S.2 m := fun z => by have := hinj _ _ (by omega) (by omega) z; omega
              exact (hu2 w hw hpw').keep hTw e2 h26 h28 h29 (fun k hk => ek 31 _ (by omega) (by omega) (by omega) (by omega) (by omega)) (fun k hk => (h1 k hk).2) (fun x z q => ek x z (by omega) (by omega) (by omega) (by omega) (by omega))
      · obtain rfl := hq2 hok
        have hokm : ¬ mdOK S1 m (nI u) a b c d := fun q => hok ⟨ht0, hv, q.2.2.1, fun z => hpr.mpr z (by have := q.2.2.2.1; rw [nI_clamp (by omega)] at this; exact this), by have := q.2.2.2.2; omega⟩
        refine Ev.mono (c_m_add S1 nl m (nI u) a b c d (fun _ => ⟨hQ.2.1.2.1, hQ.2.1.2.2.1, hQ.2.1.2.2.2⟩) hE.2.1 hm20 (fun k hk => (h1 k hk).2)) (fun r' S2 hm => ?_)
        refine ⟨?_, h0.FrG (hm.2.2 hokm)⟩
        rw [hm.1]
        unfold mdR adR
        have hvn : ¬ ¬ (nI 0 ≤ nI u ∧ nI u ≤ nI 999) := fun q => q hv
        rw [if_neg ht1, if_neg hvn, if_neg ht0, if_neg hvn, nI_clamp (by omega)]
        by_cases hb : badPt a b c d = true
        · rw [if_pos hb, if_pos hb]
        · rw [if_neg hb, if_neg hb]
          by_cases hp : ¬ S1.1 30 u = 0
          · rw [if_pos hp, if_pos (hpr.mp hp)]
          · rw [if_neg hp, if_neg (fun q => hp (hpr.mpr q))]
            by_cases h20 : m = 20
            · rw [if_pos h20, if_pos (by omega)]
            · exact absurd ⟨ht0, hv, by simpa using hb, fun q => hp (hpr.mpr q), by omega⟩ hok
    · have hok : ¬ adOK S m v a b c d := fun q => hv q.2.1
      obtain rfl := hq2 hok
      refine Ev.mono (c_m_add S1 nl m v a b c d (fun _ => ⟨hQ.2.1.2.1, hQ.2.1.2.2.1, hQ.2.1.2.2.2⟩) hE.2.1 hm20 (fun k hk => (h1 k hk).2)) (fun r' S2 hm => ?_)
      refine ⟨?_, h0.FrG (hm.2.2 (fun q => hv q.2.1))⟩
      rw [hm.1]
      unfold mdR adR
      rw [if_neg ht1, if_pos hv, if_neg ht0, if_pos hv]
