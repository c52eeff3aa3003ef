/-! train -/
theorem erp_eq {S S' : St} {kind : Int32} {nc : Nat} (hc1 : 0 < nc) {y y' : Nat → Int32} (hy : ∀ k, k < 4 → y k = y' k) (hw : ∀ p, p < parts kind → ∀ j, j < nc → ∀ k, k < pwid kind → S.1 (108 + (p * 4 + j)) k = S'.1 29 (8 * p + 2 * j + k)) {a b : Int32} (hab : a = b) : ∀ p, p ≤ parts kind → erp S kind nc y a p = erpM S' kind nc y' b p
  | 0, _ => hab
  | p + 1, hp => by
    have ih := erp_eq hc1 hy hw hab p (by omega)
    have hwd : ∀ j, j < nc → wdOf S kind y p j = wdM S' kind y' p j := fun j hj => dst_congr (fun k hk => hw p (by omega) j hj k hk) (fun k hk => hy _ (pw_in (show p < parts kind by omega) hk))
    have hcd : cdOf S kind nc y p = cdM S' kind nc y' p := near_congr hwd
    show erp S kind nc y a p + wdOf S kind y p (cdOf S kind nc y p) = erpM S' kind nc y' b p + wdM S' kind y' p (cdM S' kind nc y' p)
    rw [ih, hcd, hwd _ (cdM_lt hc1)]
theorem ern_eq {S S' : St} {kind : Int32} {nc : Nat} (hc1 : 0 < nc) {Y Y' : Nat → Nat → Int32} (hw : ∀ p, p < parts kind → ∀ j, j < nc → ∀ k, k < pwid kind → S.1 (108 + (p * 4 + j)) k = S'.1 29 (8 * p + 2 * j + k)) : ∀ n, (∀ i, i < n → ∀ k, k < 4 → Y i k = Y' i k) → ern S kind nc Y n = ernM S' kind nc Y' n
  | 0, _ => rfl
  | n + 1, h => erp_eq hc1 (h n (by omega)) hw (ern_eq hc1 hw n (fun i hi => h i (by omega))) _ (Nat.le_refl _)
theorem st_train {S : St} (h : Inv S) (l kq c r : Int32) : Stq M_q_train M_m_train [.int l, .int kq, .int c, .int r] S := by
  have h0 := h
  obtain ⟨h1, ⟨ns, h2⟩, ⟨m, h3⟩, ⟨pb, rf, rs, h4⟩, n, b', h5⟩ := h
  have hE := h3.2.1
  refine Ev.mono (c_q_train S ns m l kq c r h2.2.1 h2.1 hE.1 hE.2.2.2.1 (fun k hk => by rw [(h1 k hk).1]; exact (h1 k hk).2)) (fun rr9 S1 hq => ?_)
  by_cases hok : trOK S ns m l kq c r
  · obtain ⟨nl, nc, rr, kn, rfl, rfl, rfl, rfl, hl1, hl4, hc1, hc4, hr8, hk2, hv, hTR⟩ := hq.1 hok
    refine ⟨_, hv, ?_⟩
    obtain ⟨t2, te, t3, t4, t5, t6, t7, t8⟩ := hTR
    have e1 : ∀ x i, ¬ scr x → ¬ (104 ≤ x ∧ x < 124) → ¬ x = 4 → S1.1 x i = S.1 x i := fun x i y1 y2 y3 => te x i y1 y2 (by omega)
    have ns0 : 0 < ns := by have := hok.1; omega
    have hm0 : m = 0 := hok.2.1
    have hokm : mrOK ns m (nI nl) (nI kn) (nI nc) (nI rr) := ⟨hok.1, hok.2.1, hok.2.2⟩
    refine Ev.mono (c_m_train S1 ns m (nI nl) (nI kn) (nI nc) (nI rr) (by rw [e1 8 2 (by unfold scr; omega) (by omega) (by omega)]; exact h2.2.2.1) h2.1 (by rw [e1 8 11 (by unfold scr; omega) (by omega) (by omega)]; exact hE.2.1) hE.2.2.2.1 (fun k hk => by rw [e1 26 k (by unfold scr; omega) (by omega) (by omega)]; exact (h1 k hk).2)) (fun r' S2 hm => ?_)
    obtain ⟨nl', nc', rr', kn', g1, g2, g3, g4, -, gl4, -, gc4, gr8, gk2, hv', hTM⟩ := hm.1 hokm
    obtain rfl := (nI_eq (by omega) (by omega)).mp g1
    obtain rfl := (nI_eq (by omega) (by omega)).mp g3
    obtain rfl := (nI_eq (by omega) (by omega)).mp g4
    obtain ⟨u2, ue, u3, u4, u5, u6, u7, u8⟩ := hTM
    have e2 : ∀ x i, ¬ scM x → ¬ (x = 28 ∨ x = 29) → ¬ (x = 8 ∧ (i = 3 ∨ i = 4 ∨ i = 5 ∨ i = 6)) → S2.1 x i = S1.1 x i := ue
    have ek : ∀ x i, ¬ scr x → ¬ (104 ≤ x ∧ x < 124) → ¬ x = 4 → ¬ scM x → ¬ (x = 28 ∨ x = 29) → ¬ (x = 8 ∧ (i = 3 ∨ i = 4 ∨ i = 5 ∨ i = 6)) → S2.1 x i = S.1 x i := fun x i y1 y2 y3 y4 y5 y6 => by rw [e2 x i y4 y5 y6, e1 x i y1 y2 y3]
    have hti : ∀ i, i < ns → ∀ k, k < 4 → tit S i k = tiM S1 i k := fun i hi k hk => by
      unfold tit tiM
      rw [e1 26 k (by unfold scr; omega) (by omega) (by omega), (h1 k hk).1]
      refine tval_congr (h1 k hk).2 (fun z hz => ?_)
      rw [e1 27 _ (by unfold scr; omega) (by omega) (by omega)]
      exact (h2.2.2.2 i hi z hz).1
    have hC : ∀ c, c < nl → ∀ k, k < 4 → trC S ns nl rr c k = mC S1 ns nl rr c k := fun c hc k hk => clu_congr ns0 hl1 hti rr c hc k hk
    have hY : ∀ i, i < ns → ∀ k, k < 4 → trY S ns nl rr i k = mY S1 ns nl rr i k := fun i hi k hk => by
      unfold trY mY
      have hn : near (fun l => dst (trC S ns nl rr l) (tit S i) 4) nl = near (fun l => dst (mC S1 ns nl rr l) (tiM S1 i) 4) nl := near_congr (fun l hl => dst_congr (hC l hl) (hti i hi))
      rw [hn, hti i hi k hk, hC _ (near_lt _ _ hl1) k hk]
    have hW : ∀ p, p < parts (nI kn) → ∀ j, j < nc → ∀ k, k < pwid (nI kn) → trW S (nI kn) ns nl nc rr p j k = mW S1 (nI kn) ns nl nc rr p j k := fun p hp j hj k hk => by
      unfold trW mW
      by_cases hk0 : nI kn = 0
      · rw [if_pos hk0, if_pos hk0]
        have hpw : pwid (nI kn) = 2 := by unfold pwid; rw [if_pos hk0]
        have hpp : parts (nI kn) = 2 := by unfold parts; rw [if_pos hk0]
        refine clu_congr ns0 hc1 (fun i hi z hz => ?_) rr j hj k (by omega)
        rw [hY i hi _ (by omega), Nat.mul_comm p 2]
      · rw [if_neg hk0, if_neg hk0]
        have hpl := parts_le (nI kn)
        rw [minI_congr (hY 0 ns0 p (by omega)) (fun i hi => hY i hi p (by omega)), maxI_congr (hY 0 ns0 p (by omega)) (fun i hi => hY i hi p (by omega))]
    have hwd : ∀ p, p < parts (nI kn) → ∀ j, j < nc → ∀ k, k < pwid (nI kn) → S1.1 (108 + (p * 4 + j)) k = S2.1 29 (8 * p + 2 * j + k) := fun p hp j hj k hk => by rw [t8 p hp j hj k hk, u8 p hp j hj k hk, hW p hp j hj k hk]
    have bt : ∀ i, i < ns → ∀ k, k < 4 → bd 100 (tiM S1 i k) := fun i hi k hk => by
      unfold tiM
      rw [e1 26 k (by unfold scr; omega) (by omega) (by omega)]
      refine tval_bd (h1 k hk).2 (by omega) (fun z hz => ?_)
      rw [e1 27 _ (by unfold scr; omega) (by omega) (by omega)]
      exact (h2.2.2.2 i hi z hz).2
    have bC : ∀ c, c < nl → ∀ k, k < 4 → bd 132 (mC S1 ns nl rr c k) := fun c hc k hk => bd_mono (clu_bd ns0 h2.1 hl1 hl4 (by omega) bt rr hr8 c hc k hk) (by omega)
    have bY : ∀ i, i < ns → ∀ k, k < 4 → bd 232 (mY S1 ns nl rr i k) := fun i hi k hk => (bd_sub (bt i hi k hk) (bC _ (near_lt _ _ hl1) k hk) (by omega)).2
    have bW : ∀ p, p < parts (nI kn) → ∀ j, j < nc → ∀ k, k < pwid (nI kn) → bd 300 (mW S1 (nI kn) ns nl nc rr p j k) := fun p hp j hj k hk => by
      unfold mW
      by_cases hk0 : nI kn = 0
      · rw [if_pos hk0]
        have hpw : pwid (nI kn) = 2 := by unfold pwid; rw [if_pos hk0]
        have hpp : parts (nI kn) = 2 := by unfold parts; rw [if_pos hk0]
        exact bd_mono (clu_bd (B := 232) ns0 h2.1 hc1 hc4 (by omega) (fun i hi z hz => bY i hi _ (by omega)) rr hr8 j hj k (by omega)) (by omega)
      · rw [if_neg hk0]
        have hpl := parts_le (nI kn)
        obtain ⟨a1, a2⟩ := minI_bd (f := fun i => mY S1 ns nl rr i p) (B := 232) (bY 0 ns0 p (by omega)) (n := ns) (fun i hi => bY i hi p (by omega))
        obtain ⟨a3, a4⟩ := maxI_bd (f := fun i => mY S1 ns nl rr i p) (B := 232) (bY 0 ns0 p (by omega)) (n := ns) (fun i hi => bY i hi p (by omega))
        exact bd_mono (sprd_bd (by omega) a1 a3 (Int32.le_trans (a2 ns0) (a4 ns0)) hj hc4) (by omega)
    refine ⟨?_, h1.keep (fun x i q => ek x i (by unfold inT at q; unfold scr; omega) (by unfold inT at q; omega) (by unfold inT at q; omega) (by unfold inT at q; unfold scM; omega) (by unfold inT at q; omega) (by unfold inT at q; omega)), ⟨ns, h2.keep (fun x i q => ek x i (by unfold inS at q; unfold scr; omega) (by unfold inS at q; omega) (by unfold inS at q; omega) (by unfold inS at q; unfold scM; omega) (by unfold inS at q; omega) (by unfold inS at q; omega))⟩, ⟨m, ?_, ⟨?_, ?_, ?_, hE.2.2.2.1, ?_, ?_, fun _ => hm0⟩, fun _ => ⟨kn, nl, nc, ⟨⟨?_, u4, hk2⟩, ⟨?_, u5, hl1, hl4⟩, ⟨?_, u6, hc1, hc4⟩, fun l hl k hk => ?_, fun p hp j hj k hk => ?_⟩, fun u hu hp => ?_⟩⟩, ⟨pb, rf, rs, h4.keep (fun x i q => ek x i (by unfold inF at q; unfold scr; omega) (by unfold inF at q; omega) (by unfold inF at q; omega) (by unfold inF at q; unfold scM; omega) (by unfold inF at q; omega) (by unfold inF at q; omega))⟩, n, b', h5.keep (fun x i q => ek x i (by unfold inB at q; unfold scr; omega) (by unfold inB at q; omega) (by unfold inB at q; omega) (by unfold inB at q; unfold scM; omega) (by unfold inB at q; omega) (by unfold inB at q; omega))⟩
    · rw [hv']
      unfold trE
      rw [ern_eq hc1 hwd ns hY]
    · rw [u3, e2 4 3 (by unfold scM; omega) (by omega) (by omega), t3]
    · rw [ek 5 1 (by unfold scr; omega) (by omega) (by omega) (by unfold scM; omega) (by omega) (by omega)]; exact hE.1
    · rw [ek 8 11 (by unfold scr; omega) (by omega) (by omega) (by unfold scM; omega) (by omega) (by omega)]; exact hE.2.1
    · rw [prM_keep (fun i => ek 30 i (by unfold scr; omega) (by omega) (by omega) (by unfold scM; omega) (by omega) (by omega))]; exact hE.2.2.1
    · rw [u2, t2]; exact hE.2.2.2.2.1
    · rw [u2, t2]; exact hE.2.2.2.2.2.1
    · rw [e2 4 4 (by unfold scM; omega) (by omega) (by omega)]; exact t4
    · rw [e2 4 5 (by unfold scM; omega) (by omega) (by omega)]; exact t5
    · rw [e2 4 6 (by unfold scM; omega) (by omega) (by omega)]; exact t6
    · rw [e2 (104 + l) k (by unfold scM; omega) (by omega) (by omega), t7 l hl k hk, u7 l hl k hk]
      exact ⟨hC l hl k hk, bd_mono (bC l hl k hk) (by omega)⟩
    · have hpl := parts_le (nI kn)
      rw [e2 (108 + (p * 4 + j)) k (by unfold scM; omega) (by omega) (by omega)]
      refine ⟨hwd p hp j hj k hk, ?_⟩
      rw [u8 p hp j hj k hk]
      exact bW p hp j hj k hk
    · rw [prM_keep (fun i => ek 30 i (by unfold scr; omega) (by omega) (by omega) (by unfold scM; omega) (by omega) (by omega)), h3.none hm0 hu] at hp
      cases hp
  · obtain ⟨hv, rfl⟩ := hq.2 hok
    refine ⟨_, hv, ?_⟩
    refine Ev.mono (c_m_train S1 ns m l kq c r h2.2.2.1 h2.1 hE.2.1 hE.2.2.2.1 (fun k hk => (h1 k hk).2)) (fun r' S2 hm => ?_)
    obtain ⟨rfl, rfl⟩ := hm.2 (fun q => hok ⟨q.1, q.2.1, q.2.2⟩)
    exact ⟨rfl, h0⟩
