/-! The calls, one by one. -/
theorem pt_bd {a b c d : Int32} (h : badPt a b c d = false) {k : Nat} (hk : k < 4) : bd 100 (pt a b c d k) := by
  have e1 : (-100 : Int32).toInt = -100 := by decide
  have e2 : (nI 100 : Int32).toInt = 100 := by decide
  unfold badPt at h
  rw [Bool.not_eq_false', decide_eq_true_iff] at h
  have key : ∀ v : Int32, (-100 ≤ v ∧ v ≤ nI 100) → bd 100 v := fun v hv => by
    rw [Int32.le_iff_toInt_le, Int32.le_iff_toInt_le, e1, e2] at hv
    unfold bd
    omega
  match k, hk with
  | 0, _ => exact key a h.1
  | 1, _ => exact key b h.2.1
  | 2, _ => exact key c h.2.2.1
  | 3, _ => exact key d h.2.2.2
theorem st_turn {S : St} (h : Inv S) (a b c d : Int32) : Stq M_q_turn M_m_turn [.int a, .int b, .int c, .int d] S := by
  have h0 := h
  obtain ⟨h1, ⟨ns, h2⟩, ⟨m, h3⟩, ⟨pb, rf, rs, h4⟩, n, b', h5⟩ := h
  refine Ev.mono (c_q_turn S a b c d) (fun r S1 hq => ⟨_, hq.1, ?_⟩)
  obtain ⟨-, rfl⟩ := hq
  by_cases hc : turnOK a b c d = true ∧ S.1 4 3 = 0
  · rw [if_pos hc]
    refine Ev.mono (c_m_turn _ a b c d) (fun r' S2 hm => ?_)
    obtain ⟨rfl, rfl⟩ := hm
    have e3 : (setRow S 9 (pt a b c d) 4).1 8 3 = S.1 4 3 := by rw [setRow_ne (by decide)]; exact h3.1.symm
    rw [e3, if_pos hc]
    have ek : ∀ x i, x ≠ 9 → x ≠ 26 → (setRow (setRow S 9 (pt a b c d) 4) 26 (pt a b c d) 4).1 x i = S.1 x i := fun x i hx hy => by rw [setRow_ne hy, setRow_ne hx]
    refine ⟨rfl, fun k hk => ?_, ⟨ns, h2.keep (fun x i q => ek x i (by unfold inS at q; omega) (by unfold inS at q; omega))⟩, ⟨m, h3.keep0 hc.2 rfl (fun x i q => ek x i (by unfold inE at q; omega) (by unfold inE at q; omega))⟩, ⟨pb, rf, rs, h4.keep (fun x i q => ek x i (by unfold inF at q; omega) (by unfold inF at q; omega))⟩, n, b', h5.keep (fun x i q => ek x i (by unfold inB at q; omega) (by unfold inB at q; omega))⟩
    rw [setRow_ne (by decide), setRow_at hk, setRow_at hk]
    exact ⟨rfl, turn_ok4 (f := pt a b c d) hc.1 hk⟩
  · rw [if_neg hc]
    refine Ev.mono (c_m_turn _ a b c d) (fun r' S2 hm => ?_)
    obtain ⟨rfl, rfl⟩ := hm
    rw [← h3.1, if_neg hc]
    exact ⟨rfl, h0⟩
theorem st_sample {S : St} (h : Inv S) (a b c d : Int32) : Stq M_q_sample M_m_sample [.int a, .int b, .int c, .int d] S := by
  have h0 := h
  obtain ⟨h1, ⟨ns, h2⟩, ⟨m, h3⟩, ⟨pb, rf, rs, h4⟩, n, b', h5⟩ := h
  refine Ev.mono (c_q_sample S a b c d ns h2.2.1 h2.1) (fun r S1 hq => ⟨_, hq.1, ?_⟩)
  obtain ⟨-, rfl⟩ := hq
  by_cases hc : badPt a b c d = false ∧ ns < 24
  · rw [if_pos hc]
    refine Ev.mono (c_m_sample _ a b c d ns (by rw [put_ne (by decide), setRow_ne (by omega)]; exact h2.2.2.1) h2.1) (fun r' S2 hm => ?_)
    obtain ⟨rfl, rfl⟩ := hm
    rw [if_pos hc]
    have ek : ∀ x i, x ≠ 2 → x ≠ 35 → x ≠ 27 → x ≠ 48 + ns → ¬ (x = 8 ∧ i = 2) → (put (setSeg (setRow (put (setRow S (48 + ns) (pt a b c d) 4) 2 1 (nI (ns + 1))) 35 (pt a b c d) 4) 27 (4 * ns) (pt a b c d) 4) 8 2 (nI (ns + 1))).1 x i = S.1 x i := fun x i y1 y2 y3 y4 y5 => by
      rw [put_ne y5, setSeg_ne (by omega), setRow_ne y2, put_ne (by omega), setRow_ne y4]
    refine ⟨rfl, h1.keep (fun x i q => ek x i (by unfold inT at q; omega) (by unfold inT at q; omega) (by unfold inT at q; omega) (by unfold inT at q; omega) (by unfold inT at q; omega)), ⟨ns + 1, by omega, ?_, put_at, fun i hi k hk => ?_⟩, ⟨m, h3.keep h1 rfl (fun x i q => ek x i (by unfold inM at q; omega) (by unfold inM at q; omega) (by unfold inM at q; omega) (by unfold inM at q; omega) (by unfold inM at q; omega))⟩, ⟨pb, rf, rs, h4.keep (fun x i q => ek x i (by unfold inF at q; omega) (by unfold inF at q; omega) (by unfold inF at q; omega) (by unfold inF at q; omega) (by unfold inF at q; omega))⟩, n, b', h5.keep (fun x i q => ek x i (by unfold inB at q; omega) (by unfold inB at q; omega) (by unfold inB at q; omega) (by unfold inB at q; omega) (by unfold inB at q; omega))⟩
    · rw [put_ne (by decide), setSeg_ne (by omega), setRow_ne (by decide), put_at]
    · have h24 := h2.1
      by_cases hin : i = ns
      · rw [hin, put_ne (by omega), put_ne (by omega), setSeg_ne (by omega), setRow_ne (by omega), put_ne (by omega), setRow_at hk, setSeg_at hk]
        exact ⟨rfl, pt_bd hc.1 hk⟩
      · rw [put_ne (by omega), put_ne (by omega), setSeg_ne (by omega), setRow_ne (by omega), put_ne (by omega), setRow_ne (by omega), setSeg_ne (by omega), setRow_ne (by omega), put_ne (by omega), setRow_ne (by omega)]
        exact h2.2.2.2 i (by omega) k hk
  · rw [if_neg hc]
    refine Ev.mono (c_m_sample _ a b c d ns h2.2.2.1 h2.1) (fun r' S2 hm => ?_)
    obtain ⟨rfl, rfl⟩ := hm
    rw [if_neg hc]
    exact ⟨rfl, h0.keep rfl (fun x i q => setRow_ne (by unfold inT inS inM inF inB at q; omega))⟩
theorem st_centre {S : St} (h : Inv S) (v w : Int32) : Stq M_q_centre M_m_centre [.int v, .int w] S := by
  have h0 := h
  obtain ⟨h1, -, ⟨m, h3⟩, -⟩ := h
  refine Ev.mono (c_q_centre S v w (fun q => by obtain ⟨kn, nl, nc, hq, -⟩ := h3.2.2 q; exact ⟨nl, hq.2.1.1, hq.2.1.2.2.2⟩)) (fun r S1 hq => ⟨_, hq.1, ?_⟩)
  obtain ⟨-, rfl⟩ := hq
  refine Ev.mono (c_m_centre _ v w (fun q => by obtain ⟨kn, nl, nc, hq, -⟩ := h3.2.2 (by rw [h3.1]; exact q); exact ⟨nl, hq.2.1.2.1, hq.2.1.2.2.2⟩)) (fun r' S2 hm => ?_)
  obtain ⟨rfl, rfl⟩ := hm
  refine ⟨?_, h0⟩
  by_cases ht : S2.1 4 3 = 0
  · rw [if_neg (fun q => q.1.1 (h3.1 ▸ ht)), if_neg (fun q => q.1.1 ht)]
  · obtain ⟨kn, nl, nc, hq, -⟩ := h3.2.2 ht
    rw [hq.2.1.1, hq.2.1.2.1, ← h3.1]
    by_cases hc : (¬ S2.1 4 3 = 0 ∧ (nI 0 ≤ v ∧ v ≤ nI nl - nI 1)) ∧ (nI 0 ≤ w ∧ w ≤ nI 3)
    · rw [if_pos hc, if_pos hc]
      obtain ⟨i, hi, rfl⟩ := in_idx (by have := hq.2.1.2.2.2; omega) hc.1.2
      obtain ⟨j, -, hj, rfl⟩ := nI_in2 hc.2 (by decide) (by decide)
      have hl4 := hq.2.1.2.2.2
      rw [nI_clamp (by omega), nI_clamp (by omega), (hq.2.2.2.1 i hi j (by omega)).1]
    · rw [if_neg hc, if_neg hc]
theorem st_word {S : St} (h : Inv S) (v w z : Int32) : Stq M_q_word M_m_word [.int v, .int w, .int z] S := by
  have h0 := h
  obtain ⟨h1, -, ⟨m, h3⟩, -⟩ := h
  refine Ev.mono (c_q_word S v w z (fun q => by obtain ⟨kn, nl, nc, hq, -⟩ := h3.2.2 q; exact ⟨nc, hq.2.2.1.1, hq.2.2.1.2.2.2⟩)) (fun r S1 hq => ⟨_, hq.1, ?_⟩)
  obtain ⟨-, rfl⟩ := hq
  refine Ev.mono (c_m_word _ v w z (fun q => by obtain ⟨kn, nl, nc, hq, -⟩ := h3.2.2 (by rw [h3.1]; exact q); exact ⟨nc, hq.2.2.1.2.1, hq.2.2.1.2.2.2⟩)) (fun r' S2 hm => ?_)
  obtain ⟨rfl, rfl⟩ := hm
  refine ⟨?_, h0⟩
  by_cases ht : S2.1 4 3 = 0
  · rw [if_neg (fun q => q.1.1 (h3.1 ▸ ht)), if_neg (fun q => q.1.1 ht)]
  · obtain ⟨kn, nl, nc, hq, -⟩ := h3.2.2 ht
    rw [hq.1.1, hq.1.2.1, hq.2.2.1.1, hq.2.2.1.2.1, ← h3.1]
    have hpl := parts_le (nI kn)
    have hwl := pwid_le (nI kn)
    have hc4 := hq.2.2.1.2.2.2
    by_cases hv : nI 0 ≤ v ∧ v ≤ nI (parts (nI kn)) - nI 1
    · obtain ⟨i, hi, rfl⟩ := in_idx (by omega) hv
      rw [msz_pw hi]
      by_cases hc : (¬ S2.1 4 3 = 0 ∧ (nI 0 ≤ nI i ∧ nI i ≤ nI (parts (nI kn)) - nI 1) ∧ (nI 0 ≤ w ∧ w ≤ nI nc - nI 1)) ∧ (nI 0 ≤ z ∧ z ≤ nI (pwid (nI kn)) - nI 1)
      · rw [if_pos hc, if_pos hc]
        obtain ⟨j, hj, rfl⟩ := in_idx (by omega) hc.1.2.2
        obtain ⟨k, hk, rfl⟩ := in_idx (by omega) hc.2
        rw [nI_clamp (by omega), nI_clamp (by omega), nI_clamp (by omega), (hq.2.2.2.2 i hi j hj k hk).1]
      · rw [if_neg hc, if_neg hc]
    · rw [if_neg (fun q => hv q.1.2.1), if_neg (fun q => hv q.1.2.1)]
theorem st_effort {S : St} (h : Inv S) (v w : Int32) : Stq M_q_effort M_m_effort [.int v, .int w] S := by
  have h0 := h
  obtain ⟨h1, ⟨ns, h2⟩, ⟨m, h3⟩, ⟨pb, rf, rs, h4⟩, n, b', h5⟩ := h
  refine Ev.mono (c_q_effort S v w) (fun r S1 hq => ⟨_, hq.1, ?_⟩)
  obtain ⟨-, rfl⟩ := hq
  refine Ev.mono (c_m_effort _ v w) (fun r' S2 hm => ?_)
  obtain ⟨rfl, rfl⟩ := hm
  refine ⟨rfl, ?_⟩
  by_cases hc : (nI 1 ≤ v ∧ v ≤ nI 4) ∧ (nI 0 ≤ w ∧ w ≤ nI 3)
  · rw [if_pos hc, if_pos hc]
    obtain ⟨p, -, hp, rfl⟩ := nI_in2 hc.1 (by decide) (by decide)
    obtain ⟨q, -, hq, rfl⟩ := nI_in2 hc.2 (by decide) (by decide)
    have ek : ∀ x i, ¬ (x = 6 ∧ (i = 5 ∨ i = 6)) → ¬ (x = 8 ∧ (i = 12 ∨ i = 13)) → (put (put (put (put S 6 5 (nI p)) 6 6 (nI q)) 8 12 (nI p)) 8 13 (nI q)).1 x i = S.1 x i := fun x i y1 y2 => by rw [put_ne (by omega), put_ne (by omega), put_ne (by omega), put_ne (by omega)]
    refine ⟨h1.keep (fun x i q => ek x i (by unfold inT at q; omega) (by unfold inT at q; omega)), ⟨ns, h2.keep (fun x i q => ek x i (by unfold inS at q; omega) (by unfold inS at q; omega))⟩, ⟨m, h3.keep h1 rfl (fun x i q => ek x i (by unfold inM at q; omega) (by unfold inM at q; omega))⟩, ⟨p, q, rs, ?_⟩, n, b', h5.keep (fun x i q => ek x i (by unfold inB at q; omega) (by unfold inB at q; omega))⟩
    unfold InvF
    rw [ek 6 7 (by omega) (by omega), ek 8 17 (by omega) (by omega), ek 6 8 (by omega) (by omega), ek 8 16 (by omega) (by omega)]
    refine ⟨by rw [put_ne (by omega), put_ne (by omega), put_ne (by omega), put_at], by rw [put_ne (by omega), put_at], hp, by rw [put_ne (by omega), put_ne (by omega), put_at], put_at, hq, h4.2.2.2.2.2.2.1, h4.2.2.2.2.2.2.2.1, h4.2.2.2.2.2.2.2.2.1, h4.2.2.2.2.2.2.2.2.2.1, fun j hj => ?_⟩
    rw [ek 24 j (by omega) (by omega), ek 32 j (by omega) (by omega), ek 23 j (by omega) (by omega), ek 33 j (by omega) (by omega)]
    exact h4.2.2.2.2.2.2.2.2.2.2 j hj
  · rw [if_neg hc, if_neg hc]
    exact h0
theorem st_hit {S : St} (h : Inv S) (v : Int32) : Stq M_q_hit M_m_hit [.int v] S := by
  have h0 := h
  obtain ⟨-, -, -, ⟨pb, rf, rs, h4⟩, -⟩ := h
  obtain ⟨-, -, -, -, -, -, -, e8, e16, hr8, hj⟩ := h4
  refine Ev.mono (c_q_hit S v rs e8 hr8) (fun r S1 hq => ⟨_, hq.1, ?_⟩)
  obtain ⟨-, rfl⟩ := hq
  refine Ev.mono (c_m_hit _ v rs e16 hr8) (fun r' S2 hm => ?_)
  obtain ⟨rfl, rfl⟩ := hm
  refine ⟨?_, h0⟩
  rw [e8, e16]
  by_cases hc : nI 0 ≤ v ∧ v ≤ nI rs - nI 1
  · rw [if_pos hc, if_pos hc]
    obtain ⟨j, hj1, rfl⟩ := in_idx (by omega) hc
    rw [nI_clamp (by omega), (hj j hj1).1]
  · rw [if_neg hc, if_neg hc]
theorem st_far {S : St} (h : Inv S) (v : Int32) : Stq M_q_far M_m_far [.int v] S := by
  have h0 := h
  obtain ⟨-, -, -, ⟨pb, rf, rs, h4⟩, -⟩ := h
  obtain ⟨-, -, -, -, -, -, -, e8, e16, hr8, hj⟩ := h4
  refine Ev.mono (c_q_far S v rs e8 hr8) (fun r S1 hq => ⟨_, hq.1, ?_⟩)
  obtain ⟨-, rfl⟩ := hq
  refine Ev.mono (c_m_far _ v rs e16 hr8) (fun r' S2 hm => ?_)
  obtain ⟨rfl, rfl⟩ := hm
  refine ⟨?_, h0⟩
  rw [e8, e16]
  by_cases hc : nI 0 ≤ v ∧ v ≤ nI rs - nI 1
  · rw [if_pos hc, if_pos hc]
    obtain ⟨j, hj1, rfl⟩ := in_idx (by omega) hc
    rw [nI_clamp (by omega), (hj j hj1).2]
  · rw [if_neg hc, if_neg hc]
theorem st_scanned {S : St} (h : Inv S) : Stq M_q_scanned M_m_scanned [] S := by
  have h0 := h
  obtain ⟨-, -, -, ⟨pb, rf, rs, h4⟩, -⟩ := h
  refine Ev.mono (c_q_scanned S) (fun r S1 hq => ⟨_, hq.1, ?_⟩)
  obtain ⟨-, rfl⟩ := hq
  refine Ev.mono (c_m_scanned _) (fun r' S2 hm => ?_)
  obtain ⟨rfl, rfl⟩ := hm
  exact ⟨by rw [h4.2.2.2.2.2.2.1], h0⟩
theorem st_cut {S : St} (h : Inv S) (v : Int32) : Stq M_q_cut M_m_cut [.int v] S := by
  have h0 := h
  obtain ⟨h1, ⟨ns, h2⟩, ⟨m, h3⟩, ⟨pb, rf, rs, h4⟩, n, b', h5⟩ := h
  refine Ev.mono (c_q_cut S v n h5.1) (fun r S1 hq => ⟨_, hq.1, ?_⟩)
  obtain ⟨-, rfl⟩ := hq
  by_cases hc : nI 0 ≤ v ∧ v ≤ nI n
  · rw [if_pos hc]
    refine Ev.mono (c_m_cut _ v n (by rw [put_ne (by omega)]; exact h5.2.1)) (fun r' S2 hm => ?_)
    obtain ⟨rfl, rfl⟩ := hm
    rw [if_pos hc]
    have hn2 := h5.2.2.1
    obtain ⟨j, -, hj, rfl⟩ := nI_in2 hc (by decide) (by omega)
    have ek : ∀ x i, ¬ (x = 7 ∧ i = 1) → ¬ (x = 8 ∧ i = 19) → (put (put S 7 1 (nI j)) 8 19 (nI j)).1 x i = S.1 x i := fun x i y1 y2 => by rw [put_ne y2, put_ne y1]
    refine ⟨rfl, h1.keep (fun x i q => ek x i (by unfold inT at q; omega) (by unfold inT at q; omega)), ⟨ns, h2.keep (fun x i q => ek x i (by unfold inS at q; omega) (by unfold inS at q; omega))⟩, ⟨m, h3.keep h1 rfl (fun x i q => ek x i (by unfold inM at q; omega) (by unfold inM at q; omega))⟩, ⟨pb, rf, rs, h4.keep (fun x i q => ek x i (by unfold inF at q; omega) (by unfold inF at q; omega))⟩, j, b', by rw [put_ne (by omega), put_at], put_at, by omega, fun p hp => ?_⟩
    rw [ek 25 p (by omega) (by omega), ek 34 p (by omega) (by omega)]
    exact h5.2.2.2 p hp
  · rw [if_neg hc]
    refine Ev.mono (c_m_cut _ v n h5.2.1) (fun r' S2 hm => ?_)
    obtain ⟨rfl, rfl⟩ := hm
    rw [if_neg hc]
    exact ⟨rfl, h0⟩
theorem st_byteAt {S : St} (h : Inv S) (v : Int32) : Stq M_q_byteAt M_m_byteAt [.int v] S := by
  have h0 := h
  obtain ⟨-, -, -, -, n, b', h5⟩ := h
  have hn2 := h5.2.2.1
  refine Ev.mono (c_q_byteAt S v n h5.1 hn2) (fun r S1 hq => ⟨_, hq.1, ?_⟩)
  obtain ⟨-, rfl⟩ := hq
  refine Ev.mono (c_m_byteAt _ v n h5.2.1 hn2) (fun r' S2 hm => ?_)
  obtain ⟨rfl, rfl⟩ := hm
  refine ⟨?_, h0⟩
  by_cases hc : nI 0 ≤ v ∧ v ≤ nI n - nI 1
  · rw [if_pos hc, if_pos hc]
    obtain ⟨j, hj1, rfl⟩ := in_idx (by omega) hc
    rw [nI_clamp (by omega), (h5.2.2.2 j (by omega)).1, (h5.2.2.2 j (by omega)).2.1]
  · rw [if_neg hc, if_neg hc]
theorem st_alter {S : St} (h : Inv S) (v w : Int32) : Stq M_q_alter M_m_alter [.int v, .int w] S := by
  have h0 := h
  obtain ⟨h1, ⟨ns, h2⟩, ⟨m, h3⟩, ⟨pb, rf, rs, h4⟩, n, b', h5⟩ := h
  have hn2 := h5.2.2.1
  have hiff : ((nI 0 ≤ v ∧ v ≤ nI n) ∧ ¬ nI 250 ≤ v ∧ (nI 0 ≤ w ∧ w ≤ nI 255)) ↔ ((nI 0 ≤ v ∧ v ≤ nI n) ∧ ¬ v = nI 250 ∧ (nI 0 ≤ w ∧ w ≤ nI 255)) := by
    refine ⟨fun q => ⟨q.1, fun z => q.2.1 (by rw [z]; exact Int32.le_refl _), q.2.2⟩, fun q => ⟨q.1, fun z => q.2.1 ?_, q.2.2⟩⟩
    obtain ⟨j, -, hj, rfl⟩ := nI_in2 q.1 (by decide) (by omega)
    rw [nI_leI (by decide) (by omega)] at z
    exact congrArg nI (by omega)
  refine Ev.mono (c_q_alter S v w n h5.1 hn2) (fun r S1 hq => ⟨_, hq.1, ?_⟩)
  obtain ⟨-, rfl⟩ := hq
  by_cases hc : (nI 0 ≤ v ∧ v ≤ nI n) ∧ ¬ nI 250 ≤ v ∧ (nI 0 ≤ w ∧ w ≤ nI 255)
  · rw [if_pos hc]
    obtain ⟨i, -, hi, rfl⟩ := nI_in2 hc.1 (by decide) (by omega)
    obtain ⟨j, -, hj, rfl⟩ := nI_in2 hc.2.2 (by decide) (by decide)
    have hi2 : i < 250 := by
      have := hc.2.1
      rw [nI_leI (by decide) (by omega)] at this
      omega
    rw [nI_clamp (by omega)]
    have fin : ∀ (S2 : St) (n' : Nat), n' ≤ 250 → S2.2 = S.2 → S2.1 7 1 = nI n' → S2.1 8 19 = nI n' → S2.1 25 i = nI j → S2.1 34 i = nI j → (∀ x z, ¬ (x = 25 ∧ z = i) → ¬ (x = 34 ∧ z = i) → ¬ (x = 7 ∧ z = 1) → ¬ (x = 8 ∧ z = 19) → S2.1 x z = S.1 x z) → Inv S2 := fun S2 n' hn' e2 e7 e8 e25 e34 ek => by
      refine ⟨h1.keep (fun x i q => ek x i (by unfold inT at q; omega) (by unfold inT at q; omega) (by unfold inT at q; omega) (by unfold inT at q; omega)), ⟨ns, h2.keep (fun x i q => ek x i (by unfold inS at q; omega) (by unfold inS at q; omega) (by unfold inS at q; omega) (by unfold inS at q; omega))⟩, ⟨m, h3.keep h1 e2 (fun x i q => ek x i (by unfold inM at q; omega) (by unfold inM at q; omega) (by unfold inM at q; omega) (by unfold inM at q; omega))⟩, ⟨pb, rf, rs, h4.keep (fun x i q => ek x i (by unfold inF at q; omega) (by unfold inF at q; omega) (by unfold inF at q; omega) (by unfold inF at q; omega))⟩, n', fun p => if p = i then j else b' p, e7, e8, hn', fun p hp => ?_⟩
      show S2.1 25 p = nI (if p = i then j else b' p) ∧ S2.1 34 p = nI (if p = i then j else b' p) ∧ (if p = i then j else b' p) ≤ 255
      by_cases hpi : p = i
      · rw [if_pos hpi, hpi]
        exact ⟨e25, e34, hj⟩
      · rw [if_neg hpi, ek 25 p (by omega) (by omega) (by omega) (by omega), ek 34 p (by omega) (by omega) (by omega) (by omega)]
        exact h5.2.2.2 p hp
    by_cases hin : i = n
    · rw [if_pos hin]
      refine Ev.mono (c_m_alter _ _ _ n (by rw [put_ne (by omega), put_ne (by omega)]; exact h5.2.1) hn2) (fun r' S2 hm => ?_)
      obtain ⟨rfl, rfl⟩ := hm
      rw [if_pos (hiff.mp hc), nI_clamp (by omega), if_pos hin]
      refine ⟨by rw [decide_eq_true hc, decide_eq_true (hiff.mp hc)], fin _ (n + 1) (by omega) rfl ?_ put_at ?_ ?_ (fun x z y1 y2 y3 y4 => by rw [put_ne y4, put_ne y2, put_ne y3, put_ne y1])⟩
      · rw [put_ne (by omega), put_ne (by omega), put_at]
      · rw [put_ne (by omega), put_ne (by omega), put_ne (by omega), put_at]
      · rw [put_ne (by omega), put_at]
    · rw [if_neg hin]
      refine Ev.mono (c_m_alter _ _ _ n (by rw [put_ne (by omega)]; exact h5.2.1) hn2) (fun r' S2 hm => ?_)
      obtain ⟨rfl, rfl⟩ := hm
      rw [if_pos (hiff.mp hc), nI_clamp (by omega), if_neg hin]
      refine ⟨by rw [decide_eq_true hc, decide_eq_true (hiff.mp hc)], fin _ n (by omega) rfl ?_ put_at ?_ ?_ (fun x z y1 y2 y3 y4 => by rw [put_ne y4, put_ne y2, put_ne y1])⟩
      · rw [put_ne (by omega), put_ne (by omega), put_ne (by omega)]; exact h5.1
      · rw [put_ne (by omega), put_ne (by omega), put_at]
      · rw [put_ne (by omega), put_at]
  · rw [if_neg hc]
    refine Ev.mono (c_m_alter _ v w n h5.2.1 hn2) (fun r' S2 hm => ?_)
    obtain ⟨rfl, rfl⟩ := hm
    rw [if_neg (fun q => hc (hiff.mpr q))]
    exact ⟨by rw [decide_eq_false hc, decide_eq_false (fun q => hc (hiff.mpr q))], h0⟩
