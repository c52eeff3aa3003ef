theorem faN_le (b : Nat → Nat) (n : Nat) : faN b n ≤ 9 := by
  unfold faN
  (repeat' split) <;> decide
theorem faN_0 {b : Nat → Nat} {n : Nat} (h : faN b n = 0) : 11 ≤ n ∧ szB b = true ∧ turnOK (stN b 0) (stN b 1) (stN b 2) (stN b 3) = true ∧ n = esN b (b 5) + 1 ∧ wdB b = true ∧ allB (idB b) (b 5) = true := by
  unfold faN at h
  split at h
  · cases h
  · split at h
    · cases h
    · split at h
      · cases h
      · split at h
        · cases h
        · split at h
          · cases h
          · split at h
            · cases h
            · split at h
              · cases h
              · split at h
                · cases h
                · split at h
                  · cases h
                  · rename_i h1 h2 h3 h4 h5 h6 h7 h8 h9
                    exact ⟨by omega, by simpa using h4, by simpa using h5, by omega, by simpa using h8, by simpa using h9⟩
/-- what the file's entries are, when it is well-formed -/
theorem ids_ok {b : Nat → Nat} (h : allB (idB b) (b 5) = true) : (∀ i, i < b 5 → prN b (esN b i) ≤ 999) ∧ ∀ i j, i < j → j < b 5 → prN b (esN b i) < prN b (esN b j) := by
  have h1 := allB_iff.mp h
  have h2 : ∀ i, i < b 5 → prN b (esN b i) ≤ 999 ∧ (0 < i → prN b (esN b (i - 1)) < prN b (esN b i)) := fun i hi => by
    have := h1 i hi
    unfold idB at this
    rw [Bool.and_eq_true] at this
    exact of_decide_eq_true this.1
  refine ⟨fun i hi => (h2 i hi).1, fun i j hij hj => ?_⟩
  have key : ∀ d, i + d + 1 < b 5 → prN b (esN b i) < prN b (esN b (i + d + 1)) := by
    intro d
    induction d with
    | zero => intro hd; exact (h2 (i + 1) hd).2 (by omega)
    | succ d ih =>
      intro hd
      have a1 := ih (by omega)
      have a2 := (h2 (i + (d + 1) + 1) hd).2 (by omega)
      rw [show i + (d + 1) + 1 - 1 = i + d + 1 by omega] at a2
      omega
  have := key (j - i - 1) (by omega)
  rw [show i + (j - i - 1) + 1 = j by omega] at this
  exact this
theorem pts_ok {b : Nat → Nat} (h : allB (idB b) (b 5) = true) {i : Nat} (hi : i < b 5) {k : Nat} (hk : k < 4) : b (esN b i + 2 + k) ≤ 200 := by
  have := allB_iff.mp h i hi
  unfold idB at this
  rw [Bool.and_eq_true] at this
  exact of_decide_eq_true (allB_iff.mp this.2 k hk)
/-- the class when the head, the centres and the words are read -/
def LH (S S' : St) (b : Nat → Nat) : Prop := S'.2 = S.2 ∧ (∀ a i, ¬ (a = 4 ∨ a = 9 ∨ (104 ≤ a ∧ a < 124)) → S'.1 a i = S.1 a i) ∧ (∀ k, k < 4 → S'.1 9 k = stN b k) ∧ S'.1 4 3 = nI 1 ∧ S'.1 4 4 = nI (b 2) ∧ S'.1 4 5 = nI (b 3) ∧ S'.1 4 6 = nI (b 4) ∧ (∀ l, l < b 3 → ∀ k, k < 4 → S'.1 (104 + l) k = wdN b (l * 4 + k)) ∧ ∀ part, part < parts (nI (b 2)) → ∀ j, j < b 4 → ∀ k, k < pwid (nI (b 2)) → S'.1 (108 + (part * 4 + j)) k = wdN b (b 3 * 4 + wix (b 4) (pwid (nI (b 2))) part j k)
theorem pt4 {a b c d : Int32} {f : Nat → Int32} (h0 : f 0 = a) (h1 : f 1 = b) (h2 : f 2 = c) (h3 : f 3 = d) {k : Nat} (hk : k < 4) : pt a b c d k = f k := by
  match k, hk with
  | 0, _ => exact h0.symm
  | 1, _ => exact h1.symm
  | 2, _ => exact h2.symm
  | 3, _ => exact h3.symm
theorem turn_ok4 {f : Nat → Int32} (h : turnOK (f 0) (f 1) (f 2) (f 3) = true) {k : Nat} (hk : k < 4) : okStep (f k) := by
  obtain ⟨h0, h1, h2, h3⟩ := turn_steps h
  match k, hk with
  | 0, _ => exact step_ok h0
  | 1, _ => exact step_ok h1
  | 2, _ => exact step_ok h2
  | 3, _ => exact step_ok h3
set_option maxRecDepth 100000 in
set_option maxHeartbeats 4000000 in
theorem c_q_load (S : St) (b : Nat → Nat) (hb : ∀ p, p < 250 → S.1 25 p = nI (b p) ∧ b p ≤ 255) (n : Nat) (hn : S.1 7 1 = nI n) (hn2 : n ≤ 250) (hT : ∀ i, i < 20 → 124 ≤ S.2 i ∧ S.2 i < 144) (hinj : ∀ i j, i < 20 → j < 20 → S.2 i = S.2 j → i = j) : Ev M_q_load [.ref 0] S (fun v9 S' => v9 = some (.int (nI (faN b n))) ∧ (¬ faN b n = 0 → S' = S) ∧ (faN b n = 0 → ∃ S3, LH S S3 b ∧ LE S3 S' b (nI (b 2)) (b 3) (b 4) (b 5))) := by
  refine Ev.of MF_q_load (all_cat rfl) (Nat.le_of_ble_eq_true rfl) ?_
  show Wp M_q_load 0 [.ref 0, .null] [] _ _
  have hf9 := faN_le b n
  refine w_aload_n d_q_load_0 rfl ?_
  refine w_getR d_q_load_1 FL_q_54 (by decide) (rfl) (rfl) ?_
  refine w_callV0 (N := M_y_fault) d_q_load_4 LK_q_218 MF_y_fault MV_y_fault NP_y_fault (by decide) (by decide) (rfl) rfl rfl (Nat.le_of_ble_eq_true rfl) ?_
  refine Ev.det (c_y_fault S b hb n hn hn2) ?_
  refine w_istore_n d_q_load_7 (Nat.le_of_ble_eq_true rfl) ?_
  refine w_iload_n d_q_load_8 rfl ?_
  refine w_if_eqN 14 d_q_load_9 (by decide) (by omega) (fun h9 => ?_) (fun h9 => ?_)
  · refine w_aload_n d_q_load_14 rfl ?_
    refine w_callV0 (N := M_q_readHead) d_q_load_15 LK_q_221 MF_q_readHead MV_q_readHead NP_q_readHead (by decide) (by decide) (rfl) rfl rfl (Nat.le_of_ble_eq_true rfl) ?_
    obtain ⟨z1, z2, z3, z4, z5, z6⟩ := faN_0 h9
    have hsz := of_decide_eq_true z2
    obtain ⟨i1, i2⟩ := ids_ok z6
    refine Ev.det (c_q_readHead S b hb) ?_
    obtain ⟨S1, hS1⟩ : ∃ S1, S1 = setRow (put (put (put (put S 4 3 (nI 1)) 4 4 (nI (b 2))) 4 5 (nI (b 3))) 4 6 (nI (b 4))) 9 (pt (stN b 0) (stN b 1) (stN b 2) (stN b 3)) 4 := ⟨_, rfl⟩
    rw [← hS1]
    have e1 : ∀ a i, ¬ (a = 4 ∨ a = 9) → S1.1 a i = S.1 a i := fun a i ha => by rw [hS1, setRow_ne (by omega), put_ne (by omega), put_ne (by omega), put_ne (by omega), put_ne (by omega)]
    have e9 : ∀ k, k < 4 → S1.1 9 k = stN b k := fun k hk => by rw [hS1, setRow_at hk]; exact pt4 rfl rfl rfl rfl hk
    have e43 : S1.1 4 3 = nI 1 := by rw [hS1, setRow_ne (by decide), put_ne (by decide), put_ne (by decide), put_ne (by decide), put_at]
    have e44 : S1.1 4 4 = nI (b 2) := by rw [hS1, setRow_ne (by decide), put_ne (by decide), put_ne (by decide), put_at]
    have e45 : S1.1 4 5 = nI (b 3) := by rw [hS1, setRow_ne (by decide), put_ne (by decide), put_at]
    have e46 : S1.1 4 6 = nI (b 4) := by rw [hS1, setRow_ne (by decide), put_at]
    have eT : S1.2 = S.2 := by rw [hS1]; rfl
    have hb1 := hb_keep (S1 := S1) hb (fun p => e1 25 p (by decide))
    refine w_aload_n d_q_load_18 rfl ?_
    refine w_callV0 (N := M_q_readCentres) d_q_load_19 LK_q_224 MF_q_readCentres MV_q_readCentres NP_q_readCentres (by decide) (by decide) (rfl) rfl rfl (Nat.le_of_ble_eq_true rfl) ?_
    refine Ev.mono (c_q_readCentres S1 b hb1 (b 3) e45 (by omega)) (fun r9 S2 hq => ?_)
    obtain ⟨rfl, f1, f2, f3⟩ := hq
    show Wp _ _ _ [] _ _
    have hb2 := hb_keep (S1 := S2) hb1 (fun p => f2 25 p (by decide))
    refine w_aload_n d_q_load_22 rfl ?_
    refine w_callV0 (N := M_q_readWords) d_q_load_23 LK_q_227 MF_q_readWords MV_q_readWords NP_q_readWords (by decide) (by decide) (rfl) rfl rfl (Nat.le_of_ble_eq_true rfl) ?_
    refine Ev.mono (c_q_readWords S2 b hb2 (nI (b 2)) (b 3) (b 4) ((f2 4 4 (by decide)).trans e44) ((f2 4 5 (by decide)).trans e45) (by omega) ((f2 4 6 (by decide)).trans e46) (by omega)) (fun r9 S3 hq => ?_)
    obtain ⟨rfl, g1, g2, g3⟩ := hq
    show Wp _ _ _ [] _ _
    have hb3 := hb_keep (S1 := S3) hb2 (fun p => g2 25 p (by decide))
    have hLH : LH S S3 b := ⟨g1.trans (f1.trans eT), fun a i ha => (g2 a i (by omega)).trans ((f2 a i (by omega)).trans (e1 a i (by omega))), fun k hk => (g2 9 k (by decide)).trans ((f2 9 k (by decide)).trans (e9 k hk)), (g2 4 3 (by decide)).trans ((f2 4 3 (by decide)).trans e43), (g2 4 4 (by decide)).trans ((f2 4 4 (by decide)).trans e44), (g2 4 5 (by decide)).trans ((f2 4 5 (by decide)).trans e45), (g2 4 6 (by decide)).trans ((f2 4 6 (by decide)).trans e46), fun l hl k hk => (g2 _ _ (by omega)).trans (f3 l hl k hk), g3⟩
    obtain ⟨w1, w2, w3, w4, w5, w6, w7, w8, w9⟩ := hLH
    refine w_aload_n d_q_load_26 rfl ?_
    refine w_callV0 (N := M_q_readEntries) d_q_load_27 LK_q_230 MF_q_readEntries MV_q_readEntries NP_q_readEntries (by decide) (by decide) (rfl) rfl rfl (Nat.le_of_ble_eq_true rfl) ?_
    refine Ev.mono (c_q_readEntries S3 b hb3 (nI (b 2)) (b 3) (b 4) w5 w6 (by omega) (by omega) w7 (by omega) (by omega) (by rw [w1]; exact hT) (by rw [w1]; exact hinj) (fun k hk => by rw [w3 k hk]; exact turn_ok4 z3 hk) (by omega) (by omega) i1 i2) (fun r9 S4 hq => ?_)
    obtain ⟨rfl, hLE⟩ := hq
    show Wp _ _ _ [] _ _
    have hLH : LH S S3 b := ⟨w1, w2, w3, w4, w5, w6, w7, w8, w9⟩
    refine w_iconst (v := nI 0) d_q_load_30 (by decide +kernel) ?_
    refine w_iret (st := []) rfl d_q_load_31 ?_
    exact ⟨by rw [h9], fun q => absurd h9 q, fun _ => ⟨S3, hLH, hLE⟩⟩
  · refine w_iload_n d_q_load_12 rfl ?_
    refine w_iret (st := []) rfl d_q_load_13 ?_
    exact ⟨rfl, fun _ => rfl, fun q => absurd q h9⟩
