/-! The class's cells and the reference's, held against each other. -/
def InvT (S : St) : Prop := ∀ k, k < 4 → S.1 9 k = S.1 26 k ∧ okStep (S.1 26 k)
def InvS (S : St) (ns : Nat) : Prop := ns ≤ 24 ∧ S.1 2 1 = nI ns ∧ S.1 8 2 = nI ns ∧ ∀ i, i < ns → ∀ k, k < 4 → S.1 (48 + i) k = S.1 27 (4 * i + k) ∧ bd 100 (S.1 27 (4 * i + k))
def QH (S : St) (kn nl nc : Nat) : Prop := (S.1 4 4 = nI kn ∧ S.1 8 4 = nI kn ∧ kn ≤ 2) ∧ (S.1 4 5 = nI nl ∧ S.1 8 5 = nI nl ∧ 0 < nl ∧ nl ≤ 4) ∧ (S.1 4 6 = nI nc ∧ S.1 8 6 = nI nc ∧ 0 < nc ∧ nc ≤ 4) ∧ (∀ l, l < nl → ∀ k, k < 4 → S.1 (104 + l) k = S.1 28 (4 * l + k) ∧ bd 300 (S.1 28 (4 * l + k))) ∧ ∀ p, p < parts (nI kn) → ∀ j, j < nc → ∀ k, k < pwid (nI kn) → S.1 (108 + (p * 4 + j)) k = S.1 29 (8 * p + 2 * j + k) ∧ bd 300 (S.1 29 (8 * p + 2 * j + k))
/-- the entry of the number i is the point of the id u -/
def EE1 (S : St) (kn nl nc i u : Nat) : Prop := S.1 (S.2 i) 3 = nI u ∧ (∀ k, k < 4 → S.1 (S.2 i + 20) k = S.1 31 (4 * u + k) ∧ bd 100 (S.1 31 (4 * u + k)) ∧ S.1 (S.2 i + 40) k = mtv S u k) ∧ S.1 (S.2 i) 4 = nI (lsM S nl (mtv S u)) ∧ ∀ q, q < parts (nI kn) → S.1 (S.2 i + 60) q = nI (cdM S (nI kn) nc (lfM S (lsM S nl (mtv S u)) (mtv S u)) q)
def InvE (S : St) (m : Nat) : Prop := S.1 5 1 = nI m ∧ S.1 8 11 = nI m ∧ m = cntB (prM S) 1000 ∧ m ≤ 20 ∧ (∀ i, i < 20 → 124 ≤ S.2 i ∧ S.2 i < 144) ∧ (∀ i j, i < 20 → j < 20 → S.2 i = S.2 j → i = j) ∧ (S.1 4 3 = 0 → m = 0)
def InvM (S : St) (m : Nat) : Prop := S.1 4 3 = S.1 8 3 ∧ InvE S m ∧ (¬ S.1 4 3 = 0 → ∃ kn nl nc, QH S kn nl nc ∧ ∀ u, u < 1000 → prM S u = true → EE1 S kn nl nc (cntB (prM S) u) u)
def InvF (S : St) (pb rf rs : Nat) : Prop := S.1 6 5 = nI pb ∧ S.1 8 12 = nI pb ∧ pb ≤ 4 ∧ S.1 6 6 = nI rf ∧ S.1 8 13 = nI rf ∧ rf ≤ 3 ∧ S.1 6 7 = S.1 8 17 ∧ S.1 6 8 = nI rs ∧ S.1 8 16 = nI rs ∧ rs ≤ 8 ∧ ∀ j, j < rs → S.1 24 j = S.1 32 j ∧ S.1 23 j = S.1 33 j
def InvB (S : St) (n : Nat) (b : Nat → Nat) : Prop := S.1 7 1 = nI n ∧ S.1 8 19 = nI n ∧ n ≤ 250 ∧ ∀ p, p < 250 → S.1 25 p = nI (b p) ∧ S.1 34 p = nI (b p) ∧ b p ≤ 255
def Inv (S : St) : Prop := InvT S ∧ (∃ ns, InvS S ns) ∧ (∃ m, InvM S m) ∧ (∃ pb rf rs, InvF S pb rf rs) ∧ ∃ n b, InvB S n b
/-- the rows each part speaks of -/
def inT (a : Nat) : Prop := a = 9 ∨ a = 26
def inS (a i : Nat) : Prop := a = 2 ∨ (48 ≤ a ∧ a < 72) ∨ a = 27 ∨ (a = 8 ∧ i = 2)
def inE (a i : Nat) : Prop := a = 4 ∨ a = 5 ∨ a = 30 ∨ (a = 8 ∧ (i = 3 ∨ i = 4 ∨ i = 5 ∨ i = 6 ∨ i = 11))
def inM (a i : Nat) : Prop := a = 4 ∨ a = 5 ∨ a = 26 ∨ a = 28 ∨ a = 29 ∨ a = 30 ∨ a = 31 ∨ (104 ≤ a ∧ a < 204) ∨ (a = 8 ∧ (i = 3 ∨ i = 4 ∨ i = 5 ∨ i = 6 ∨ i = 11))
def inF (a i : Nat) : Prop := a = 6 ∨ a = 23 ∨ a = 24 ∨ a = 32 ∨ a = 33 ∨ (a = 8 ∧ (i = 12 ∨ i = 13 ∨ i = 16 ∨ i = 17))
def inB (a i : Nat) : Prop := a = 7 ∨ a = 25 ∨ a = 34 ∨ (a = 8 ∧ i = 19)
theorem InvT.keep {S S' : St} (h : InvT S) (e : ∀ a i, inT a → S'.1 a i = S.1 a i) : InvT S' := fun k hk => by
  rw [e 9 k (by unfold inT; omega), e 26 k (by unfold inT; omega)]
  exact h k hk
theorem InvS.keep {S S' : St} {ns : Nat} (h : InvS S ns) (e : ∀ a i, inS a i → S'.1 a i = S.1 a i) : InvS S' ns := by
  obtain ⟨h1, h2, h3, h4⟩ := h
  refine ⟨h1, by rw [e 2 1 (by unfold inS; omega)]; exact h2, by rw [e 8 2 (by unfold inS; omega)]; exact h3, fun i hi k hk => ?_⟩
  rw [e (48 + i) k (by unfold inS; omega), e 27 _ (by unfold inS; omega)]
  exact h4 i hi k hk
theorem InvF.keep {S S' : St} {pb rf rs : Nat} (h : InvF S pb rf rs) (e : ∀ a i, inF a i → S'.1 a i = S.1 a i) : InvF S' pb rf rs := by
  unfold InvF
  rw [e 6 5 (by unfold inF; omega), e 8 12 (by unfold inF; omega), e 6 6 (by unfold inF; omega), e 8 13 (by unfold inF; omega), e 6 7 (by unfold inF; omega), e 8 17 (by unfold inF; omega), e 6 8 (by unfold inF; omega), e 8 16 (by unfold inF; omega)]
  obtain ⟨h1, h2, h3, h4, h5, h6, h7, h8, h9, h10, h11⟩ := h
  refine ⟨h1, h2, h3, h4, h5, h6, h7, h8, h9, h10, fun j hj => ?_⟩
  rw [e 24 j (by unfold inF; omega), e 32 j (by unfold inF; omega), e 23 j (by unfold inF; omega), e 33 j (by unfold inF; omega)]
  exact h11 j hj
theorem InvB.keep {S S' : St} {n : Nat} {b : Nat → Nat} (h : InvB S n b) (e : ∀ a i, inB a i → S'.1 a i = S.1 a i) : InvB S' n b := by
  obtain ⟨h1, h2, h3, h4⟩ := h
  refine ⟨by rw [e 7 1 (by unfold inB; omega)]; exact h1, by rw [e 8 19 (by unfold inB; omega)]; exact h2, h3, fun p hp => ?_⟩
  rw [e 25 p (by unfold inB; omega), e 34 p (by unfold inB; omega)]
  exact h4 p hp
theorem prM_keep {S S' : St} (e : ∀ i, S'.1 30 i = S.1 30 i) : prM S' = prM S := by
  funext u
  unfold prM
  rw [e u]
theorem InvE.keep {S S' : St} {m : Nat} (h : InvE S m) (e2 : S'.2 = S.2) (e : ∀ a i, inE a i → S'.1 a i = S.1 a i) : InvE S' m := by
  unfold InvE
  rw [e2, e 5 1 (by unfold inE; omega), e 8 11 (by unfold inE; omega), e 4 3 (by unfold inE; omega), prM_keep (fun i => e 30 i (by unfold inE; omega))]
  exact h
theorem QH.keep {S S' : St} {kn nl nc : Nat} (h : QH S kn nl nc) (e : ∀ a i, a = 4 ∨ a = 28 ∨ a = 29 ∨ (104 ≤ a ∧ a < 124) ∨ (a = 8 ∧ (i = 4 ∨ i = 5 ∨ i = 6)) → S'.1 a i = S.1 a i) : QH S' kn nl nc := by
  unfold QH
  rw [e 4 4 (by omega), e 8 4 (by omega), e 4 5 (by omega), e 8 5 (by omega), e 4 6 (by omega), e 8 6 (by omega)]
  obtain ⟨h1, h2, h3, h4, h5⟩ := h
  refine ⟨h1, h2, h3, fun l hl k hk => ?_, fun p hp j hj k hk => ?_⟩
  · rw [e (104 + l) k (by omega), e 28 _ (by omega)]
    exact h4 l hl k hk
  · have := parts_le (nI kn)
    rw [e (108 + (p * 4 + j)) k (by omega), e 29 _ (by omega)]
    exact h5 p hp j hj k hk
theorem EE1.keep {S S' : St} {kn nl nc i j u : Nat} (h : EE1 S kn nl nc i u) (hi : 124 ≤ S.2 i ∧ S.2 i < 144) (e2 : S'.2 j = S.2 i) (h26 : ∀ z, S'.1 26 z = S.1 26 z) (h28 : ∀ z, S'.1 28 z = S.1 28 z) (h29 : ∀ z, S'.1 29 z = S.1 29 z) (h31 : ∀ k, k < 4 → S'.1 31 (4 * u + k) = S.1 31 (4 * u + k)) (ho : ∀ k, k < 4 → okStep (S.1 26 k)) (he : ∀ a z, a = S.2 i ∨ a = S.2 i + 20 ∨ a = S.2 i + 40 ∨ a = S.2 i + 60 → S'.1 a z = S.1 a z) : EE1 S' kn nl nc j u := by
  have em : ∀ k, k < 4 → mtv S' u k = mtv S u k := fun k hk => by
    unfold mtv
    rw [h26 k]
    exact tval_congr (ho k hk) (fun z hz => h31 z hz)
  have el : lsM S' nl (mtv S' u) = lsM S nl (mtv S u) := lsM_congr h28 em
  obtain ⟨h1, h2, h3, h4⟩ := h
  unfold EE1
  rw [e2, el]
  refine ⟨by rw [he _ _ (Or.inl rfl)]; exact h1, fun k hk => ?_, by rw [he _ _ (Or.inl rfl)]; exact h3, fun q hq => ?_⟩
  · rw [he _ _ (Or.inr (Or.inl rfl)), he _ _ (Or.inr (Or.inr (Or.inl rfl))), h31 k hk, em k hk]
    exact h2 k hk
  · rw [he _ _ (Or.inr (Or.inr (Or.inr rfl))), h4 q hq]
    refine congrArg nI (cdM_congr hq (fun z => (h29 z).symm) (fun k hk => ?_))
    unfold lfM
    rw [em k hk, h28]
theorem InvM.keep {S S' : St} {m : Nat} (hT : InvT S) (h : InvM S m) (e2 : S'.2 = S.2) (e : ∀ a i, inM a i → S'.1 a i = S.1 a i) : InvM S' m := by
  obtain ⟨h1, h2, h3⟩ := h
  have h2' := h2.keep e2 (fun a i hi => e a i (by unfold inE at hi; unfold inM; omega))
  refine ⟨by rw [e 4 3 (by unfold inM; omega), e 8 3 (by unfold inM; omega)]; exact h1, h2', fun q => ?_⟩
  rw [e 4 3 (by unfold inM; omega)] at q
  obtain ⟨kn, nl, nc, hq, hu⟩ := h3 q
  refine ⟨kn, nl, nc, hq.keep (fun a i hi => e a i (by unfold inM; omega)), fun u hu1 hu2 => ?_⟩
  have ep : prM S' = prM S := prM_keep (fun i => e 30 i (by unfold inM; omega))
  rw [ep] at hu2 ⊢
  have hlt : cntB (prM S) u < 20 := by
    have := cntB_lt hu1 hu2
    have hm := h2.2.2.1
    have h20 := h2.2.2.2.1
    omega
  have hT2 := h2.2.2.2.2.1 _ hlt
  exact (hu u hu1 hu2).keep hT2 (by rw [e2]) (fun z => e 26 z (by unfold inM; omega)) (fun z => e 28 z (by unfold inM; omega)) (fun z => e 29 z (by unfold inM; omega)) (fun k _ => e 31 _ (by unfold inM; omega)) (fun k hk => (hT k hk).2) (fun a z ha => e a z (by unfold inM; omega))
/-- while nothing is trained there are no entries -/
theorem InvM.keep0 {S S' : St} {m : Nat} (h : InvM S m) (h0 : S.1 4 3 = 0) (e2 : S'.2 = S.2) (e : ∀ a i, inE a i → S'.1 a i = S.1 a i) : InvM S' m := by
  obtain ⟨h1, h2, h3⟩ := h
  refine ⟨by rw [e 4 3 (by unfold inE; omega), e 8 3 (by unfold inE; omega)]; exact h1, h2.keep e2 e, fun q => ?_⟩
  rw [e 4 3 (by unfold inE; omega)] at q
  exact absurd h0 q
theorem Inv.keep {S S' : St} (h : Inv S) (e2 : S'.2 = S.2) (e : ∀ a i, (inT a ∨ inS a i ∨ inM a i ∨ inF a i ∨ inB a i) → S'.1 a i = S.1 a i) : Inv S' := by
  obtain ⟨h1, ⟨ns, h2⟩, ⟨m, h3⟩, ⟨pb, rf, rs, h4⟩, n, b, h5⟩ := h
  exact ⟨h1.keep (fun a i q => e a i (Or.inl q)), ⟨ns, h2.keep (fun a i q => e a i (Or.inr (Or.inl q)))⟩, ⟨m, h3.keep h1 e2 (fun a i q => e a i (Or.inr (Or.inr (Or.inl q))))⟩, ⟨pb, rf, rs, h4.keep (fun a i q => e a i (Or.inr (Or.inr (Or.inr (Or.inl q)))))⟩, n, b, h5.keep (fun a i q => e a i (Or.inr (Or.inr (Or.inr (Or.inr q)))))⟩
/-- the reference's own rows, free to change -/
theorem Inv.FrG {S S' : St} (h : Inv S) (hf : FrG S S') : Inv S' := h.keep hf.1 (fun a i q => hf.2 a i (by unfold inT inS inM inF inB at q; omega))
/-- a call of the class, and the same call of the reference -/
def Stq (N K : Mt) (as : List Value) (S : St) : Prop := Ev N (.ref 0 :: as) S (fun r S1 => ∃ v, r = some (.int v) ∧ Ev K (.ref 8 :: as) S1 (fun r' S2 => r' = some (.int v) ∧ Inv S2))
