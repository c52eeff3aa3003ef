/-! The finder's search. Entry number i (its place in the table) has the list l i and the code c i. -/
def cntB (p : Nat → Bool) : Nat → Nat
  | 0 => 0
  | n + 1 => cntB p n + if p n = true then 1 else 0
theorem cntB_s1 {p : Nat → Bool} {n : Nat} (h : p n = true) : cntB p (n + 1) = cntB p n + 1 := by show cntB p n + (if p n = true then 1 else 0) = _; rw [if_pos h]
theorem cntB_s0 {p : Nat → Bool} {n : Nat} (h : p n = false) : cntB p (n + 1) = cntB p n := by show cntB p n + (if p n = true then 1 else 0) = _; rw [if_neg (by rw [h]; decide)]; rfl
theorem cntB_mono {p : Nat → Bool} : ∀ {a b : Nat}, a ≤ b → cntB p a ≤ cntB p b := by
  intro a b h
  induction b with
  | zero => obtain rfl : a = 0 := by omega
            exact Nat.le_refl _
  | succ b ih =>
    by_cases hab : a = b + 1
    · subst hab; exact Nat.le_refl _
    · have := ih (by omega)
      show _ ≤ cntB p b + _
      omega
theorem cntB_le (p : Nat → Bool) : ∀ n, cntB p n ≤ n
  | 0 => Nat.le_refl 0
  | n + 1 => by
    have := cntB_le p n
    show cntB p n + (if p n = true then 1 else 0) ≤ n + 1
    split <;> omega
theorem cntB_lt {p : Nat → Bool} {a b : Nat} (h : a < b) (ha : p a = true) : cntB p a < cntB p b := by
  have h1 := cntB_mono (p := p) (show a + 1 ≤ b from h)
  rw [cntB_s1 ha] at h1
  omega
theorem cntB_inj {p : Nat → Bool} {a b : Nat} (ha : p a = true) (hb : p b = true) (h : cntB p a = cntB p b) : a = b := by
  by_cases h1 : a < b
  · have := cntB_lt h1 ha; omega
  · by_cases h2 : b < a
    · have := cntB_lt h2 hb; omega
    · omega
theorem cntB_surj {p : Nat → Bool} : ∀ {n j : Nat}, j < cntB p n → ∃ i, i < n ∧ p i = true ∧ cntB p i = j
  | 0, j, h => absurd h (Nat.not_lt_zero j)
  | n + 1, j, h => by
    by_cases hj : j < cntB p n
    · obtain ⟨i, h1, h2⟩ := cntB_surj hj
      exact ⟨i, by omega, h2⟩
    · cases hp : p n with
      | true =>
        rw [cntB_s1 hp] at h
        exact ⟨n, by omega, hp, by omega⟩
      | false =>
        rw [cntB_s0 hp] at h
        omega
theorem cntB_congr {p q : Nat → Bool} : ∀ {n : Nat}, (∀ i, i < n → p i = q i) → cntB p n = cntB q n
  | 0, _ => rfl
  | n + 1, h => by
    show cntB p n + (if p n = true then 1 else 0) = cntB q n + (if q n = true then 1 else 0)
    rw [cntB_congr (fun i hi => h i (by omega)), h n (by omega)]
def prb (S : St) (nl pb : Nat) (l : Nat → Nat) (i : Nat) : Bool := decide (lbef (fun j => dst (S.1 (104 + j)) (S.1 21) 4) (l i) nl < pb)
def dcd (S : St) (kind : Int32) (l : Nat → Nat) (c : Nat → Nat → Nat) (i : Nat) : Int32 := if kind = nI 2 then dst (S.1 21) (S.1 (S.2 i + 40)) 4 else wsum S kind (lfOf S (l i) (S.1 21)) (c i) (parts kind)
def exd (S : St) (i : Nat) : Int32 := dst (S.1 21) (S.1 (S.2 i + 40)) 4
theorem wsum_congr {S S' : St} {kind : Int32} {y y' : Nat → Int32} {c : Nat → Nat} (hy : ∀ k, k < 4 → y k = y' k) : ∀ {p : Nat}, p ≤ parts kind → (∀ q, q < p → ∀ k, k < pwid kind → S.1 (108 + (q * 4 + c q)) k = S'.1 (108 + (q * 4 + c q)) k) → wsum S kind y c p = wsum S' kind y' c p
  | 0, _, _ => rfl
  | p + 1, hp, h => by
    show wsum S kind y c p + wdOf S kind y p (c p) = wsum S' kind y' c p + wdOf S' kind y' p (c p)
    rw [wsum_congr hy (by omega) (fun q hq => h q (by omega)), wdOf_congr (by omega) (h p (by omega)) hy]
/-- what the entries' rows hold -/
def EH (S : St) (kind : Int32) (nl m : Nat) (l : Nat → Nat) (c : Nat → Nat → Nat) : Prop := S.1 4 4 = kind ∧ S.1 4 5 = nI nl ∧ 0 < nl ∧ nl ≤ 4 ∧ S.1 5 1 = nI m ∧ m ≤ 20 ∧ (∀ i, i < 20 → 124 ≤ S.2 i ∧ S.2 i < 144) ∧ ∀ i, i < m → (S.1 (S.2 i) 4 = nI (l i) ∧ l i < nl) ∧ ∀ k, k < parts kind → S.1 (S.2 i + 60) k = nI (c i k) ∧ c i k < 4
/-- what the finder may write -/
def FrF (S S' : St) : Prop := S'.2 = S.2 ∧ ∀ a i, ¬ (a = 18 ∨ a = 22 ∨ a = 23 ∨ a = 24 ∨ (a = 6 ∧ (i = 7 ∨ i = 8))) → S'.1 a i = S.1 a i
theorem FrF.rf (S : St) : FrF S S := ⟨rfl, fun _ _ _ => rfl⟩
theorem FrF.tr {S S1 S2 : St} (h : FrF S S1) (h2 : FrF S1 S2) : FrF S S2 := ⟨h2.1.trans h.1, fun a i q => (h2.2 a i q).trans (h.2 a i q)⟩
theorem FrF.fn {S S1 : St} (h : FrF S S1) {a : Nat} (ha : ¬ (a = 18 ∨ a = 22 ∨ a = 23 ∨ a = 24 ∨ a = 6)) : S1.1 a = S.1 a := by
  funext i
  exact h.2 a i (by omega)
theorem FrF.put {S S1 : St} {c i : Nat} {v : Int32} (h : FrF S S1) (hc : c = 18 ∨ c = 22 ∨ c = 23 ∨ c = 24 ∨ (c = 6 ∧ (i = 7 ∨ i = 8))) : FrF S (put S1 c i v) := ⟨h.1, fun a j q => (put_ne (c := c) (i := i) (c' := a) (i' := j) (fun z => q (by rw [z.1, z.2]; exact hc))).trans (h.2 a j q)⟩
theorem EH.keep {S S1 : St} {kind : Int32} {nl m : Nat} {l : Nat → Nat} {c : Nat → Nat → Nat} (h : EH S kind nl m l c) (hf : FrF S S1) : EH S1 kind nl m l c := by
  obtain ⟨h1, h2, h3, h4, h5, h6, h7, h8⟩ := h
  refine ⟨by rw [hf.2 4 4 (by omega)]; exact h1, by rw [hf.2 4 5 (by omega)]; exact h2, h3, h4, by rw [hf.2 5 1 (by omega)]; exact h5, h6, by rw [hf.1]; exact h7, fun i hi => ?_⟩
  have hT := h7 i (by omega)
  rw [hf.1, hf.2 (S.2 i) 4 (by omega)]
  refine ⟨(h8 i hi).1, fun k hk => ?_⟩
  rw [hf.2 (S.2 i + 60) k (by omega)]
  exact (h8 i hi).2 k hk
theorem prb_keep {S S1 : St} {nl pb : Nat} {l : Nat → Nat} (hf : FrF S S1) (hl : nl ≤ 4) {i : Nat} (hli : l i < nl) : prb S1 nl pb l i = prb S nl pb l i := by
  unfold prb
  rw [hf.fn (a := 21) (by omega)]
  have e : ∀ n, n ≤ nl → lbef (fun j => dst (S1.1 (104 + j)) (S.1 21) 4) (l i) n = lbef (fun j => dst (S.1 (104 + j)) (S.1 21) 4) (l i) n := by
    intro n hn
    induction n with
    | zero => rfl
    | succ n ih =>
      show lbef _ (l i) n + (if dst (S1.1 (104 + n)) (S.1 21) 4 < dst (S1.1 (104 + l i)) (S.1 21) 4 ∨ dst (S1.1 (104 + n)) (S.1 21) 4 = dst (S1.1 (104 + l i)) (S.1 21) 4 ∧ n < l i then 1 else 0) = lbef _ (l i) n + _
      rw [ih (by omega), hf.fn (a := 104 + n) (by omega), hf.fn (a := 104 + l i) (by omega)]
  rw [e nl (Nat.le_refl nl)]
theorem exd_keep {S S1 : St} (hf : FrF S S1) {i : Nat} (hT : 124 ≤ S.2 i ∧ S.2 i < 144) : exd S1 i = exd S i := by
  unfold exd
  rw [hf.1, hf.fn (a := 21) (by omega), hf.fn (a := S.2 i + 40) (by omega)]
theorem dcd_keep {S S1 : St} {kind : Int32} {l : Nat → Nat} {c : Nat → Nat → Nat} (hf : FrF S S1) {i : Nat} (hT : 124 ≤ S.2 i ∧ S.2 i < 144) (hl : l i < 4) (hc : ∀ k, k < parts kind → c i k < 4) : dcd S1 kind l c i = dcd S kind l c i := by
  unfold dcd
  rw [hf.1, hf.fn (a := 21) (by omega), hf.fn (a := S.2 i + 40) (by omega)]
  have e : wsum S1 kind (lfOf S1 (l i) (S.1 21)) (c i) (parts kind) = wsum S kind (lfOf S (l i) (S.1 21)) (c i) (parts kind) := by
    refine wsum_congr (fun k _ => ?_) (Nat.le_refl _) (fun q hq k _ => ?_)
    · unfold lfOf
      rw [hf.fn (a := 104 + l i) (by omega)]
    · have := parts_le kind
      have := hc q hq
      rw [hf.fn (a := 108 + (q * 4 + c i q)) (by omega)]
  rw [e]
/-- R lists, in their order by D and place, the numbers with p -/
def Enm (R : Nat → Nat) (n : Nat) (p : Nat → Prop) (D : Nat → Int32) : Prop := (∀ j, j < n → p (R j)) ∧ (∀ i, p i → ∃ j, j < n ∧ R j = i) ∧ ∀ a b, a < b → b < n → bef (D (R a)) (nI (R a)) (D (R b)) (nI (R b)) = true
theorem Enm.inj {R : Nat → Nat} {n : Nat} {p : Nat → Prop} {D : Nat → Int32} (h : Enm R n p D) {a b : Nat} (ha : a < n) (hb : b < n) (hab : R a = R b) : a = b := by
  by_cases h1 : a < b
  · have := h.2.2 a b h1 hb
    rw [hab, bef_irr] at this
    cases this
  · by_cases h2 : b < a
    · have := h.2.2 b a h2 ha
      rw [hab, bef_irr] at this
      cases this
    · omega
theorem minN {a b : Nat} (ha : a < 2 ^ 31) (hb : b < 2 ^ 31) : (if nI b < nI a then nI b else nI a) = nI (min a b) := by
  by_cases h : b < a
  · rw [if_pos ((nI_ltI hb ha).mpr h), show min a b = b by omega]
  · rw [if_neg (fun q => h ((nI_ltI hb ha).mp q)), show min a b = a by omega]
/-- a permutation of n numbers reaches all of them -/
theorem Prm.onto : ∀ {n : Nat} {s : Nat → Nat}, Prm s n → ∀ i, i < n → ∃ j, j < n ∧ s j = i
  | 0, _, _, i, hi => absurd hi (by omega)
  | n + 1, s, h, i, hi => by
    by_cases hl : s n = n
    · by_cases hin : i = n
      · exact ⟨n, by omega, by rw [hl, hin]⟩
      · have h' : Prm s n := ⟨fun j hj => by
            have h1 := h.1 j (by omega)
            have h2 : s j ≠ n := fun q => by have := h.2 j n (by omega) (by omega) (by rw [q, hl]); omega
            omega, fun a b ha hb => h.2 a b (by omega) (by omega)⟩
        obtain ⟨j, hj, e⟩ := Prm.onto h' i (by omega)
        exact ⟨j, by omega, e⟩
    · have hsn := h.1 n (by omega)
      have h' : Prm (fun j => if s j = n then s n else s j) n := ⟨fun j hj => by
          show (if s j = n then s n else s j) < n
          have h1 := h.1 j (by omega)
          split <;> omega, fun a b ha hb hab => by
          have hab : (if s a = n then s n else s a) = (if s b = n then s n else s b) := hab
          by_cases q1 : s a = n <;> by_cases q2 : s b = n
          · exact h.2 a b (by omega) (by omega) (by rw [q1, q2])
          · rw [if_pos q1, if_neg q2] at hab
            have := h.2 n b (by omega) (by omega) hab
            omega
          · rw [if_neg q1, if_pos q2] at hab
            have := h.2 a n (by omega) (by omega) hab
            omega
          · rw [if_neg q1, if_neg q2] at hab
            exact h.2 a b (by omega) (by omega) hab⟩
      by_cases hin : i = s n
      · exact ⟨n, by omega, hin.symm⟩
      · by_cases hi2 : i = n
        · obtain ⟨j, hj, e⟩ := Prm.onto h' (s n) (by omega)
          have e : (if s j = n then s n else s j) = s n := e
          by_cases q : s j = n
          · exact ⟨j, by omega, by rw [q, hi2]⟩
          · rw [if_neg q] at e
            have := h.2 j n (by omega) (by omega) e
            omega
        · obtain ⟨j, hj, e⟩ := Prm.onto h' i (by omega)
          have e : (if s j = n then s n else s j) = i := e
          by_cases q : s j = n
          · rw [if_pos q] at e
            exact absurd e.symm hin
          · rw [if_neg q] at e
            exact ⟨j, by omega, e⟩
set_option maxRecDepth 100000 in
set_option maxHeartbeats 4000000 in
theorem c_f_lookThrough (S : St) (kind : Int32) (nl m : Nat) (l : Nat → Nat) (c : Nat → Nat → Nat) (hE : EH S kind nl m l c) (pb : Nat) (hpb : S.1 6 5 = nI pb) (hpb4 : pb ≤ 4) : Ev M_f_lookThrough [.ref 6, .ref 4, .ref 5] S (fun v9 S' => v9 = none ∧ FrF S S' ∧ S'.1 6 7 = nI (cntB (prb S nl pb l) m) ∧ ∀ i, i < m → (prb S nl pb l) i = true → S'.1 22 (cntB (prb S nl pb l) i) = nI i ∧ S'.1 23 (cntB (prb S nl pb l) i) = (dcd S kind l c) i) := by
  refine Ev.of MF_f_lookThrough (all_cat rfl) (Nat.le_of_ble_eq_true rfl) ?_
  show Wp M_f_lookThrough 0 [.ref 6, .ref 4, .ref 5, .null, .null] [] _ _
  have hE0 := hE
  obtain ⟨hk, hl, hl1, hl4, hm, hm20, hT, hen⟩ := hE
  have hk0 : ∀ i, i ≤ m → ∀ (S1 : St) (x4 : Value), FrF S S1 → S1.1 6 7 = nI (cntB (prb S nl pb l) i) → (∀ j, j < i → (prb S nl pb l) j = true → S1.1 22 (cntB (prb S nl pb l) j) = nI j ∧ S1.1 23 (cntB (prb S nl pb l) j) = (dcd S kind l c) j) → Wp M_f_lookThrough 7 [.ref 6, .ref 4, .ref 5, .int (nI i), x4] [] S1 (fun v9 S' => v9 = none ∧ FrF S S' ∧ S'.1 6 7 = nI (cntB (prb S nl pb l) m) ∧ ∀ i, i < m → (prb S nl pb l) i = true → S'.1 22 (cntB (prb S nl pb l) i) = nI i ∧ S'.1 23 (cntB (prb S nl pb l) i) = (dcd S kind l c) i) := by
    refine loopUp (m) (fun i hk9 hn9 => ?_)
    intro S1 x4 h1 h2 h3
    have hE1 := hE0.keep h1
    have hci := cntB_le (prb S nl pb l) i
    refine w_iload_n d_f_lookThrough_7 rfl ?_
    refine w_aload_n d_f_lookThrough_8 rfl ?_
    refine w_getIV (v := (nI m)) d_f_lookThrough_9 FL_f_66 (by decide) (rfl) (rfl) (hE1.2.2.2.2.1) ?_
    refine w_icmp_geN 88 d_f_lookThrough_12 (by decide) (by omega) (by omega) (fun h12 => ?_) (fun h12 => ?_)
    · refine w_ret (st := []) rfl d_f_lookThrough_88 ?_
      obtain rfl : i = m := by omega
      exact ⟨rfl, h1, h2, h3⟩
    · refine w_aload_n d_f_lookThrough_15 rfl ?_
      refine w_getR d_f_lookThrough_16 FL_f_71 (by decide) (rfl) (rfl) ?_
      refine w_iload_n d_f_lookThrough_19 rfl ?_
      refine w_ealdNV (b := ((S.2 i))) d_f_lookThrough_20 (by omega) (by rw [h1.1]) ?_
      refine w_astore d_f_lookThrough_21 (Nat.le_of_ble_eq_true rfl) ?_
      refine w_aload_n d_f_lookThrough_23 rfl ?_
      refine w_aload d_f_lookThrough_24 rfl ?_
      refine w_getIV (v := (nI (l i))) d_f_lookThrough_26 FL_f_75 (by have := hT i (by omega); omega) (kd_ent ((hT i (by omega)).1) ((hT i (by omega)).2)) (fref_entI ((hT i (by omega)).1) (by decide)) (by rw [h1.2 _ _ (by have := hT i (by omega); omega)]; exact (hen i h12).1.1) ?_
      refine w_aload_n d_f_lookThrough_29 rfl ?_
      refine w_getR d_f_lookThrough_30 FL_f_15 (by decide) (rfl) (rfl) ?_
      refine w_callV2 (N := M_z_listsBefore) d_f_lookThrough_33 LK_f_80 MF_z_listsBefore MV_z_listsBefore NP_z_listsBefore (by decide) (by decide) (rfl) rfl rfl (Nat.le_of_ble_eq_true rfl) ?_
      refine Ev.det (c_z_listsBefore S1 nl (l i) 21 hE1.2.1 hl4 (hen i h12).1.2 (by decide) (by decide) (by decide)) ?_
      have hpk := prb_keep (pb := pb) h1 hl4 (hen i h12).1.2
      have hlb := lbef_le (fun j => dst (S1.1 (104 + j)) (S1.1 21) 4) (l i) nl
      show Wp _ 36 _ _ _ _
      refine w_aload_n d_f_lookThrough_36 rfl ?_
      refine w_getIV (v := (nI pb)) d_f_lookThrough_37 FL_f_27 (by decide) (rfl) (rfl) ((h1.2 6 5 (by omega)).trans hpb) ?_
      refine w_icmp_geN 82 d_f_lookThrough_40 (by decide) (by omega) (by omega) (fun h40 => ?_) (fun h40 => ?_)
      · refine w_iincN d_f_lookThrough_82 rfl ?_
        refine w_goto 7 d_f_lookThrough_85 (by decide) ?_
        have hp0 : (prb S nl pb l) i = false := by rw [← hpk]; unfold prb; exact decide_eq_false (fun q => absurd q (by omega))
        refine hn9 h12 _ _ h1 (by rw [cntB_s0 hp0]; exact h2) ?_
        intro j hj hpj
        by_cases hji : j = i
        · rw [hji, hp0] at hpj; cases hpj
        · exact h3 j (by omega) hpj
      · refine w_aload_n d_f_lookThrough_43 rfl ?_
        refine w_getR d_f_lookThrough_44 FL_f_18 (by decide) (rfl) (rfl) ?_
        refine w_aload_n d_f_lookThrough_47 rfl ?_
        refine w_getIV (v := (nI (cntB (prb S nl pb l) i))) d_f_lookThrough_48 FL_f_45 (by decide) (rfl) (rfl) (h2) ?_
        refine w_iload_n d_f_lookThrough_51 rfl ?_
        refine w_iastNP d_f_lookThrough_52 (by decide) (rfl) (show cntB (prb S nl pb l) i < 20 from (by omega)) ?_
        refine w_aload_n d_f_lookThrough_53 rfl ?_
        refine w_getR d_f_lookThrough_54 FL_f_21 (by decide) (rfl) (rfl) ?_
        refine w_aload_n d_f_lookThrough_57 rfl ?_
        refine w_getIV (v := (nI (cntB (prb S nl pb l) i))) d_f_lookThrough_58 FL_f_45 (by decide) (rfl) (rfl) (by rw [put_ne (by omega)]; exact h2) ?_
        refine w_aload_n d_f_lookThrough_61 rfl ?_
        show Wp _ 62 _ _ _ _
        refine w_aload_n d_f_lookThrough_62 rfl ?_
        refine w_getR d_f_lookThrough_63 FL_f_15 (by decide) (rfl) (rfl) ?_
        refine w_aload d_f_lookThrough_66 rfl ?_
        refine w_callV2 (N := M_z_codeDistance) d_f_lookThrough_68 LK_f_86 MF_z_codeDistance MV_z_codeDistance NP_z_codeDistance (by decide) (by decide) (rfl) rfl rfl (Nat.le_of_ble_eq_true rfl) ?_
        have hFp := h1.put (c := 22) (i := cntB (prb S nl pb l) i) (v := nI i) (by omega)
        have hEp := hE0.keep hFp
        have hTi := hT i (by omega)
        have hei := hEp.2.2.2.2.2.2.2 i h12
        rw [hFp.1] at hei
        refine Ev.mono (c_z_codeDistance _ kind 0 (S.2 i) 21 (l i) (c i) hEp.1 hei.1.1 (by have := hei.1.2; omega) hei.2 (by decide) (by decide) (by decide) hTi.1 hTi.2) (fun r9 S3 hq => ?_)
        obtain ⟨rfl, g0, g2⟩ := hq
        have hd0 := dcd_keep (kind := kind) (l := l) (c := c) hFp hTi (by have := hei.1.2; omega) (fun k hk => (hei.2 k hk).2)
        unfold dcd at hd0
        rw [hFp.1] at hd0
        rw [hd0]
        have g1 : FrF (put S1 22 (cntB (prb S nl pb l) i) (nI i)) S3 := ⟨g0, fun a i q => g2 a i (by omega)⟩
        have hp1 : (prb S nl pb l) i = true := by rw [← hpk]; unfold prb; exact decide_eq_true (by omega)
        show Wp _ _ _ (.int (dcd S kind l c i) :: _) _ _
        refine w_iastNP d_f_lookThrough_71 (by decide) (rfl) (show cntB (prb S nl pb l) i < 20 from (by omega)) ?_
        refine w_aload_n d_f_lookThrough_72 rfl ?_
        refine w_dup d_f_lookThrough_73 rfl ?_
        refine w_getIV (v := (nI (cntB (prb S nl pb l) i))) d_f_lookThrough_74 FL_f_45 (by decide) (rfl) (rfl) (by rw [put_ne (by omega), g2 6 7 (by omega), put_ne (by omega)]; exact h2) ?_
        refine w_iconst (v := nI 1) d_f_lookThrough_77 (by decide +kernel) ?_
        refine w_iaddN d_f_lookThrough_78 ?_
        refine w_putIP d_f_lookThrough_79 FL_f_45 FW_6_7 (by decide) (rfl) (rfl) ?_
        refine w_iincN d_f_lookThrough_82 rfl ?_
        show Wp _ 85 _ _ _ _
        refine w_goto 7 d_f_lookThrough_85 (by decide) ?_
        refine hn9 h12 _ _ ((((h1.put (by omega)).tr g1).put (by omega)).put (by omega)) (by rw [put_at, cntB_s1 hp1]) ?_
        intro j hj hpj
        by_cases hji : j = i
        · subst hji
          refine ⟨?_, by rw [put_ne (by omega), put_at]⟩
          rw [put_ne (by omega), put_ne (by omega), g2 22 _ (by omega), put_at]
        · have hne := cntB_lt (show j < i by omega) hpj
          refine ⟨?_, ?_⟩
          · rw [put_ne (by omega), put_ne (by omega), g2 22 _ (by omega), put_ne (by omega)]
            exact (h3 j (by omega) hpj).1
          · rw [put_ne (by omega), put_ne (by omega), g2 23 _ (by omega), put_ne (by omega)]
            exact (h3 j (by omega) hpj).2
  refine w_aload_n d_f_lookThrough_0 rfl ?_
  refine w_iconst (v := nI 0) d_f_lookThrough_1 (by decide +kernel) ?_
  refine w_putIP d_f_lookThrough_2 FL_f_45 FW_6_7 (by decide) (rfl) (rfl) ?_
  refine w_iconst (v := nI 0) d_f_lookThrough_5 (by decide +kernel) ?_
  refine w_istore_n d_f_lookThrough_6 (Nat.le_of_ble_eq_true rfl) ?_
  exact hk0 0 (by omega) _ _ ((FrF.rf S).put (by omega)) put_at lt_0
set_option maxRecDepth 100000 in
set_option maxHeartbeats 4000000 in
theorem c_f_measure (S : St) (n : Nat) (P : Nat → Nat) (hn20 : n ≤ 20) (hP : ∀ j, j < n → S.1 22 j = nI (P j) ∧ P j < 20) (hT : ∀ i, i < 20 → 124 ≤ S.2 i ∧ S.2 i < 144) : Ev M_f_measure [.ref 6, .ref 5, .int (nI n)] S (fun v9 S' => v9 = none ∧ S' = setRow S 23 (fun j => exd S (P j)) n) := by
  refine Ev.of MF_f_measure (all_cat rfl) (Nat.le_of_ble_eq_true rfl) ?_
  show Wp M_f_measure 0 [.ref 6, .ref 5, .int (nI n), .null] [] _ _
  have hk0 : ∀ i, i ≤ n → ∀ (S1 : St), S1 = setRow S 23 (fun j => exd S (P j)) i → Wp M_f_measure 2 [.ref 6, .ref 5, .int (nI n), .int (nI i)] [] S1 (fun v9 S' => v9 = none ∧ S' = setRow S 23 (fun j => exd S (P j)) n) := by
    refine loopUp (n) (fun i hk9 hn9 => ?_)
    intro S1 hS
    have e1 : ∀ a, a ≠ 23 → S1.1 a = S.1 a := fun a ha => by rw [hS, setRow_row ha]
    have e2 : S1.2 = S.2 := by rw [hS]; rfl
    refine w_iload_n d_f_measure_2 rfl ?_
    refine w_iload_n d_f_measure_3 rfl ?_
    refine w_icmp_geN 42 d_f_measure_4 (by decide) (by omega) (by omega) (fun h4 => ?_) (fun h4 => ?_)
    · refine w_ret (st := []) rfl d_f_measure_42 ?_
      obtain rfl : i = n := by omega
      exact ⟨rfl, hS⟩
    · refine w_aload_n d_f_measure_7 rfl ?_
      refine w_getR d_f_measure_8 FL_f_21 (by decide) (rfl) (rfl) ?_
      refine w_iload_n d_f_measure_11 rfl ?_
      refine w_aload_n d_f_measure_12 rfl ?_
      refine w_getR d_f_measure_13 FL_f_15 (by decide) (rfl) (rfl) ?_
      refine w_aload_n d_f_measure_16 rfl ?_
      refine w_getR d_f_measure_17 FL_f_71 (by decide) (rfl) (rfl) ?_
      refine w_aload_n d_f_measure_20 rfl ?_
      refine w_getR d_f_measure_21 FL_f_18 (by decide) (rfl) (rfl) ?_
      refine w_iload_n d_f_measure_24 rfl ?_
      refine w_ialdNV (v := (nI (P i))) d_f_measure_25 (by decide) (rfl) (show i < 20 from (by omega)) (by rw [e1 22 (by decide)]; exact (hP i h4).1) ?_
      show Wp _ 26 _ _ _ _
      refine w_ealdNV (b := ((S.2 (P i)))) d_f_measure_26 ((hP i h4).2) (by rw [e2]) ?_
      refine w_getR d_f_measure_27 FL_f_90 (by have := hT (P i) (by have := (hP i h4).2; omega); omega) (kd_ent ((hT (P i) (by have := (hP i h4).2; omega)).1) ((hT (P i) (by have := (hP i h4).2; omega)).2)) (fref_ent1 ((hT (P i) (by have := (hP i h4).2; omega)).1)) ?_
      refine w_iconst (v := nI 0) d_f_measure_30 (by decide +kernel) ?_
      refine w_iconst (v := nI 4) d_f_measure_31 (by decide +kernel) ?_
      refine w_callS4 (N := M_q_distance) d_f_measure_32 LK_f_93 MF_q_distance MS_q_distance NP_q_distance (by decide) rfl (Nat.le_of_ble_eq_true rfl) ?_
      have hTi := hT (P i) (hP i h4).2
      refine Ev.det (c_q_distance _ _ _ _ _ (by decide) (by decide) (by decide) (by omega) (kd_enta (by omega) (by omega)) (by rw [ln_enta (by omega) (by omega)]; exact Nat.le_refl 4) (by decide)) ?_
      simp only [Nat.zero_add]
      rw [e1 21 (by decide), e1 (S.2 (P i) + 40) (by omega)]
      refine w_iastNP d_f_measure_35 (by decide) (rfl) (show i < 20 from (by omega)) ?_
      refine w_iincN d_f_measure_36 rfl ?_
      refine w_goto 2 d_f_measure_39 (by decide) ?_
      refine hn9 h4 _ ?_
      rw [hS]
      exact setRow_s rfl
  refine w_iconst (v := nI 0) d_f_measure_0 (by decide +kernel) ?_
  refine w_istore_n d_f_measure_1 (Nat.le_of_ble_eq_true rfl) ?_
  exact hk0 0 (by omega) _ (setRow_0 _ _ _).symm
set_option maxRecDepth 100000 in
set_option maxHeartbeats 4000000 in
theorem c_f_keepIds (S : St) (n : Nat) (P : Nat → Nat) (hn : S.1 6 8 = nI n) (hn20 : n ≤ 20) (hP : ∀ j, j < n → S.1 22 j = nI (P j) ∧ P j < 20) (hT : ∀ i, i < 20 → 124 ≤ S.2 i ∧ S.2 i < 144) : Ev M_f_keepIds [.ref 6, .ref 5] S (fun v9 S' => v9 = none ∧ S' = setRow S 24 (fun j => S.1 (S.2 (P j)) 3) n) := by
  refine Ev.of MF_f_keepIds (all_cat rfl) (Nat.le_of_ble_eq_true rfl) ?_
  show Wp M_f_keepIds 0 [.ref 6, .ref 5, .null] [] _ _
  have hk0 : ∀ i, i ≤ n → ∀ (S1 : St), S1 = setRow S 24 (fun j => S.1 (S.2 (P j)) 3) i → Wp M_f_keepIds 2 [.ref 6, .ref 5, .int (nI i)] [] S1 (fun v9 S' => v9 = none ∧ S' = setRow S 24 (fun j => S.1 (S.2 (P j)) 3) n) := by
    refine loopUp (n) (fun i hk9 hn9 => ?_)
    intro S1 hS
    have e1 : ∀ a, a ≠ 24 → S1.1 a = S.1 a := fun a ha => by rw [hS, setRow_row ha]
    have e2 : S1.2 = S.2 := by rw [hS]; rfl
    refine w_iload_n d_f_keepIds_2 rfl ?_
    refine w_aload_n d_f_keepIds_3 rfl ?_
    refine w_getIV (v := (nI n)) d_f_keepIds_4 FL_f_34 (by decide) (rfl) (rfl) (by rw [e1 6 (by decide)]; exact hn) ?_
    refine w_icmp_geN 36 d_f_keepIds_7 (by decide) (by omega) (by omega) (fun h7 => ?_) (fun h7 => ?_)
    · refine w_ret (st := []) rfl d_f_keepIds_36 ?_
      obtain rfl : i = n := by omega
      exact ⟨rfl, hS⟩
    · refine w_aload_n d_f_keepIds_10 rfl ?_
      refine w_getR d_f_keepIds_11 FL_f_24 (by decide) (rfl) (rfl) ?_
      refine w_iload_n d_f_keepIds_14 rfl ?_
      refine w_aload_n d_f_keepIds_15 rfl ?_
      refine w_getR d_f_keepIds_16 FL_f_71 (by decide) (rfl) (rfl) ?_
      refine w_aload_n d_f_keepIds_19 rfl ?_
      refine w_getR d_f_keepIds_20 FL_f_18 (by decide) (rfl) (rfl) ?_
      refine w_iload_n d_f_keepIds_23 rfl ?_
      refine w_ialdNV (v := (nI (P i))) d_f_keepIds_24 (by decide) (rfl) (show i < 20 from (by omega)) (by rw [e1 22 (by decide)]; exact (hP i h7).1) ?_
      refine w_ealdNV (b := ((S.2 (P i)))) d_f_keepIds_25 ((hP i h7).2) (by rw [e2]) ?_
      refine w_getIV (v := ((S.1 (S.2 (P i)) 3))) d_f_keepIds_26 FL_f_100 (by have := hT (P i) (by have := (hP i h7).2; omega); omega) (kd_ent ((hT (P i) (by have := (hP i h7).2; omega)).1) ((hT (P i) (by have := (hP i h7).2; omega)).2)) (fref_entI ((hT (P i) (by have := (hP i h7).2; omega)).1) (by decide)) (by rw [e1 (S.2 (P i)) (by have := hT (P i) (hP i h7).2; omega)]) ?_
      show Wp _ 29 _ _ _ _
      refine w_iastNP d_f_keepIds_29 (by decide) (rfl) (show i < 20 from (by omega)) ?_
      refine w_iincN d_f_keepIds_30 rfl ?_
      refine w_goto 2 d_f_keepIds_33 (by decide) ?_
      refine hn9 h7 _ ?_
      rw [hS]
      exact setRow_s rfl
  refine w_iconst (v := nI 0) d_f_keepIds_0 (by decide +kernel) ?_
  refine w_istore_n d_f_keepIds_1 (Nat.le_of_ble_eq_true rfl) ?_
  exact hk0 0 (by omega) _ (setRow_0 _ _ _).symm
