/-! How large the numbers become. -/
def bd (B : Nat) (v : Int32) : Prop := -(B : Int) ≤ v.toInt ∧ v.toInt ≤ (B : Int)
theorem bd_mono {A B : Nat} {v : Int32} (h : bd A v) (hAB : A ≤ B) : bd B v := ⟨by have := h.1; omega, by have := h.2; omega⟩
theorem bm {x : Int} (h1 : -2147483648 ≤ x) (h2 : x ≤ 2147483647) : x.bmod (2 ^ 32) = x := Int.bmod_eq_of_le (by omega) (by omega)
theorem bd_add {A B : Nat} {v w : Int32} (h : bd A v) (h2 : bd B w) (hs : A + B < 2 ^ 31) : (v + w).toInt = v.toInt + w.toInt ∧ bd (A + B) (v + w) := by
  obtain ⟨a1, a2⟩ := h
  obtain ⟨b1, b2⟩ := h2
  have e : (v + w).toInt = v.toInt + w.toInt := by rw [Int32.toInt_add, bm (by omega) (by omega)]
  exact ⟨e, by unfold bd; rw [e]; omega⟩
theorem bd_sub {A B : Nat} {v w : Int32} (h : bd A v) (h2 : bd B w) (hs : A + B < 2 ^ 31) : (v - w).toInt = v.toInt - w.toInt ∧ bd (A + B) (v - w) := by
  obtain ⟨a1, a2⟩ := h
  obtain ⟨b1, b2⟩ := h2
  have e : (v - w).toInt = v.toInt - w.toInt := by rw [Int32.toInt_sub, bm (by omega) (by omega)]
  exact ⟨e, by unfold bd; rw [e]; omega⟩
theorem bd_neg {A : Nat} {v : Int32} (h : bd A v) (hs : A < 2 ^ 31) : bd A (-v) := by
  obtain ⟨a1, a2⟩ := h
  have e : (-v).toInt = -v.toInt := by rw [Int32.toInt_neg, bm (by omega) (by omega)]
  unfold bd; rw [e]; omega
theorem bd_nI {n : Nat} (h : n < 2 ^ 31) : bd n (nI n) := by unfold bd; rw [nI_toInt h]; omega
theorem bd_0 (B : Nat) : bd B 0 := by
  have : (0 : Int32).toInt = 0 := by decide
  unfold bd; rw [this]; omega
theorem tval_bd {B : Nat} {s : Int32} {g : Nat → Int32} (hs : okStep s) (hB : B < 2 ^ 31) (h : ∀ k, k < 4 → bd B (g k)) : bd B (tval s g) := by
  unfold tval
  have hk := h _ (okStep_ax hs).2
  split
  · exact bd_neg hk hB
  · exact hk
theorem chC_bd {B : Nat} {x : Nat → Nat → Int32} {n w : Nat} (hn : 0 < n) (h : ∀ i, i < n → ∀ k, k < w → bd B (x i k)) : ∀ (m c : Nat), c < m → ∀ k, k < w → bd B (chC x n w m c k)
  | 0, c, hc, _, _ => absurd hc (by omega)
  | m + 1, c, hc, k, hk => by
    show bd B (if c = m then x (if m = 0 then 0 else (farI (ndC (chC x n w m) x w m) n).1) k else chC x n w m c k)
    by_cases hcm : c = m
    · rw [if_pos hcm]
      refine h _ ?_ k hk
      split
      · exact hn
      · exact farI_lt hn
    · rw [if_neg hcm]
      exact chC_bd hn h m c (by omega) k hk
theorem sumC_bd {B : Nat} {f : Nat → Nat} {x : Nat → Nat → Int32} {c k : Nat} (hB : B ≤ 1000) : ∀ {n : Nat}, n ≤ 24 → (∀ i, i < n → bd B (x i k)) → bd (memC f c n * B) (sumC f x c k n)
  | 0, _, _ => bd_0 _
  | n + 1, hn, h => by
    have ih := sumC_bd (f := f) (c := c) hB (show n ≤ 24 by omega) (fun i hi => h i (by omega))
    have hm := memC_le f c n
    have hmB : memC f c n * B ≤ 24 * 1000 := Nat.mul_le_mul (by omega) hB
    show bd ((memC f c n + if f n = c then 1 else 0) * B) (if f n = c then sumC f x c k n + x n k else sumC f x c k n)
    by_cases hf : f n = c
    · rw [if_pos hf, if_pos hf, Nat.add_mul, Nat.one_mul]
      exact (bd_add ih (h n (by omega)) (by omega)).2
    · rw [if_neg hf, if_neg hf, Nat.add_zero]
      exact ih
theorem tdiv_pos {a : Int} {n : Nat} (hn : 0 < n) (ha : 0 ≤ a) : 0 ≤ a.tdiv n ∧ a.tdiv n * n ≤ a := by
  have h2 := Int.mul_tdiv_add_tmod a n
  have h3 : 0 ≤ a.tmod n := Int.tmod_nonneg _ ha
  refine ⟨Int.tdiv_nonneg ha (by omega), ?_⟩
  rw [Int.mul_comm] at h2
  omega
theorem tdiv_neg' {a : Int} {n : Nat} (hn : 0 < n) (ha : a < 0) : a.tdiv n ≤ 0 ∧ a ≤ a.tdiv n * n := by
  have h := tdiv_pos hn (show 0 ≤ -a by omega)
  rw [Int.neg_tdiv] at h
  have e : -(a.tdiv n) * (n : Int) = -(a.tdiv n * n) := Int.neg_mul _ _
  rw [e] at h
  omega
theorem fdv_bd {B n : Nat} {v : Int32} (hn : 0 < n) (hn24 : n ≤ 24) (hB : B ≤ 1000) (h : bd (n * B) v) : bd B (fdv v (nI n)) := by
  rw [← mfl_fdv (by omega)]
  unfold mfl
  have en : (nI n).toInt = (n : Int) := nI_toInt (by omega)
  have hnB : n * B ≤ 24 * 1000 := Nat.mul_le_mul hn24 hB
  obtain ⟨h1, h2⟩ := h
  have cm : ((n * B : Nat) : Int) = (n : Int) * B := by rw [Int.natCast_mul]
  rw [cm] at h1 h2
  have hn0 : (0 : Int) < n := by omega
  have hb : ∀ x : Int, x * n ≤ (n : Int) * B → x ≤ B := fun x hx => by
    rw [Int.mul_comm x] at hx
    exact Int.le_of_mul_le_mul_left hx hn0
  have hb2 : ∀ x : Int, -((n : Int) * B) ≤ x * n → -(B : Int) ≤ x := fun x hx => by
    rw [Int.mul_comm x] at hx
    refine Int.le_of_mul_le_mul_left (a := (n : Int)) ?_ hn0
    rw [Int.mul_neg]
    exact hx
  by_cases hv : v < 0
  · rw [if_pos hv]
    rw [Int32.lt_iff_toInt_lt] at hv
    have hv' : v.toInt < 0 := hv
    obtain ⟨d1, d2⟩ := tdiv_neg' hn hv'
    have l1 := hb2 (v.toInt.tdiv n) (by omega)
    have ed : (v / nI n).toInt = v.toInt.tdiv n := by rw [Int32.toInt_div, en, bm (by omega) (by omega)]
    have l3 : (n : Int) * B ≤ 24000 := by rw [← cm]; omega
    have l2 : -((n : Int) * B) ≤ v.toInt.tdiv n * n := by omega
    have l4 : v.toInt.tdiv n * n ≤ 0 := Int.mul_nonpos_of_nonpos_of_nonneg d1 (by omega)
    have em : (v / nI n * nI n).toInt = v.toInt.tdiv n * n := by rw [Int32.toInt_mul, ed, en, bm (by omega) (by omega)]
    by_cases hx : v / nI n * nI n = v
    · rw [if_pos hx]
      unfold bd
      rw [ed]
      omega
    · rw [if_neg hx]
      have hne : v.toInt.tdiv n * n ≠ v.toInt := fun z => hx (Int32.toInt_inj.mp (em.trans z))
      have e1 : (nI 1 : Int32).toInt = 1 := by decide
      have l5 : -(B : Int) < v.toInt.tdiv n := by
        refine Int.lt_of_mul_lt_mul_left (a := (n : Int)) ?_ (by omega)
        rw [Int.mul_neg, Int.mul_comm (n : Int) (v.toInt.tdiv n)]
        omega
      have es : (v / nI n - nI 1).toInt = v.toInt.tdiv n - 1 := by rw [Int32.toInt_sub, ed, e1, bm (by omega) (by omega)]
      unfold bd
      rw [es]
      omega
  · rw [if_neg hv]
    have hv' : 0 ≤ v.toInt := by
      rw [Int32.lt_iff_toInt_lt] at hv
      exact Int.not_lt.mp hv
    obtain ⟨d1, d2⟩ := tdiv_pos hn hv'
    have l1 := hb (v.toInt.tdiv n) (by omega)
    have ed : (v / nI n).toInt = v.toInt.tdiv n := by rw [Int32.toInt_div, en, bm (by omega) (by omega)]
    unfold bd
    rw [ed]
    omega
theorem fil_bd {B : Nat} {C : Nat → Nat → Int32} {mem : Nat → Nat} {m w : Nat} (h0 : 0 < m) (hB : B + m < 2 ^ 31) (h : ∀ c, c < m → ∀ k, k < w → bd B (C c k)) : ∀ e, e ≤ m → ∀ c, c < m → ∀ k, k < w → bd (B + e) ((fil C mem m e).1 c k)
  | 0, _, c, hc, k, hk => h c hc k hk
  | e + 1, he, c, hc, k, hk => by
    have ih := fil_bd (mem := mem) h0 hB h e (by omega)
    show bd (B + (e + 1)) ((if mem e = 0 then spl (fil C mem m e) e (gst (fil C mem m e).2 m) else fil C mem m e).1 c k)
    by_cases hm : mem e = 0
    · rw [if_pos hm]
      show bd (B + (e + 1)) (if c = e then (fil C mem m e).1 (gst (fil C mem m e).2 m) k + (if k = 0 then 1 else 0) else (fil C mem m e).1 c k)
      by_cases hce : c = e
      · rw [if_pos hce]
        have hg := ih _ (gst_lt (fil C mem m e).2 m h0) k hk
        have h1 : bd 1 (if k = 0 then 1 else 0 : Int32) := by
          split
          · exact ⟨by decide, by decide⟩
          · exact bd_0 1
        exact (bd_add hg h1 (by omega)).2
      · rw [if_neg hce]
        exact bd_mono (ih c hc k hk) (by omega)
    · rw [if_neg hm]
      exact bd_mono (ih c hc k hk) (by omega)
theorem clu_bd {B : Nat} {x : Nat → Nat → Int32} {n w m : Nat} (hn : 0 < n) (hn24 : n ≤ 24) (h0 : 0 < m) (hm4 : m ≤ 4) (hB : B ≤ 900) (h : ∀ i, i < n → ∀ k, k < w → bd B (x i k)) : ∀ r, r ≤ 8 → ∀ c, c < m → ∀ k, k < w → bd (B + 4 * r) (clu x n w m r c k)
  | 0, _, c, hc, k, hk => chC_bd hn h m c hc k hk
  | r + 1, hr, c, hc, k, hk => by
    have ih := clu_bd hn hn24 h0 hm4 hB h r (by omega)
    show bd (B + 4 * (r + 1)) (rnd x n w m (clu x n w m r) c k)
    unfold rnd
    refine bd_mono (fil_bd (B := B + 4 * r) h0 (by omega) (fun c hc k hk => ?_) m (Nat.le_refl m) c hc k hk) (by omega)
    unfold mnC
    by_cases hp : 0 < memC (nrC (clu x n w m r) x w m) c n
    · rw [if_pos hp]
      have hml := memC_le (nrC (clu x n w m r) x w m) c n
      exact bd_mono (fdv_bd hp (by omega) (by omega) (sumC_bd (by omega) hn24 (fun i hi => h i hi k hk))) (by omega)
    · rw [if_neg hp]
      exact ih c hc k hk
theorem minI_bd {B : Nat} {f : Nat → Int32} (h0 : bd B (f 0)) : ∀ {n : Nat}, (∀ i, i < n → bd B (f i)) → bd B (minI f n) ∧ (0 < n → minI f n ≤ f 0)
  | 0, _ => ⟨h0, fun h => absurd h (by omega)⟩
  | n + 1, h => by
    have ih := minI_bd h0 (n := n) (fun i hi => h i (by omega))
    show bd B (if f n < minI f n then f n else minI f n) ∧ (_ → (if f n < minI f n then f n else minI f n) ≤ f 0)
    by_cases hlt : f n < minI f n
    · rw [if_pos hlt]
      refine ⟨h n (by omega), fun _ => ?_⟩
      by_cases hn : 0 < n
      · exact Int32.le_of_lt (Int32.lt_of_lt_of_le hlt (ih.2 hn))
      · have : n = 0 := by omega
        subst this
        exact Int32.le_refl _
    · rw [if_neg hlt]
      refine ⟨ih.1, fun _ => ?_⟩
      by_cases hn : 0 < n
      · exact ih.2 hn
      · have : n = 0 := by omega
        subst this
        exact Int32.le_refl _
theorem maxI_bd {B : Nat} {f : Nat → Int32} (h0 : bd B (f 0)) : ∀ {n : Nat}, (∀ i, i < n → bd B (f i)) → bd B (maxI f n) ∧ (0 < n → f 0 ≤ maxI f n)
  | 0, _ => ⟨h0, fun h => absurd h (by omega)⟩
  | n + 1, h => by
    have ih := maxI_bd h0 (n := n) (fun i hi => h i (by omega))
    show bd B (if maxI f n < f n then f n else maxI f n) ∧ (_ → f 0 ≤ (if maxI f n < f n then f n else maxI f n))
    by_cases hlt : maxI f n < f n
    · rw [if_pos hlt]
      refine ⟨h n (by omega), fun _ => ?_⟩
      by_cases hn : 0 < n
      · exact Int32.le_of_lt (Int32.lt_of_le_of_lt (ih.2 hn) hlt)
      · have : n = 0 := by omega
        subst this
        exact Int32.le_refl _
    · rw [if_neg hlt]
      refine ⟨ih.1, fun _ => ?_⟩
      by_cases hn : 0 < n
      · exact ih.2 hn
      · have : n = 0 := by omega
        subst this
        exact Int32.le_refl _
theorem sprd_bd {B : Nat} {lo hi : Int32} {nc j : Nat} (hB : B ≤ 1000) (h1 : bd B lo) (h2 : bd B hi) (hlh : lo ≤ hi) (hj : j < nc) (hc : nc ≤ 4) : bd B (sprd lo hi nc j) := by
  unfold sprd
  by_cases hj0 : j = 0
  · rw [if_pos hj0]; exact h1
  · rw [if_neg hj0]
    obtain ⟨e1, b1⟩ := bd_sub h2 h1 (by omega)
    rw [Int32.le_iff_toInt_le] at hlh
    have hd0 : 0 ≤ (hi - lo).toInt := by omega
    have en : (nI (nc - 1)).toInt = ((nc - 1 : Nat) : Int) := nI_toInt (by omega)
    have ej : (nI j).toInt = (j : Int) := nI_toInt (by omega)
    have hm0 : 0 ≤ (hi - lo).toInt * j := Int.mul_nonneg hd0 (by omega)
    have hm1 : (hi - lo).toInt * j ≤ (hi - lo).toInt * ((nc - 1 : Nat) : Int) := Int.mul_le_mul_of_nonneg_left (by omega) hd0
    have hm2 : (hi - lo).toInt * ((nc - 1 : Nat) : Int) ≤ (hi - lo).toInt * 3 := Int.mul_le_mul_of_nonneg_left (by omega) hd0
    have b2 := b1.2
    have em : ((hi - lo) * nI j).toInt = (hi - lo).toInt * j := by rw [Int32.toInt_mul, ej, bm (by omega) (by omega)]
    have hcp : (0 : Int) < ((nc - 1 : Nat) : Int) := by omega
    obtain ⟨d1, d2⟩ := tdiv_pos (a := (hi - lo).toInt * j) (show 0 < nc - 1 by omega) hm0
    have d3 : ((hi - lo).toInt * j).tdiv ((nc - 1 : Nat) : Int) ≤ (hi - lo).toInt := by
      refine Int.le_of_mul_le_mul_right ?_ hcp
      omega
    have ed : ((hi - lo) * nI j / nI (nc - 1)).toInt = ((hi - lo).toInt * j).tdiv ((nc - 1 : Nat) : Int) := by rw [Int32.toInt_div, em, en, bm (by omega) (by omega)]
    obtain ⟨a1, a2⟩ := h1
    obtain ⟨a3, a4⟩ := h2
    have es : (lo + (hi - lo) * nI j / nI (nc - 1)).toInt = lo.toInt + ((hi - lo).toInt * j).tdiv ((nc - 1 : Nat) : Int) := by rw [Int32.toInt_add, ed, bm (by omega) (by omega)]
    unfold bd
    rw [es]
    omega
