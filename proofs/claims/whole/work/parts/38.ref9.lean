/-! The reference's search, whole. -/
theorem cntB_comp {pm P P' : Nat → Bool} : ∀ {n : Nat}, (∀ u, u < n → pm u = true → P' (cntB pm u) = P u) → cntB P' (cntB pm n) = cntB (fun u => pm u && P u) n
  | 0, _ => rfl
  | n + 1, h => by
    have ih := cntB_comp (n := n) (fun u hu => h u (by omega))
    cases hp : pm n with
    | false => rw [cntB_s0 hp, ih, cntB_s0 (show (pm n && P n) = false by rw [hp]; rfl)]
    | true =>
      have e := h n (by omega) hp
      rw [cntB_s1 hp]
      cases hP : P n with
      | false => rw [cntB_s0 (e.trans hP), ih, cntB_s0 (show (pm n && P n) = false by rw [hp, hP]; rfl)]
      | true => rw [cntB_s1 (e.trans hP), ih, cntB_s1 (show (pm n && P n) = true by rw [hp, hP]; rfl)]
def prM (S : St) (id : Nat) : Bool := decide (¬ S.1 30 id = 0)
def tM (S : St) (a b c d : Int32) : Nat → Int32 := fun k => tval (S.1 26 k) (pt a b c d)
def gM (S : St) (a b c d : Int32) : St := setRow (setRow (setRow S 35 (pt a b c d) 4) 36 (tM S a b c d) 4) 38 (tM S a b c d) 4
def rkM (pm : Nat → Bool) (D : Nat → Int32) (id : Nat) : Nat := cntB (fun u => pm u && bef (D u) (nI u) (D id) (nI id)) 1000
theorem gM_ne {S : St} {x y z w : Int32} {a i : Nat} (h : ¬ (a = 35 ∨ a = 36 ∨ a = 38)) : (gM S x y z w).1 a i = S.1 a i := by unfold gM; rw [setRow_ne (by omega), setRow_ne (by omega), setRow_ne (by omega)]
/-- what has been measured up to the id n stands in the rows -/
def MP (G S1 : St) (kind : Int32) (nl nc pb n : Nat) : Prop := ∀ u, u < n → pmM G nl pb u = true → S1.1 44 (cntB (pmM G nl pb) u) = nI u ∧ S1.1 45 (cntB (pmM G nl pb) u) = mK G kind nl nc u ∧ S1.1 46 (cntB (pmM G nl pb) u) = mX G u
def MSr (G S' : St) (kind : Int32) (nl nc pb rf kk : Nat) : Prop :=
  FrS G S' ∧ S'.1 8 17 = nI (cntB (pmM G nl pb) 1000) ∧ S'.1 8 16 = nI (min kk (cntB (pmM G nl pb) 1000)) ∧
  (rf = 0 → ∀ id, id < 1000 → pmM G nl pb id = true → rkM (pmM G nl pb) (mK G kind nl nc) id < kk → S'.1 32 (rkM (pmM G nl pb) (mK G kind nl nc) id) = nI id ∧ S'.1 33 (rkM (pmM G nl pb) (mK G kind nl nc) id) = mK G kind nl nc id) ∧
  (0 < rf → ∀ id, id < 1000 → pmM G nl pb id = true → rkM (pmM G nl pb) (mK G kind nl nc) id < kk * rf → rkM (fun u => pmM G nl pb u && decide (rkM (pmM G nl pb) (mK G kind nl nc) u < kk * rf)) (mX G) id < kk → S'.1 32 (rkM (fun u => pmM G nl pb u && decide (rkM (pmM G nl pb) (mK G kind nl nc) u < kk * rf)) (mX G) id) = nI id ∧ S'.1 33 (rkM (fun u => pmM G nl pb u && decide (rkM (pmM G nl pb) (mK G kind nl nc) u < kk * rf)) (mX G) id) = mX G id)
theorem rk_pos {pm t t' : Nat → Bool} {D ids D' : Nat → Int32} (h : ∀ u, u < 1000 → pm u = true → ids (cntB pm u) = nI u ∧ D' (cntB pm u) = D u ∧ t' (cntB pm u) = t u) {id : Nat} (hid : id < 1000) (hp : pm id = true) : rkB t' D' ids (cntB pm 1000) (cntB pm id) = rkM (fun u => pm u && t u) D id := by
  unfold rkB rkM
  refine (cntB_comp (P := fun u => t u && bef (D u) (nI u) (D id) (nI id)) (fun u hu hpu => ?_)).trans (cntB_congr (fun u _ => ?_))
  · obtain ⟨a1, a2, a3⟩ := h u hu hpu
    obtain ⟨b1, b2, b3⟩ := h id hid hp
    show (t' _ && bef _ _ _ _) = _
    rw [a1, a2, a3, b1, b2]
  · show (pm u && (t u && _)) = ((pm u && t u) && _)
    rw [Bool.and_assoc]
theorem pos_ids {G S1 : St} {kind : Int32} {nl nc pb : Nat} (h : MP G S1 kind nl nc pb 1000) {i j : Nat} (hi : i < cntB (pmM G nl pb) 1000) (hj : j < cntB (pmM G nl pb) 1000) (hne : i ≠ j) : S1.1 44 i ≠ S1.1 44 j := by
  obtain ⟨u, hu, hpu, rfl⟩ := cntB_surj hi
  obtain ⟨w, hw, hpw, rfl⟩ := cntB_surj hj
  rw [(h u hu hpu).1, (h w hw hpw).1]
  intro q
  have := (nI_eq (by omega) (by omega)).mp q
  subst this
  exact hne rfl
theorem MP_all {G S1 : St} {kind : Int32} {nl nc pb n : Nat} {S2 : St} (h : MP G S1 kind nl nc pb n) (e : ∀ a z, a = 44 ∨ a = 45 ∨ a = 46 → S2.1 a z = S1.1 a z) : MP G S2 kind nl nc pb n := fun u hu hp => by
  rw [e 44 _ (by omega), e 45 _ (by omega), e 46 _ (by omega)]
  exact h u hu hp
theorem MP_s0 {G S1 S2 : St} {kind : Int32} {nl nc pb n : Nat} (h : MP G S1 kind nl nc pb n) (hp : pmM G nl pb n = false) (e : ∀ a z, a = 44 ∨ a = 45 ∨ a = 46 → S2.1 a z = S1.1 a z) : MP G S2 kind nl nc pb (n + 1) := fun u hu hpu => by
  by_cases hun : u = n
  · rw [hun, hp] at hpu; cases hpu
  · exact MP_all h e u (by omega) hpu
theorem MP_s1 {G S1 S2 : St} {kind : Int32} {nl nc pb n : Nat} (h : MP G S1 kind nl nc pb n) (e : ∀ a z, a = 44 ∨ a = 45 ∨ a = 46 → ¬ z = cntB (pmM G nl pb) n → S2.1 a z = S1.1 a z) (e4 : S2.1 44 (cntB (pmM G nl pb) n) = nI n) (e5 : S2.1 45 (cntB (pmM G nl pb) n) = mK G kind nl nc n) (e6 : S2.1 46 (cntB (pmM G nl pb) n) = mX G n) : MP G S2 kind nl nc pb (n + 1) := fun u hu hpu => by
  by_cases hun : u = n
  · subst hun; exact ⟨e4, e5, e6⟩
  · have hlt := cntB_lt (p := pmM G nl pb) (show u < n by omega) hpu
    rw [e 44 _ (by omega) (by omega), e 45 _ (by omega) (by omega), e 46 _ (by omega) (by omega)]
    exact h u (by omega) hpu
/-- what the last loops may write -/
def FrHK (S S' : St) : Prop := S'.2 = S.2 ∧ ∀ a z, ¬ (a = 32 ∨ a = 33 ∨ a = 47) → S'.1 a z = S.1 a z
theorem FrHK.put {S S1 : St} {c i : Nat} {v : Int32} (h : FrHK S S1) (hc : c = 32 ∨ c = 33 ∨ c = 47) : FrHK S (put S1 c i v) := ⟨h.1, fun a z q => (put_ne (fun w => q (by rw [w.1]; exact hc))).trans (h.2 a z q)⟩
theorem FrHK.fn {S S1 : St} (h : FrHK S S1) {a : Nat} (ha : ¬ (a = 32 ∨ a = 33 ∨ a = 47)) : S1.1 a = S.1 a := by funext z; exact h.2 a z ha
theorem FrHK.S {S S1 : St} (h : FrHK S S1) : FrS S S1 := ⟨h.1, fun a z q => h.2 a z (by omega)⟩
/-- the hits up to the place i, by their ranks -/
def HT (S1 S2 : St) (t : Nat → Bool) (D : Nat → Int32) (q kk n : Nat) : Prop := ∀ j, j < n → t j = true → rkB t D (S1.1 44) q j < kk → S2.1 32 (rkB t D (S1.1 44) q j) = S1.1 44 j ∧ S2.1 33 (rkB t D (S1.1 44) q j) = D j
theorem HT_no {S1 S2 : St} {t : Nat → Bool} {D : Nat → Int32} {q kk n : Nat} (h : HT S1 S2 t D q kk n) (hn : t n = false ∨ ¬ rkB t D (S1.1 44) q n < kk) : HT S1 S2 t D q kk (n + 1) := fun j hj ht hr => by
  by_cases hjn : j = n
  · subst hjn
    cases hn with
    | inl z => rw [z] at ht; cases ht
    | inr z => exact absurd hr z
  · exact h j (by omega) ht hr
theorem HT_keep {S1 S2 S3 : St} {t : Nat → Bool} {D : Nat → Int32} {q kk n : Nat} (h : HT S1 S2 t D q kk n) (e : ∀ a z, a = 32 ∨ a = 33 → S3.1 a z = S2.1 a z) : HT S1 S3 t D q kk n := fun j hj ht hr => by
  rw [e 32 _ (by omega), e 33 _ (by omega)]; exact h j hj ht hr
theorem HT_yes {S1 S2 S3 : St} {t : Nat → Bool} {D : Nat → Int32} {q kk n : Nat} (hn : n < q) (hinj : ∀ i j, i < q → j < q → i ≠ j → S1.1 44 i ≠ S1.1 44 j) (h : HT S1 S2 t D q kk n) (ht : t n = true) (e : ∀ a z, a = 32 ∨ a = 33 → ¬ z = rkB t D (S1.1 44) q n → S3.1 a z = S2.1 a z) (e2 : S3.1 32 (rkB t D (S1.1 44) q n) = S1.1 44 n) (e3 : S3.1 33 (rkB t D (S1.1 44) q n) = D n) : HT S1 S3 t D q kk (n + 1) := fun j hj htj hr => by
  by_cases hjn : j = n
  · subst hjn; exact ⟨e2, e3⟩
  · have hne := rkB_inj (d := D) (p := S1.1 44) (show j < q by omega) hn htj ht (hinj j n (by omega) hn hjn)
    rw [e 32 _ (by omega) hne, e 33 _ (by omega) hne]
    exact h j (by omega) htj hr
def mrR (S : St) (a b c d k : Int32) : Int32 := if S.1 8 3 = 0 then -1 else if badPt a b c d = true then -2 else -3
def mrOk (S : St) (a b c d k : Int32) : Prop := ¬ S.1 8 3 = 0 ∧ badPt a b c d = false ∧ (nI 1 ≤ k ∧ k ≤ nI 8)
set_option maxRecDepth 100000 in
set_option maxHeartbeats 4000000 in
theorem c_m_search (S : St) (kind : Int32) (nl nc pb rf : Nat) (a b c d k : Int32) (hE : ¬ S.1 8 3 = 0 → S.1 8 4 = kind ∧ S.1 8 5 = nI nl ∧ 0 < nl ∧ nl ≤ 4 ∧ S.1 8 6 = nI nc ∧ 0 < nc ∧ nc ≤ 4) (hpb : S.1 8 12 = nI pb) (hpb4 : pb ≤ 4) (hrf : S.1 8 13 = nI rf) (hrf3 : rf ≤ 3) (hpr : cntB (prM S) 1000 ≤ 20) (ho : ∀ k, k < 4 → okStep (S.1 26 k)) : Ev M_m_search [.ref 8, .int a, .int b, .int c, .int d, .int k] S (fun v9 S' => (mrOk S a b c d k → v9 = some (.int (S'.1 8 16)) ∧ ∃ kk, k = nI kk ∧ 1 ≤ kk ∧ kk ≤ 8 ∧ MSr (gM S a b c d) S' kind nl nc pb rf kk) ∧ (¬ mrOk S a b c d k → v9 = some (.int (mrR S a b c d k)) ∧ S' = setRow S 35 (pt a b c d) 4)) := by
  refine Ev.of MF_m_search (all_cat rfl) (Nat.le_of_ble_eq_true rfl) ?_
  show Wp M_m_search 0 [.ref 8, .int a, .int b, .int c, .int d, .int k, .null, .null, .null, .null] [] _ _
  have hmain : mrOk S a b c d k → ∀ kk, k = nI kk → 1 ≤ kk → kk ≤ 8 → ∀ (x6 x7 x8 x9 : Value) (S0 : St), S0 = setRow S 35 (pt a b c d) 4 → Wp M_m_search 58 [.ref 8, .int a, .int b, .int c, .int d, .int (nI kk), x6, x7, x8, x9] [] S0 (fun v9 S' => (mrOk S a b c d k → v9 = some (.int (S'.1 8 16)) ∧ ∃ kk, k = nI kk ∧ 1 ≤ kk ∧ kk ≤ 8 ∧ MSr (gM S a b c d) S' kind nl nc pb rf kk) ∧ (¬ mrOk S a b c d k → v9 = some (.int (mrR S a b c d k)) ∧ S' = setRow S 35 (pt a b c d) 4)) := by
    intro hok kk hkk hk1 hk8 x6 x7 x8 x9 S0 hS0
    subst hkk
    obtain ⟨hk, hl, hl1, hl4, hc, hc1, hc4⟩ := hE hok.1
    have hg : ∀ x i, ¬ (x = 35 ∨ x = 36 ∨ x = 38) → (gM S a b c d).1 x i = S.1 x i := fun x i h => gM_ne h
    generalize hGe : (gM S a b c d) = G at hg ⊢
    obtain ⟨q, hq⟩ : ∃ q, q = cntB (pmM G nl pb) 1000 := ⟨_, rfl⟩
    have hpp : ∀ u, prM G u = prM S u := fun u => by unfold prM; rw [hg 30 u (by decide)]
    have hq20 : q ≤ 20 := by rw [hq]; refine Nat.le_trans (cntB_sub (q := prM S) (fun u _ h => ?_)) hpr; rw [← hpp u]; unfold pmM at h; rw [Bool.and_eq_true] at h; exact h.1
    have hlast : ∀ (S1 : St), FrS G S1 → MP G S1 kind nl nc pb 1000 → S1.1 8 17 = nI q → S1.1 8 16 = nI (min kk q) → ∀ (x7 x8 x9 : Value), Wp M_m_search 151 [.ref 8, .int a, .int b, .int c, .int d, .int (nI kk), x6, x7, x8, x9] [] S1 (fun v9 S' => (mrOk S a b c d (nI kk) → v9 = some (.int (S'.1 8 16)) ∧ ∃ kk9, nI kk = nI kk9 ∧ 1 ≤ kk9 ∧ kk9 ≤ 8 ∧ MSr G S' kind nl nc pb rf kk9) ∧ (¬ mrOk S a b c d (nI kk) → v9 = some (.int (mrR S a b c d (nI kk))) ∧ S' = setRow S 35 (pt a b c d) 4)) := by
      intro S1 h1 hmp e17 e16 x7 x8 x9
      have hinj : ∀ i j, i < q → j < q → i ≠ j → S1.1 44 i ≠ S1.1 44 j := fun i j hi hj hne => pos_ids hmp (by rw [← hq]; exact hi) (by rw [← hq]; exact hj) hne
      have hrf1 : S1.1 8 13 = nI rf := by rw [h1.2 8 13 (by decide), hg 8 13 (by decide)]; exact hrf
      have hlB : ∀ pl, (rf = 0 ∧ pl = kk) ∨ (0 < rf ∧ pl = kk * rf) → ∀ i, i ≤ q → ∀ (S2 : St) (x9 : Value), FrHK S1 S2 → (∀ j, j < q → S2.1 47 j = bI ((fun j => decide (rkB (fun _ => true) (S1.1 45) (S1.1 44) q j < pl)) j)) → (rf = 0 → HT S1 S2 (fun _ => true) (S1.1 45) q kk q) → (0 < rf → HT S1 S2 (fun j => decide (rkB (fun _ => true) (S1.1 45) (S1.1 44) q j < pl)) (S1.1 46) q kk i) → Wp M_m_search 262 [.ref 8, .int a, .int b, .int c, .int d, .int (nI kk), x6, .int (nI pl), .int (nI i), x9] [] S2 (fun v9 S' => (mrOk S a b c d (nI kk) → v9 = some (.int (S'.1 8 16)) ∧ ∃ kk9, nI kk = nI kk9 ∧ 1 ≤ kk9 ∧ kk9 ≤ 8 ∧ MSr G S' kind nl nc pb rf kk9) ∧ (¬ mrOk S a b c d (nI kk) → v9 = some (.int (mrR S a b c d (nI kk))) ∧ S' = setRow S 35 (pt a b c d) 4)) := by
        intro pl hpl
        refine loopUp q (fun i hk9 hn9 => ?_)
        intro S2 x9 f2 gt g1 g2
        refine w_iload d_m_search_262 rfl ?_
        refine w_aload_n d_m_search_264 rfl ?_
        refine w_getIV (v := (nI q)) d_m_search_265 FL_m_185 (by decide) (rfl) (rfl) ((f2.2 8 17 (by decide)).trans e17) ?_
        refine w_icmp_geN 337 d_m_search_268 (by decide) (by omega) (by omega) (fun h268 => ?_) (fun h268 => ?_)
        · refine w_aload_n d_m_search_337 rfl ?_
          refine w_getI d_m_search_338 FL_m_191 (by decide) (rfl) (rfl) ?_
          refine w_iret (st := []) rfl d_m_search_341 ?_
          have hiq : i = q := by omega
          subst hiq
          refine ⟨fun _ => ⟨by rw [f2.2 8 16 (by decide), e16], kk, rfl, hk1, hk8, h1.tr f2.S, by rw [f2.2 8 17 (by decide), e17, hq], by rw [f2.2 8 16 (by decide), e16, hq], fun z id hid hp hr => ?_, fun z id hid hp hr1 hr2 => ?_⟩, fun z => absurd hok z⟩
          · have er := rk_pos (t := fun _ => true) (t' := fun _ => true) (D := mK G kind nl nc) (D' := S1.1 45) (ids := S1.1 44) (fun u hu hpu => ⟨(hmp u hu hpu).1, (hmp u hu hpu).2.1, rfl⟩) hid hp
            rw [← hq] at er
            have er2 : rkM (fun u => pmM G nl pb u && true) (mK G kind nl nc) id = rkM (pmM G nl pb) (mK G kind nl nc) id := congrArg (fun x => rkM x (mK G kind nl nc) id) (by funext u; exact Bool.and_true _)
            rw [er2] at er
            have hlt : cntB (pmM G nl pb) id < i := by rw [hq]; exact cntB_lt hid hp
            have := g1 z (cntB (pmM G nl pb) id) hlt rfl (by rw [er]; exact hr)
            rw [er, (hmp id hid hp).1, (hmp id hid hp).2.1] at this
            exact this
          · have hplr : pl = kk * rf := by omega
            have er := fun u hu hp => rk_pos (id := u) (t := fun _ => true) (t' := fun _ => true) (D := mK G kind nl nc) (D' := S1.1 45) (ids := S1.1 44) (fun u hu hpu => ⟨(hmp u hu hpu).1, (hmp u hu hpu).2.1, rfl⟩) hu hp
            rw [← hq] at er
            have er2 : ∀ u, rkM (fun u => pmM G nl pb u && true) (mK G kind nl nc) u = rkM (pmM G nl pb) (mK G kind nl nc) u := fun u => congrArg (fun x => rkM x (mK G kind nl nc) u) (by funext u; exact Bool.and_true _)
            have ex := rk_pos (id := id) (t := fun u => decide (rkM (pmM G nl pb) (mK G kind nl nc) u < kk * rf)) (t' := fun j => decide (rkB (fun _ => true) (S1.1 45) (S1.1 44) i j < pl)) (D := mX G) (D' := S1.1 46) (ids := S1.1 44) (fun u hu hpu => ⟨(hmp u hu hpu).1, (hmp u hu hpu).2.2, by rw [er u hu hpu, er2, hplr]⟩) hid hp
            rw [← hq] at ex
            have hlt : cntB (pmM G nl pb) id < i := by rw [hq]; exact cntB_lt hid hp
            have := g2 z (cntB (pmM G nl pb) id) hlt (by show decide _ = true; rw [er id hid hp, er2, hplr]; exact decide_eq_true hr1) (by rw [ex]; exact hr2)
            rw [ex, (hmp id hid hp).1, (hmp id hid hp).2.2] at this
            exact this
        · refine w_aload_n d_m_search_271 rfl ?_
          refine w_iload d_m_search_272 rfl ?_
          refine w_callV1 (N := M_m_exactRank) d_m_search_274 LK_m_197 MF_m_exactRank MV_m_exactRank NP_m_exactRank (by decide) (by decide) (rfl) rfl rfl (Nat.le_of_ble_eq_true rfl) ?_
          refine Ev.det (c_m_exactRank S2 q i ((f2.2 8 17 (by decide)).trans e17) hq20 h268 (fun j => decide (rkB (fun _ => true) (S1.1 45) (S1.1 44) q j < pl)) gt) ?_
          rw [f2.fn (a := 46) (by decide), f2.fn (a := 44) (by decide)]
          have rle := rkB_le (fun j => decide (rkB (fun _ => true) (S1.1 45) (S1.1 44) q j < pl)) (S1.1 46) (S1.1 44) q i
          refine w_istore d_m_search_277 (Nat.le_of_ble_eq_true rfl) ?_
          refine w_aload_n d_m_search_279 rfl ?_
          refine w_getIV (v := (nI rf)) d_m_search_280 FL_m_182 (by decide) (rfl) (rfl) ((f2.2 8 13 (by decide)).trans hrf1) ?_
          refine w_if_leN 331 d_m_search_283 (by decide) (by omega) (fun h283 => ?_) (fun h283 => ?_)
          · refine w_iincN d_m_search_331 rfl ?_
            refine w_goto 262 d_m_search_334 (by decide) ?_
            exact hn9 h268 _ _ f2 gt g1 (fun z => absurd z (by omega))
          · refine w_aload_n d_m_search_286 rfl ?_
            refine w_getR d_m_search_287 FL_m_74 (by decide) (rfl) (rfl) ?_
            refine w_iload d_m_search_290 rfl ?_
            refine w_baldNV (v := (bI (((fun j => decide (rkB (fun _ => true) (S1.1 45) (S1.1 44) q j < pl)) i)))) d_m_search_292 (by decide) (rfl) (show i < 20 from (by omega)) (gt i h268) ?_
            refine w_if_eqB 331 d_m_search_293 (by decide) (fun h293 => ?_) (fun h293 => ?_)
            · refine w_iincN d_m_search_331 rfl ?_
              refine w_goto 262 d_m_search_334 (by decide) ?_
              exact hn9 h268 _ _ f2 gt g1 (fun z => HT_no (g2 z) (Or.inl h293))
            · refine w_iload d_m_search_296 rfl ?_
              refine w_iload d_m_search_298 rfl ?_
              refine w_icmp_geN 331 d_m_search_300 (by decide) (by omega) (by omega) (fun h300 => ?_) (fun h300 => ?_)
              · refine w_iincN d_m_search_331 rfl ?_
                refine w_goto 262 d_m_search_334 (by decide) ?_
                exact hn9 h268 _ _ f2 gt g1 (fun z => HT_no (g2 z) (Or.inr (by omega)))
              · refine w_aload_n d_m_search_303 rfl ?_
                refine w_getR d_m_search_304 FL_m_29 (by decide) (rfl) (rfl) ?_
                refine w_iload d_m_search_307 rfl ?_
                refine w_aload_n d_m_search_309 rfl ?_
                refine w_getR d_m_search_310 FL_m_65 (by decide) (rfl) (rfl) ?_
                refine w_iload d_m_search_313 rfl ?_
                refine w_ialdNV (v := ((S1.1 44 i))) d_m_search_315 (by decide) (rfl) (show i < 20 from (by omega)) (f2.2 44 i (by decide)) ?_
                refine w_iastNP d_m_search_316 (by decide) (rfl) (show (rkB (fun j => decide (rkB (fun _ => true) (S1.1 45) (S1.1 44) q j < pl)) (S1.1 46) (S1.1 44) q i) < 8 from (by omega)) ?_
                refine w_aload_n d_m_search_317 rfl ?_
                refine w_getR d_m_search_318 FL_m_32 (by decide) (rfl) (rfl) ?_
                refine w_iload d_m_search_321 rfl ?_
                show Wp _ 323 _ _ _ _
                refine w_aload_n d_m_search_323 rfl ?_
                refine w_getR d_m_search_324 FL_m_71 (by decide) (rfl) (rfl) ?_
                refine w_iload d_m_search_327 rfl ?_
                refine w_ialdNV (v := ((S1.1 46 i))) d_m_search_329 (by decide) (rfl) (show i < 20 from (by omega)) ((put_ne (by omega)).trans (f2.2 46 i (by decide))) ?_
                refine w_iastNP d_m_search_330 (by decide) (rfl) (show (rkB (fun j => decide (rkB (fun _ => true) (S1.1 45) (S1.1 44) q j < pl)) (S1.1 46) (S1.1 44) q i) < 8 from (by omega)) ?_
                refine w_iincN d_m_search_331 rfl ?_
                refine w_goto 262 d_m_search_334 (by decide) ?_
                refine hn9 h268 _ _ ((f2.put (by omega)).put (by omega)) (fun j hj => by rw [put_ne (by omega), put_ne (by omega)]; exact gt j hj) (fun z => absurd z (by omega)) (fun z => ?_)
                refine HT_yes h268 hinj (g2 z) h293 (fun x w hx hw => ?_) ?_ ?_
                · rw [put_ne (by omega), put_ne (by omega)]
                · rw [put_ne (by omega), put_at]
                · exact put_at
      have hlA : ∀ pl, (rf = 0 ∧ pl = kk) ∨ (0 < rf ∧ pl = kk * rf) → ∀ i, i ≤ q → ∀ (S2 : St) (x9 : Value), FrHK S1 S2 → (∀ j, j < i → S2.1 47 j = bI ((fun j => decide (rkB (fun _ => true) (S1.1 45) (S1.1 44) q j < pl)) j)) → (rf = 0 → HT S1 S2 (fun _ => true) (S1.1 45) q kk i) → Wp M_m_search 175 [.ref 8, .int a, .int b, .int c, .int d, .int (nI kk), x6, .int (nI pl), .int (nI i), x9] [] S2 (fun v9 S' => (mrOk S a b c d (nI kk) → v9 = some (.int (S'.1 8 16)) ∧ ∃ kk9, nI kk = nI kk9 ∧ 1 ≤ kk9 ∧ kk9 ≤ 8 ∧ MSr G S' kind nl nc pb rf kk9) ∧ (¬ mrOk S a b c d (nI kk) → v9 = some (.int (mrR S a b c d (nI kk))) ∧ S' = setRow S 35 (pt a b c d) 4)) := by
        intro pl hpl
        have hpl24 : pl ≤ 24 := hpl.elim (fun z => by omega) (fun z => by rw [z.2]; exact Nat.le_trans (Nat.mul_le_mul hk8 hrf3) (by decide))
        refine loopUp q (fun i hk9 hn9 => ?_)
        intro S2 x9 f2 gt g1
        refine w_iload d_m_search_175 rfl ?_
        refine w_aload_n d_m_search_177 rfl ?_
        refine w_getIV (v := (nI q)) d_m_search_178 FL_m_185 (by decide) (rfl) (rfl) ((f2.2 8 17 (by decide)).trans e17) ?_
        refine w_icmp_geN 259 d_m_search_181 (by decide) (by omega) (by omega) (fun h181 => ?_) (fun h181 => ?_)
        · refine w_iconst (v := nI 0) d_m_search_259 (by decide +kernel) ?_
          refine w_istore d_m_search_260 (Nat.le_of_ble_eq_true rfl) ?_
          have hiq : i = q := by omega
          exact hlB pl hpl 0 (by omega) S2 _ f2 (fun j hj => gt j (by omega)) (fun z => by rw [← hiq]; rw [← hiq] at g1; exact g1 z) (fun z => fun j hj => absurd hj (by omega))
        · refine w_aload_n d_m_search_184 rfl ?_
          refine w_iload d_m_search_185 rfl ?_
          refine w_callV1 (N := M_m_rank) d_m_search_187 LK_m_194 MF_m_rank MV_m_rank NP_m_rank (by decide) (by decide) (rfl) rfl rfl (Nat.le_of_ble_eq_true rfl) ?_
          refine Ev.det (c_m_rank S2 q i ((f2.2 8 17 (by decide)).trans e17) hq20 h181) ?_
          rw [f2.fn (a := 45) (by decide), f2.fn (a := 44) (by decide)]
          have rle := rkB_le (fun _ => true) (S1.1 45) (S1.1 44) q i
          refine w_istore d_m_search_190 (Nat.le_of_ble_eq_true rfl) ?_
          refine w_aload_n d_m_search_192 rfl ?_
          refine w_getR d_m_search_193 FL_m_74 (by decide) (rfl) (rfl) ?_
          refine w_iload d_m_search_196 rfl ?_
          refine w_iload d_m_search_198 rfl ?_
          refine w_iload d_m_search_200 rfl ?_
          refine w_icmp_geN 209 d_m_search_202 (by decide) (by omega) (by omega) (fun h202 => ?_) (fun h202 => ?_)
          · refine w_iconst (v := nI 0) d_m_search_209 (by decide +kernel) ?_
            refine w_bastNP d_m_search_210 (by decide) (rfl) (show i < 20 from (by omega)) (by decide) ?_
            refine w_aload_n d_m_search_211 rfl ?_
            refine w_getIV (v := (nI rf)) d_m_search_212 FL_m_182 (by decide) (rfl) (rfl) ((put_ne (by omega)).trans ((f2.2 8 13 (by decide)).trans hrf1)) ?_
            refine w_if_neN 253 d_m_search_215 (by decide) (by omega) (fun h215 => ?_) (fun h215 => ?_)
            · refine w_iincN d_m_search_253 rfl ?_
              refine w_goto 175 d_m_search_256 (by decide) ?_
              refine hn9 h181 _ _ (f2.put (by omega)) (fun j hj => ?_) (fun z => absurd z (by omega))
              by_cases hji : j = i
              · rw [hji, put_at]
                show nI _ = bI (decide (_ < _))
                rw [decide_eq_false (by omega)]
                rfl
              · rw [put_ne (by omega)]
                exact gt j (by omega)
            · refine w_iload d_m_search_218 rfl ?_
              refine w_iload d_m_search_220 rfl ?_
              refine w_icmp_geN 253 d_m_search_222 (by decide) (by omega) (by omega) (fun h222 => ?_) (fun h222 => ?_)
              · refine w_iincN d_m_search_253 rfl ?_
                refine w_goto 175 d_m_search_256 (by decide) ?_
                refine hn9 h181 _ _ (f2.put (by omega)) (fun j hj => ?_) (fun z => HT_keep (HT_no (g1 z) (Or.inr (by omega))) (fun x w hx => put_ne (by omega)))
                by_cases hji : j = i
                · rw [hji, put_at]
                  show nI _ = bI (decide (_ < _))
                  rw [decide_eq_false (by omega)]
                  rfl
                · rw [put_ne (by omega)]
                  exact gt j (by omega)
              · refine w_aload_n d_m_search_225 rfl ?_
                refine w_getR d_m_search_226 FL_m_29 (by decide) (rfl) (rfl) ?_
                refine w_iload d_m_search_229 rfl ?_
                refine w_aload_n d_m_search_231 rfl ?_
                refine w_getR d_m_search_232 FL_m_65 (by decide) (rfl) (rfl) ?_
                refine w_iload d_m_search_235 rfl ?_
                refine w_ialdNV (v := ((S1.1 44 i))) d_m_search_237 (by decide) (rfl) (show i < 20 from (by omega)) ((put_ne (by omega)).trans (f2.2 44 i (by decide))) ?_
                refine w_iastNP d_m_search_238 (by decide) (rfl) (show (rkB (fun _ => true) (S1.1 45) (S1.1 44) q i) < 8 from (by omega)) ?_
                refine w_aload_n d_m_search_239 rfl ?_
                refine w_getR d_m_search_240 FL_m_32 (by decide) (rfl) (rfl) ?_
                refine w_iload d_m_search_243 rfl ?_
                show Wp _ 245 _ _ _ _
                refine w_aload_n d_m_search_245 rfl ?_
                refine w_getR d_m_search_246 FL_m_68 (by decide) (rfl) (rfl) ?_
                refine w_iload d_m_search_249 rfl ?_
                refine w_ialdNV (v := ((S1.1 45 i))) d_m_search_251 (by decide) (rfl) (show i < 20 from (by omega)) ((put_ne (by omega)).trans ((put_ne (by omega)).trans (f2.2 45 i (by decide)))) ?_
                refine w_iastNP d_m_search_252 (by decide) (rfl) (show (rkB (fun _ => true) (S1.1 45) (S1.1 44) q i) < 8 from (by omega)) ?_
                refine w_iincN d_m_search_253 rfl ?_
                refine w_goto 175 d_m_search_256 (by decide) ?_
                refine hn9 h181 _ _ (((f2.put (by omega)).put (by omega)).put (by omega)) (fun j hj => ?_) (fun z => ?_)
                · rw [put_ne (by omega), put_ne (by omega)]
                  by_cases hji : j = i
                  · rw [hji, put_at]
                    show nI _ = bI (decide (_ < _))
                    rw [decide_eq_false (by omega)]
                    rfl
                  · rw [put_ne (by omega)]
                    exact gt j (by omega)
                · refine HT_yes h181 hinj (g1 z) rfl (fun x w hx hw => ?_) ?_ ?_
                  · rw [put_ne (by omega), put_ne (by omega), put_ne (by omega)]
                  · rw [put_ne (by omega), put_at]
                  · exact put_at
          · refine w_iconst (v := nI 1) d_m_search_205 (by decide +kernel) ?_
            refine w_goto 210 d_m_search_206 (by decide) ?_
            refine w_bastNP d_m_search_210 (by decide) (rfl) (show i < 20 from (by omega)) (by decide) ?_
            refine w_aload_n d_m_search_211 rfl ?_
            refine w_getIV (v := (nI rf)) d_m_search_212 FL_m_182 (by decide) (rfl) (rfl) ((put_ne (by omega)).trans ((f2.2 8 13 (by decide)).trans hrf1)) ?_
            refine w_if_neN 253 d_m_search_215 (by decide) (by omega) (fun h215 => ?_) (fun h215 => ?_)
            · refine w_iincN d_m_search_253 rfl ?_
              refine w_goto 175 d_m_search_256 (by decide) ?_
              refine hn9 h181 _ _ (f2.put (by omega)) (fun j hj => ?_) (fun z => absurd z (by omega))
              by_cases hji : j = i
              · rw [hji, put_at]
                show nI _ = bI (decide (_ < _))
                rw [decide_eq_true (by omega)]
                rfl
              · rw [put_ne (by omega)]
                exact gt j (by omega)
            · refine w_iload d_m_search_218 rfl ?_
              refine w_iload d_m_search_220 rfl ?_
              refine w_icmp_geN 253 d_m_search_222 (by decide) (by omega) (by omega) (fun h222 => ?_) (fun h222 => ?_)
              · refine w_iincN d_m_search_253 rfl ?_
                refine w_goto 175 d_m_search_256 (by decide) ?_
                refine hn9 h181 _ _ (f2.put (by omega)) (fun j hj => ?_) (fun z => HT_keep (HT_no (g1 z) (Or.inr (by omega))) (fun x w hx => put_ne (by omega)))
                by_cases hji : j = i
                · rw [hji, put_at]
                  show nI _ = bI (decide (_ < _))
                  rw [decide_eq_true (by omega)]
                  rfl
                · rw [put_ne (by omega)]
                  exact gt j (by omega)
              · refine w_aload_n d_m_search_225 rfl ?_
                refine w_getR d_m_search_226 FL_m_29 (by decide) (rfl) (rfl) ?_
                refine w_iload d_m_search_229 rfl ?_
                refine w_aload_n d_m_search_231 rfl ?_
                refine w_getR d_m_search_232 FL_m_65 (by decide) (rfl) (rfl) ?_
                refine w_iload d_m_search_235 rfl ?_
                refine w_ialdNV (v := ((S1.1 44 i))) d_m_search_237 (by decide) (rfl) (show i < 20 from (by omega)) ((put_ne (by omega)).trans (f2.2 44 i (by decide))) ?_
                refine w_iastNP d_m_search_238 (by decide) (rfl) (show (rkB (fun _ => true) (S1.1 45) (S1.1 44) q i) < 8 from (by omega)) ?_
                refine w_aload_n d_m_search_239 rfl ?_
                refine w_getR d_m_search_240 FL_m_32 (by decide) (rfl) (rfl) ?_
                refine w_iload d_m_search_243 rfl ?_
                show Wp _ 245 _ _ _ _
                refine w_aload_n d_m_search_245 rfl ?_
                refine w_getR d_m_search_246 FL_m_68 (by decide) (rfl) (rfl) ?_
                refine w_iload d_m_search_249 rfl ?_
                refine w_ialdNV (v := ((S1.1 45 i))) d_m_search_251 (by decide) (rfl) (show i < 20 from (by omega)) ((put_ne (by omega)).trans ((put_ne (by omega)).trans (f2.2 45 i (by decide)))) ?_
                refine w_iastNP d_m_search_252 (by decide) (rfl) (show (rkB (fun _ => true) (S1.1 45) (S1.1 44) q i) < 8 from (by omega)) ?_
                refine w_iincN d_m_search_253 rfl ?_
                refine w_goto 175 d_m_search_256 (by decide) ?_
                refine hn9 h181 _ _ (((f2.put (by omega)).put (by omega)).put (by omega)) (fun j hj => ?_) (fun z => ?_)
                · rw [put_ne (by omega), put_ne (by omega)]
                  by_cases hji : j = i
                  · rw [hji, put_at]
                    show nI _ = bI (decide (_ < _))
                    rw [decide_eq_true (by omega)]
                    rfl
                  · rw [put_ne (by omega)]
                    exact gt j (by omega)
                · refine HT_yes h181 hinj (g1 z) rfl (fun x w hx hw => ?_) ?_ ?_
                  · rw [put_ne (by omega), put_ne (by omega), put_ne (by omega)]
                  · rw [put_ne (by omega), put_at]
                  · exact put_at
      refine w_aload_n d_m_search_151 rfl ?_
      refine w_getIV (v := (nI rf)) d_m_search_152 FL_m_182 (by decide) (rfl) (rfl) (hrf1) ?_
      refine w_if_neN 163 d_m_search_155 (by decide) (by omega) (fun h155 => ?_) (fun h155 => ?_)
      · refine w_iload d_m_search_163 rfl ?_
        refine w_aload_n d_m_search_165 rfl ?_
        refine w_getIV (v := (nI rf)) d_m_search_166 FL_m_182 (by decide) (rfl) (rfl) (hrf1) ?_
        refine w_imulN d_m_search_169 ?_
        refine w_istore d_m_search_170 (Nat.le_of_ble_eq_true rfl) ?_
        refine w_iconst (v := nI 0) d_m_search_172 (by decide +kernel) ?_
        refine w_istore d_m_search_173 (Nat.le_of_ble_eq_true rfl) ?_
        exact hlA _ (Or.inr ⟨by omega, rfl⟩) 0 (by omega) S1 _ ⟨rfl, fun _ _ _ => rfl⟩ (fun j hj => absurd hj (by omega)) (fun z j hj => absurd hj (by omega))
      · refine w_iload d_m_search_158 rfl ?_
        refine w_goto 170 d_m_search_160 (by decide) ?_
        refine w_istore d_m_search_170 (Nat.le_of_ble_eq_true rfl) ?_
        refine w_iconst (v := nI 0) d_m_search_172 (by decide +kernel) ?_
        refine w_istore d_m_search_173 (Nat.le_of_ble_eq_true rfl) ?_
        exact hlA _ (Or.inl ⟨by omega, rfl⟩) 0 (by omega) S1 _ ⟨rfl, fun _ _ _ => rfl⟩ (fun j hj => absurd hj (by omega)) (fun z j hj => absurd hj (by omega))
    have hids : ∀ id, id ≤ 1000 → ∀ (S1 : St), FrS G S1 → MP G S1 kind nl nc pb id → S1.1 8 17 = nI (cntB (pmM G nl pb) id) → Wp M_m_search 99 [.ref 8, .int a, .int b, .int c, .int d, .int (nI kk), x6, .int (nI id), x8, x9] [] S1 (fun v9 S' => (mrOk S a b c d (nI kk) → v9 = some (.int (S'.1 8 16)) ∧ ∃ kk9, nI kk = nI kk9 ∧ 1 ≤ kk9 ∧ kk9 ≤ 8 ∧ MSr G S' kind nl nc pb rf kk9) ∧ (¬ mrOk S a b c d (nI kk) → v9 = some (.int (mrR S a b c d (nI kk))) ∧ S' = setRow S 35 (pt a b c d) 4)) := by
      refine loopUp 1000 (fun id hk9 hn9 => ?_)
      intro S1 h1 hmp e17
      have hcq : id < 1000 → ¬ G.1 30 id = 0 → cntB (pmM G nl pb) id < 20 := fun hid hp => by
        have h2 : cntB (prM S) id < cntB (prM S) 1000 := cntB_lt hid (by rw [← hpp id]; exact decide_eq_true hp)
        have h3 : cntB (pmM G nl pb) id ≤ cntB (prM S) id := cntB_sub (fun u _ h => by rw [← hpp u]; unfold pmM at h; rw [Bool.and_eq_true] at h; exact h.1)
        omega
      refine w_iload d_m_search_99 rfl ?_
      refine w_sipush (v := nI 1000) d_m_search_101 (by decide +kernel) ?_
      refine w_icmp_geN 129 d_m_search_104 (by decide) (by omega) (by omega) (fun h104 => ?_) (fun h104 => ?_)
      · have hid : id = 1000 := by omega
        subst hid
        rw [← hq] at e17
        refine w_aload_n d_m_search_129 rfl ?_
        refine w_aload_n d_m_search_130 rfl ?_
        refine w_getIV (v := (nI q)) d_m_search_131 FL_m_185 (by decide) (rfl) (rfl) (e17) ?_
        refine w_iload d_m_search_134 rfl ?_
        refine w_icmp_geN 146 d_m_search_136 (by decide) (by omega) (by omega) (fun h136 => ?_) (fun h136 => ?_)
        · refine w_iload d_m_search_146 rfl ?_
          refine w_putIP d_m_search_148 FL_m_191 FW_8_16 (by decide) (rfl) (rfl) ?_
          refine hlast _ (h1.put (by omega)) (MP_all hmp (fun x z hx => put_ne (by omega))) ((put_ne (by omega)).trans e17) ?_ _ _ _
          rw [put_at]
          exact congrArg nI (by rw [Nat.min_eq_left (by omega)])
        · refine w_aload_n d_m_search_139 rfl ?_
          refine w_getIV (v := (nI q)) d_m_search_140 FL_m_185 (by decide) (rfl) (rfl) (e17) ?_
          refine w_goto 148 d_m_search_143 (by decide) ?_
          refine w_putIP d_m_search_148 FL_m_191 FW_8_16 (by decide) (rfl) (rfl) ?_
          refine hlast _ (h1.put (by omega)) (MP_all hmp (fun x z hx => put_ne (by omega))) ((put_ne (by omega)).trans e17) ?_ _ _ _
          rw [put_at]
          exact congrArg nI (by rw [Nat.min_eq_right (by omega)])
      · refine w_aload_n d_m_search_107 rfl ?_
        refine w_getR d_m_search_108 FL_m_22 (by decide) (rfl) (rfl) ?_
        refine w_iload d_m_search_111 rfl ?_
        refine w_baldNV (v := ((G.1 30 id))) d_m_search_113 (by decide) (rfl) (show id < 1000 from (by omega)) (h1.2 30 id (by omega)) ?_
        refine w_if_eq 123 d_m_search_114 (by decide) (fun h114 => ?_) (fun h114 => ?_)
        · refine w_iincN d_m_search_123 rfl ?_
          refine w_goto 99 d_m_search_126 (by decide) ?_
          have hp0 : pmM G nl pb id = false := by unfold pmM; rw [decide_eq_false (fun z => z h114), Bool.false_and]
          exact hn9 h104 _ h1 (MP_s0 hmp hp0 (fun _ _ _ => rfl)) (by rw [e17, cntB_s0 hp0])
        · refine w_aload_n d_m_search_117 rfl ?_
          refine w_iload d_m_search_118 rfl ?_
          refine w_callV1 (N := M_m_measure) d_m_search_120 LK_m_188 MF_m_measure MV_m_measure NP_m_measure (by decide) (by decide) (rfl) rfl rfl (Nat.le_of_ble_eq_true rfl) ?_
          refine Ev.mono (c_m_measure S1 kind nl nc pb (by rw [h1.2 8 4 (by decide), hg 8 4 (by decide)]; exact hk) (by rw [h1.2 8 5 (by decide), hg 8 5 (by decide)]; exact hl) hl1 hl4 (by rw [h1.2 8 6 (by decide), hg 8 6 (by decide)]; exact hc) hc1 hc4 (by rw [h1.2 8 12 (by decide), hg 8 12 (by decide)]; exact hpb) hpb4 id _ h104 e17 (hcq h104 h114) (fun k hk => by rw [h1.2 26 k (by omega), hg 26 k (by decide)]; exact ho k hk)) (fun r9 S2 hq9 => ?_)
          obtain ⟨rfl, f2, m0, m1⟩ := hq9
          show Wp _ _ _ [] _ _
          rw [sk_mtv h1, sk_ls h1, sk_pb h1] at m0 m1
          rw [sk_K h1, sk_X h1] at m1
          have hpe : pmM G nl pb id = pbM G nl pb (lsM G nl (mtv G id)) := by unfold pmM; rw [decide_eq_true h114, Bool.true_and]
          refine w_iincN d_m_search_123 rfl ?_
          refine w_goto 99 d_m_search_126 (by decide) ?_
          cases hpb9 : pbM G nl pb (lsM G nl (mtv G id)) with
          | false =>
            have m0 := m0 hpb9
            exact hn9 h104 _ (h1.tr f2) (MP_s0 hmp (hpe.trans hpb9) (fun x z hx => m0 x z (by omega))) (by rw [m0 8 17 (by decide), e17, cntB_s0 (hpe.trans hpb9)])
          | true =>
            obtain ⟨n1, n2, n3, n4, n5⟩ := m1 hpb9
            exact hn9 h104 _ (h1.tr f2) (MP_s1 hmp (fun x z hx hz => n5 x z (by omega) (fun w => hz w.2) (by omega)) n1 n2 n3) (by rw [n4, cntB_s1 (hpe.trans hpb9)])
    have hso : ∀ j, j ≤ 4 → ∀ (S1 : St), S1 = setRow (setRow (setRow S 35 (pt a b c d) 4) 36 (tM S a b c d) 4) 38 (tM S a b c d) j → Wp M_m_search 65 [.ref 8, .int a, .int b, .int c, .int d, .int (nI kk), x6, .int (nI j), x8, x9] [] S1 (fun v9 S' => (mrOk S a b c d (nI kk) → v9 = some (.int (S'.1 8 16)) ∧ ∃ kk9, nI kk = nI kk9 ∧ 1 ≤ kk9 ∧ kk9 ≤ 8 ∧ MSr G S' kind nl nc pb rf kk9) ∧ (¬ mrOk S a b c d (nI kk) → v9 = some (.int (mrR S a b c d (nI kk))) ∧ S' = setRow S 35 (pt a b c d) 4)) := by
      refine loopUp 4 (fun j hk9 hn9 => ?_)
      intro S1 hS1
      refine w_iload d_m_search_65 rfl ?_
      refine w_iconst (v := nI 4) d_m_search_67 (by decide +kernel) ?_
      refine w_icmp_geN 91 d_m_search_68 (by decide) (by omega) (by omega) (fun h68 => ?_) (fun h68 => ?_)
      · refine w_aload_n d_m_search_91 rfl ?_
        refine w_iconst (v := nI 0) d_m_search_92 (by decide +kernel) ?_
        refine w_putIP d_m_search_93 FL_m_185 FW_8_17 (by decide) (rfl) (rfl) ?_
        refine w_iconst (v := nI 0) d_m_search_96 (by decide +kernel) ?_
        refine w_istore d_m_search_97 (Nat.le_of_ble_eq_true rfl) ?_
        have hj4 : j = 4 := by omega
        have e : S1 = G := by rw [hS1, hj4, ← hGe]; rfl
        rw [e]
        exact hids 0 (by omega) _ ((FrS.rf G).put (by omega)) (fun u hu => absurd hu (by omega)) put_at
      · refine w_aload_n d_m_search_71 rfl ?_
        refine w_getR d_m_search_72 FL_m_47 (by decide) (rfl) (rfl) ?_
        refine w_iload d_m_search_75 rfl ?_
        refine w_aload_n d_m_search_77 rfl ?_
        refine w_getR d_m_search_78 FL_m_41 (by decide) (rfl) (rfl) ?_
        refine w_iload d_m_search_81 rfl ?_
        refine w_ialdNV (v := ((tM S a b c d j))) d_m_search_83 (by decide) (rfl) (show j < 4 from (by omega)) (by rw [hS1, setRow_ne (by decide), setRow_at h68]) ?_
        refine w_iastNP d_m_search_84 (by decide) (rfl) (show j < 4 from (by omega)) ?_
        refine w_iincN d_m_search_85 rfl ?_
        refine w_goto 65 d_m_search_88 (by decide) ?_
        refine hn9 h68 _ ?_
        rw [hS1]
        exact setRow_s rfl
    refine w_aload_n d_m_search_58 rfl ?_
    refine w_callV0 (N := M_m_turnIt) d_m_search_59 LK_m_89 MF_m_turnIt MV_m_turnIt NP_m_turnIt (by decide) (by decide) (rfl) rfl rfl (Nat.le_of_ble_eq_true rfl) ?_
    subst hS0
    refine Ev.det (c_m_turnIt _ (fun k hk => by rw [setRow_ne (by decide)]; exact ho k hk)) ?_
    rw [show setRow (setRow S 35 (pt a b c d) 4) 36 (fun k => tval ((setRow S 35 (pt a b c d) 4).1 26 k) ((setRow S 35 (pt a b c d) 4).1 35)) 4 = (setRow (setRow S 35 (pt a b c d) 4) 36 (tM S a b c d) 4) from setRow_congr (fun k hk => by
      show tval _ _ = tval _ _
      rw [setRow_ne (by decide)]
      exact tval_congr (ho k hk) (fun i hi => setRow_at hi))]
    refine w_iconst (v := nI 0) d_m_search_62 (by decide +kernel) ?_
    refine w_istore d_m_search_63 (Nat.le_of_ble_eq_true rfl) ?_
    exact hso 0 (by omega) _ (setRow_0 _ _ _).symm
  refine w_aload_n d_m_search_0 rfl ?_
  refine w_iload_n d_m_search_1 rfl ?_
  refine w_iload_n d_m_search_2 rfl ?_
  refine w_iload_n d_m_search_3 rfl ?_
  refine w_iload d_m_search_4 rfl ?_
  refine w_callV4 (N := M_m_give) d_m_search_6 LK_m_100 MF_m_give MV_m_give NP_m_give (by decide) (by decide) (rfl) rfl rfl (Nat.le_of_ble_eq_true rfl) ?_
  refine Ev.det (c_m_give _ _ _ _ _) ?_
  refine w_istore d_m_search_9 (Nat.le_of_ble_eq_true rfl) ?_
  refine w_aload_n d_m_search_11 rfl ?_
  refine w_getIV (v := ((S.1 8 3))) d_m_search_12 FL_m_92 (by decide) (rfl) (rfl) (setRow_ne (by decide)) ?_
  refine w_if_eq 34 d_m_search_15 (by decide) (fun h15 => ?_) (fun h15 => ?_)
  · refine w_aload_n d_m_search_34 rfl ?_
    refine w_getIV (v := ((S.1 8 3))) d_m_search_35 FL_m_92 (by decide) (rfl) (rfl) (setRow_ne (by decide)) ?_
    refine w_if_ne 45 d_m_search_38 (by decide) (fun h38 => ?_) (fun h38 => ?_)
    · refine w_iload d_m_search_45 rfl ?_
      refine w_if_neB 55 d_m_search_47 (by decide) (fun h47 => ?_) (fun h47 => ?_)
      · refine w_bipush (v := -3) d_m_search_55 (by decide +kernel) ?_
        refine w_iret (st := []) rfl d_m_search_57 ?_
        exact absurd h15 h38
      · refine w_bipush (v := -2) d_m_search_50 (by decide +kernel) ?_
        refine w_goto 57 d_m_search_52 (by decide) ?_
        refine w_iret (st := []) rfl d_m_search_57 ?_
        exact absurd h15 h38
    · refine w_iconst (v := -1) d_m_search_41 (by decide +kernel) ?_
      refine w_goto 57 d_m_search_42 (by decide) ?_
      refine w_iret (st := []) rfl d_m_search_57 ?_
      exact ⟨fun z => absurd h15 z.1, fun _ => ⟨by unfold mrR; rw [if_pos h15], rfl⟩⟩
  · refine w_iload d_m_search_18 rfl ?_
    refine w_if_eqB 34 d_m_search_20 (by decide) (fun h20 => ?_) (fun h20 => ?_)
    · refine w_aload_n d_m_search_34 rfl ?_
      refine w_getIV (v := ((S.1 8 3))) d_m_search_35 FL_m_92 (by decide) (rfl) (rfl) (setRow_ne (by decide)) ?_
      refine w_if_ne 45 d_m_search_38 (by decide) (fun h38 => ?_) (fun h38 => ?_)
      · refine w_iload d_m_search_45 rfl ?_
        refine w_if_neB 55 d_m_search_47 (by decide) (fun h47 => ?_) (fun h47 => ?_)
        · refine w_bipush (v := -3) d_m_search_55 (by decide +kernel) ?_
          refine w_iret (st := []) rfl d_m_search_57 ?_
          exact absurd (h20.symm.trans h47) (by decide)
        · refine w_bipush (v := -2) d_m_search_50 (by decide +kernel) ?_
          refine w_goto 57 d_m_search_52 (by decide) ?_
          refine w_iret (st := []) rfl d_m_search_57 ?_
          have hb9 : badPt a b c d = true := by simpa using h20
          exact ⟨fun z => absurd (z.2.1.symm.trans hb9) (by decide), fun _ => ⟨by unfold mrR; rw [if_neg h15, if_pos hb9], rfl⟩⟩
      · refine w_iconst (v := -1) d_m_search_41 (by decide +kernel) ?_
        refine w_goto 57 d_m_search_42 (by decide) ?_
        refine w_iret (st := []) rfl d_m_search_57 ?_
        exact absurd h38 h15
    · refine w_iload d_m_search_23 rfl ?_
      refine w_iconst (v := nI 1) d_m_search_25 (by decide +kernel) ?_
      refine w_bipush (v := nI 8) d_m_search_26 (by decide +kernel) ?_
      refine w_callS3 (N := M_m_within) d_m_search_28 LK_m_85 MF_m_within MS_m_within NP_m_within (by decide) rfl (Nat.le_of_ble_eq_true rfl) ?_
      refine Ev.det (c_m_within _ _ _ _) ?_
      refine w_if_neB 58 d_m_search_31 (by decide) (fun h31 => ?_) (fun h31 => ?_)
      · have h31 := of_decide_eq_true h31
        have hb9 : badPt a b c d = false := by simpa using h20
        obtain ⟨kk, hkk1, hkk2, hkk⟩ := nI_in2 h31 (by decide) (by decide)
        have hz := hmain ⟨h15, hb9, h31⟩ kk hkk hkk1 hkk2 (.int (bI (!badPt a b c d))) .null .null .null _ rfl
        rw [← hkk] at hz
        exact hz
      · refine w_aload_n d_m_search_34 rfl ?_
        refine w_getIV (v := ((S.1 8 3))) d_m_search_35 FL_m_92 (by decide) (rfl) (rfl) (setRow_ne (by decide)) ?_
        refine w_if_ne 45 d_m_search_38 (by decide) (fun h38 => ?_) (fun h38 => ?_)
        · refine w_iload d_m_search_45 rfl ?_
          refine w_if_neB 55 d_m_search_47 (by decide) (fun h47 => ?_) (fun h47 => ?_)
          · refine w_bipush (v := -3) d_m_search_55 (by decide +kernel) ?_
            refine w_iret (st := []) rfl d_m_search_57 ?_
            have hb9 : badPt a b c d = false := by simpa using h20
            exact ⟨fun z => absurd z.2.2 (of_decide_eq_false h31), fun _ => ⟨by unfold mrR; rw [if_neg h15, if_neg (by rw [hb9]; decide)], rfl⟩⟩
          · refine w_bipush (v := -2) d_m_search_50 (by decide +kernel) ?_
            refine w_goto 57 d_m_search_52 (by decide) ?_
            refine w_iret (st := []) rfl d_m_search_57 ?_
            exact absurd (h20.symm.trans h47) (by decide)
        · refine w_iconst (v := -1) d_m_search_41 (by decide +kernel) ?_
          refine w_goto 57 d_m_search_42 (by decide) ?_
          refine w_iret (st := []) rfl d_m_search_57 ?_
          exact absurd h38 h15
