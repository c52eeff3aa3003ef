def tiM (S : St) : Nat → Nat → Int32 := fun i k => tval (S.1 26 k) (fun k => S.1 27 (4 * i + k))
def mC (S : St) (ns nl r : Nat) : Nat → Nat → Int32 := clu (tiM S) ns 4 nl r
def mY (S : St) (ns nl r : Nat) : Nat → Nat → Int32 := fun i k => tiM S i k - mC S ns nl r (near (fun l => dst (mC S ns nl r l) (tiM S i) 4) nl) k
def mW (S : St) (kind : Int32) (ns nl nc r : Nat) (part j k : Nat) : Int32 := if kind = 0 then clu (fun i k => mY S ns nl r i (2 * part + k)) ns 2 nc r j k else sprd (minI (fun i => mY S ns nl r i part) ns) (maxI (fun i => mY S ns nl r i part) ns) nc j
def mrOK (ns kp : Nat) (l kq c r : Int32) : Prop := ¬ ns = 0 ∧ kp = 0 ∧ (nI 1 ≤ l ∧ l ≤ nI 4) ∧ (nI 0 ≤ kq ∧ kq ≤ nI 2) ∧ (nI 1 ≤ c ∧ c ≤ nI 4) ∧ (nI 0 ≤ r ∧ r ≤ nI 8)
/-- the reference's scratch -/
def scM (a : Nat) : Prop := a = 35 ∨ a = 36 ∨ a = 37 ∨ a = 39 ∨ a = 40 ∨ a = 41 ∨ a = 42 ∨ a = 43
def TM (S S' : St) (kind : Int32) (ns nl nc r : Nat) : Prop := S'.2 = S.2 ∧ (∀ a i, ¬ scM a → ¬ (a = 28 ∨ a = 29) → ¬ (a = 8 ∧ (i = 3 ∨ i = 4 ∨ i = 5 ∨ i = 6)) → S'.1 a i = S.1 a i) ∧ S'.1 8 3 = nI 1 ∧ S'.1 8 4 = kind ∧ S'.1 8 5 = nI nl ∧ S'.1 8 6 = nI nc ∧ (∀ c, c < nl → ∀ k, k < 4 → S'.1 28 (4 * c + k) = mC S ns nl r c k) ∧ ∀ part, part < parts kind → ∀ j, j < nc → ∀ k, k < pwid kind → S'.1 29 (8 * part + 2 * j + k) = mW S kind ns nl nc r part j k
theorem Wp.mono {M : Mt} {pc : Nat} {L st : List Value} {S : St} {Z Z' : Option Value → St → Prop} (h : Wp M pc L st S Z) (hz : ∀ r S', Z r S' → Z' r S') : Wp M pc L st S Z' := by
  intro l Y hY p e s m args below meth c X hK ls H locs hL hP hS T hT X1
  obtain ⟨t, a1, o, b1, b2, ⟨⟨r, S', q1, q2, q3⟩, qF⟩, b4⟩ := h l Y hY p e s m args below meth c X hK ls H locs hL hP hS T hT X1
  exact ⟨t, a1, o, b1, b2, ⟨⟨r, S', q1, hz r S' q2, q3⟩, qF⟩, b4⟩
theorem ernM_congr {S S' : St} {kind : Int32} {nc : Nat} {Y Y' : Nat → Nat → Int32} (h : ∀ z, S.1 29 z = S'.1 29 z) : ∀ {n : Nat}, (∀ i, i < n → ∀ k, k < 4 → Y i k = Y' i k) → ernM S kind nc Y n = ernM S' kind nc Y' n
  | 0, _ => rfl
  | n + 1, hY => by
    show erpM S kind nc (Y n) (ernM S kind nc Y n) (parts kind) = erpM S' kind nc (Y' n) (ernM S' kind nc Y' n) (parts kind)
    rw [ernM_congr h (fun i hi => hY i (by omega))]
    have key : ∀ p, p ≤ parts kind → erpM S kind nc (Y n) (ernM S' kind nc Y' n) p = erpM S' kind nc (Y' n) (ernM S' kind nc Y' n) p := by
      intro p hp
      induction p with
      | zero => rfl
      | succ p ih =>
        show erpM S kind nc (Y n) _ p + wdM S kind (Y n) p (cdM S kind nc (Y n) p) = erpM S' kind nc (Y' n) _ p + wdM S' kind (Y' n) p (cdM S' kind nc (Y' n) p)
        rw [ih (by omega), cdM_congr (by omega) h (hY n (by omega)), wdM_congr (by omega) h (hY n (by omega))]
    exact key _ (Nat.le_refl _)
set_option maxRecDepth 100000 in
set_option maxHeartbeats 4000000 in
theorem c_m_train (S : St) (ns kp : Nat) (l kq c r : Int32) (hn : S.1 8 2 = nI ns) (hn24 : ns ≤ 24) (hkp : S.1 8 11 = nI kp) (hkp2 : kp ≤ 20) (ho : ∀ k, k < 4 → okStep (S.1 26 k)) : Ev M_m_train [.ref 8, .int l, .int kq, .int c, .int r] S (fun v9 S' => (mrOK ns kp l kq c r → ∃ nl nc rr kn : Nat, l = nI nl ∧ kq = nI kn ∧ c = nI nc ∧ r = nI rr ∧ 0 < nl ∧ nl ≤ 4 ∧ 0 < nc ∧ nc ≤ 4 ∧ rr ≤ 8 ∧ kn ≤ 2 ∧ v9 = some (.int (ernM S' kq nc (mY S ns nl rr) ns)) ∧ TM S S' kq ns nl nc rr) ∧ (¬ mrOK ns kp l kq c r → v9 = some (.int (trR ns kp)) ∧ S' = S)) := by
  refine Ev.of MF_m_train (all_cat rfl) (Nat.le_of_ble_eq_true rfl) ?_
  show Wp M_m_train 0 [.ref 8, .int l, .int kq, .int c, .int r, .null, .null, .null] [] _ _
  have hmain : ∀ (nl kn nc r : Nat), 0 < nl → nl ≤ 4 → kn ≤ 2 → 0 < nc → nc ≤ 4 → r ≤ 8 → 0 < ns → ∀ S0 : St, S0.2 = S.2 → (∀ a i, ¬ (a = 8 ∧ (i = 3 ∨ i = 4 ∨ i = 5 ∨ i = 6)) → S0.1 a i = S.1 a i) → S0.1 8 3 = nI 1 → S0.1 8 4 = nI kn → S0.1 8 5 = nI nl → S0.1 8 6 = nI nc → ∀ x6 x7 : Value, Wp M_m_train 92 [.ref 8, .int (nI nl), .int (nI kn), .int (nI nc), .int (nI r), .int (nI 0), x6, x7] [] S0 (fun v9 S' => v9 = some (.int (ernM S' (nI kn) nc (mY S ns nl r) ns)) ∧ TM S S' (nI kn) ns nl nc r) := by
    intro nl kn nc r hl1 hl4 hkn hc1 hc4 hr hn0 S0 eT e0 e3 e4 e5 e6
    have hpl := parts_le (nI kn)
    have hsc : ∀ a, (a = 8 ∨ a = 26 ∨ a = 27) → ¬ scM a := fun a h q => by unfold scM at q; omega
    have hw5 : ∀ p, p ≤ parts (nI kn) → ∀ (S1 : St) (x6 : Value) (x7 : Value), S1.2 = S0.2 → (∀ a z, ¬ scM a → ¬ (a = 28 ∨ a = 29) → S1.1 a z = S0.1 a z) → (∀ q, q < nl → ∀ k, k < 4 → S1.1 28 (4 * q + k) = (mC S ns nl r) q k) → (∀ u, u < ns → ∀ k, k < 4 → rsM S1 u k = (mY S ns nl r) u k) → (∀ q, q < p → ∀ j, j < nc → ∀ k, k < pwid (nI kn) → S1.1 29 (8 * q + 2 * j + k) = mW S (nI kn) ns nl nc r q j k) → Wp M_m_train 323 [.ref 8, .int (nI nl), .int (nI kn), .int (nI nc), .int (nI r), .int (nI p), x6, x7] [] S1 (fun v9 S' => v9 = some (.int (ernM S' (nI kn) nc (mY S ns nl r) ns)) ∧ TM S S' (nI kn) ns nl nc r) := by
      refine loopUp (parts (nI kn)) (fun p hk6 hn6 => ?_)
      intro S1 x6 x7 h1 h2 h3 h4 h5
      refine w_iload d_m_train_323 rfl ?_
      refine w_aload_n d_m_train_325 rfl ?_
      refine w_callV0 (N := M_m_parts) d_m_train_326 LK_m_144 MF_m_parts MV_m_parts NP_m_parts (by decide) (by decide) (rfl) rfl rfl (Nat.le_of_ble_eq_true rfl) ?_
      refine Ev.det (c_m_parts S1 (nI kn) ((h2 8 4 (hsc 8 (by omega)) (by decide)).trans e4)) ?_
      refine w_icmp_geN 362 d_m_train_329 (by decide) (by omega) (by omega) (fun h329 => ?_) (fun h329 => ?_)
      · refine w_aload_n d_m_train_362 rfl ?_
        refine w_callV0 (N := M_m_loss) d_m_train_363 LK_m_155 MF_m_loss MV_m_loss NP_m_loss (by decide) (by decide) (rfl) rfl rfl (Nat.le_of_ble_eq_true rfl) ?_
        refine Ev.mono (c_m_loss S1 (nI kn) ns nc ((h2 8 4 (hsc 8 (by omega)) (by decide)).trans e4) ((h2 8 2 (hsc 8 (by omega)) (by decide)).trans ((e0 8 2 (by decide)).trans hn)) hn24 ((h2 8 6 (hsc 8 (by omega)) (by decide)).trans e6) hc1 hc4) (fun r9 S2 hq => ?_)
        obtain ⟨rfl, g1, g2⟩ := hq
        show Wp _ _ _ [.int _] _ _
        refine w_iret (st := []) rfl d_m_train_366 ?_
        have hpp : p = parts (nI kn) := by omega
        refine ⟨?_, g1.trans (h1.trans eT), fun a z ha hb hc => ?_, ?_, ?_, ?_, ?_, fun q hq k hk => ?_, fun part hp j hj k hk => ?_⟩
        · refine congrArg (fun v => some (Value.int v)) (ernM_congr (fun z => (g2 29 z (by decide)).symm) (fun i hi k hk => ?_))
          exact h4 i hi k hk
        · have ha2 := ha
          unfold scM at ha2
          rw [g2 a z (by omega), h2 a z ha hb]
          exact e0 a z hc
        · rw [g2 _ _ (by decide), h2 8 3 (hsc 8 (by omega)) (by decide)]; exact e3
        · rw [g2 _ _ (by decide), h2 8 4 (hsc 8 (by omega)) (by decide)]; exact e4
        · rw [g2 _ _ (by decide), h2 8 5 (hsc 8 (by omega)) (by decide)]; exact e5
        · rw [g2 _ _ (by decide), h2 8 6 (hsc 8 (by omega)) (by decide)]; exact e6
        · rw [g2 _ _ (by decide)]; exact h3 q hq k hk
        · rw [g2 _ _ (by decide)]; exact h5 part (by omega) j hj k hk
      · refine w_aload_n d_m_train_332 rfl ?_
        refine w_getIV (v := ((nI kn))) d_m_train_333 FL_m_128 (by decide) (rfl) (rfl) ((h2 8 4 (hsc 8 (by omega)) (by decide)).trans e4) ?_
        refine w_if_ne 350 d_m_train_336 (by decide) (fun h336 => ?_) (fun h336 => ?_)
        · refine w_aload_n d_m_train_350 rfl ?_
          refine w_iload d_m_train_351 rfl ?_
          refine w_callV1 (N := M_m_spread) d_m_train_353 LK_m_151 MF_m_spread MV_m_spread NP_m_spread (by decide) (by decide) (rfl) rfl rfl (Nat.le_of_ble_eq_true rfl) ?_
          have hk0 : ¬ (nI kn : Int32) = 0 := h336
          refine Ev.mono (c_m_spread S1 p (by omega) ns nc ((h2 8 2 (hsc 8 (by omega)) (by decide)).trans ((e0 8 2 (by decide)).trans hn)) hn0 hn24 ((h2 8 6 (hsc 8 (by omega)) (by decide)).trans e6) hc1 hc4) (fun r9 S2 hq => ?_)
          obtain ⟨rfl, g1, g2⟩ := hq
          show Wp _ _ _ [] _ _
          refine w_iincN d_m_train_356 rfl ?_
          refine w_goto 323 d_m_train_359 (by decide) ?_
          refine hn6 h329 _ _ _ (g1.1.trans h1) (fun a z ha hb => by have ha2 := ha; unfold scM at ha2; rw [g1.2 a z (by omega) (by omega)]; exact h2 a z ha hb) (fun q hq k hk => by rw [g1.2 28 _ (by omega) (by omega)]; exact h3 q hq k hk) (fun i hi k hk => by rw [show rsM S2 i k = rsM S1 i k from g1.2 40 _ (by omega) (by omega)]; exact h4 i hi k hk) ?_
          intro q hq j hj k hk
          by_cases hqp : q = p
          · subst hqp
            have hk1 : k = 0 := by
              have : pwid (nI kn) ≤ 1 := by unfold pwid; rw [if_neg hk0]; split <;> omega
              omega
            rw [hk1, Nat.add_zero, g2 j hj]
            unfold mW
            rw [if_neg hk0, minI_congr (h4 0 hn0 q (by omega)) (fun i hi => h4 i hi q (by omega)), maxI_congr (h4 0 hn0 q (by omega)) (fun i hi => h4 i hi q (by omega))]
          · rw [g1.2 29 _ (by omega) (by have := pwid_le (nI kn); omega)]
            exact h5 q (by omega) j hj k hk
        · refine w_aload_n d_m_train_339 rfl ?_
          refine w_iload d_m_train_340 rfl ?_
          refine w_iload d_m_train_342 rfl ?_
          refine w_callV2 (N := M_m_learn) d_m_train_344 LK_m_148 MF_m_learn MV_m_learn NP_m_learn (by decide) (by decide) (rfl) rfl rfl (Nat.le_of_ble_eq_true rfl) ?_
          have hk0 : (nI kn : Int32) = 0 := h336
          have hp2 : parts (nI kn) = 2 := by unfold parts; rw [if_pos hk0]
          refine Ev.mono (c_m_learn S1 p (by omega) ns nc r ((h2 8 2 (hsc 8 (by omega)) (by decide)).trans ((e0 8 2 (by decide)).trans hn)) hn0 hn24 ((h2 8 6 (hsc 8 (by omega)) (by decide)).trans e6) hc1 hc4 hr) (fun r9 S2 hq => ?_)
          obtain ⟨rfl, g1, g2⟩ := hq
          show Wp _ _ _ [] _ _
          refine w_goto 356 d_m_train_347 (by decide) ?_
          refine w_iincN d_m_train_356 rfl ?_
          refine w_goto 323 d_m_train_359 (by decide) ?_
          refine hn6 h329 _ _ _ (g1.1.trans h1) (fun a z ha hb => by have ha2 := ha; unfold scM at ha2; rw [g1.2 a z (by omega) (by omega)]; exact h2 a z ha hb) (fun q hq k hk => by rw [g1.2 28 _ (by omega) (by omega)]; exact h3 q hq k hk) (fun i hi k hk => by rw [show rsM S2 i k = rsM S1 i k from g1.2 40 _ (by omega) (by omega)]; exact h4 i hi k hk) ?_
          intro q hq j hj k hk
          by_cases hqp : q = p
          · subst hqp
            have hk2 : k < 2 := by have : pwid (nI kn) = 2 := by unfold pwid; rw [if_pos hk0]
                                   omega
            rw [g2 j hj k hk2]
            unfold mW
            rw [if_pos hk0]
            exact clu_congr hn0 hc1 (fun i hi k hk => h4 i hi _ (by omega)) r j hj k hk2
          · rw [g1.2 29 _ (by omega) (by have := pwid_le (nI kn); omega)]
            exact h5 q (by omega) j hj k hk
    have hr4 : ∀ i, i ≤ ns → ∀ (S1 : St) (x6 : Value) (x7 : Value), S1.2 = S0.2 → (∀ a z, ¬ scM a → ¬ (a = 28 ∨ a = 29) → S1.1 a z = S0.1 a z) → (∀ q, q < nl → ∀ k, k < 4 → S1.1 28 (4 * q + k) = (mC S ns nl r) q k) → (∀ q, q < nl → ∀ k, k < 4 → S1.1 41 (4 * q + k) = (mC S ns nl r) q k) → (∀ i, i < ns → ∀ k, k < 4 → itM S1 i k = (tiM S) i k) → (∀ u, u < i → ∀ k, k < 4 → rsM S1 u k = (mY S ns nl r) u k) → Wp M_m_train 240 [.ref 8, .int (nI nl), .int (nI kn), .int (nI nc), .int (nI r), .int (nI i), x6, x7] [] S1 (fun v9 S' => v9 = some (.int (ernM S' (nI kn) nc (mY S ns nl r) ns)) ∧ TM S S' (nI kn) ns nl nc r) := by
      refine loopUp (ns) (fun i hk7 hn7 => ?_)
      intro S1 x6 x7 h1 h2 h3 h6 h7 h4
      refine w_iload d_m_train_240 rfl ?_
      refine w_aload_n d_m_train_242 rfl ?_
      refine w_getIV (v := (nI ns)) d_m_train_243 FL_m_103 (by decide) (rfl) (rfl) ((h2 8 2 (hsc 8 (by omega)) (by decide)).trans ((e0 8 2 (by decide)).trans hn)) ?_
      refine w_icmp_geN 320 d_m_train_246 (by decide) (by omega) (by omega) (fun h246 => ?_) (fun h246 => ?_)
      · refine w_iconst (v := nI 0) d_m_train_320 (by decide +kernel) ?_
        refine w_istore d_m_train_321 (Nat.le_of_ble_eq_true rfl) ?_
        obtain rfl : i = ns := by omega
        exact hw5 0 (by omega) _ _ _ h1 h2 h3 h4 lt_0
      · refine w_aload_n d_m_train_249 rfl ?_
        refine w_iload d_m_train_250 rfl ?_
        refine w_aload_n d_m_train_252 rfl ?_
        refine w_getIV (v := (nI nl)) d_m_train_253 FL_m_134 (by decide) (rfl) (rfl) ((h2 8 5 (hsc 8 (by omega)) (by decide)).trans e5) ?_
        refine w_iconst (v := nI 4) d_m_train_256 (by decide +kernel) ?_
        refine w_callV3 (N := M_m_nearest) d_m_train_257 LK_m_110 MF_m_nearest MV_m_nearest NP_m_nearest (by decide) (by decide) (rfl) rfl rfl (Nat.le_of_ble_eq_true rfl) ?_
        refine Ev.det (c_m_nearest S1 i nl 4 (by omega) hl1 hl4 (by decide)) ?_
        obtain ⟨c, hcc⟩ : ∃ c, c = near (fun l => dst ((mC S ns nl r) l) ((tiM S) i) 4) nl := ⟨_, rfl⟩
        have hcl : c < nl := by rw [hcc]; exact near_lt _ _ hl1
        have hnr : nrC (mdM S1) (itM S1) 4 nl i = c := by rw [hcc]; exact near_congr (fun l hl => dst_congr (h6 l hl) (h7 i h246))
        rw [hnr]
        refine w_istore d_m_train_260 (Nat.le_of_ble_eq_true rfl) ?_
        refine w_iconst (v := nI 0) d_m_train_262 (by decide +kernel) ?_
        refine w_istore d_m_train_263 (Nat.le_of_ble_eq_true rfl) ?_
        have hri : ∀ k, k ≤ 4 → ∀ (S2 : St), S2 = setSeg S1 40 (4 * i) ((mY S ns nl r) i) k → Wp M_m_train 265 [.ref 8, .int (nI nl), .int (nI kn), .int (nI nc), .int (nI r), .int (nI i), .int (nI c), .int (nI k)] [] S2 (fun v9 S' => v9 = some (.int (ernM S' (nI kn) nc (mY S ns nl r) ns)) ∧ TM S S' (nI kn) ns nl nc r) := by
          refine loopUp (4) (fun k hk8 hn8 => ?_)
          intro S2 hS2
          refine w_iload d_m_train_265 rfl ?_
          refine w_iconst (v := nI 4) d_m_train_267 (by decide +kernel) ?_
          refine w_icmp_geN 314 d_m_train_268 (by decide) (by omega) (by omega) (fun h268 => ?_) (fun h268 => ?_)
          · refine w_iincN d_m_train_314 rfl ?_
            refine w_goto 240 d_m_train_317 (by decide) ?_
            have hk4 : k = 4 := by omega
            rw [hk4] at hS2
            subst hS2
            refine hn7 h246 _ _ _ h1 (fun a z ha hb => by rw [setSeg_ne (by unfold scM at ha; omega)]; exact h2 a z ha hb) (fun q hq k hk => by rw [setSeg_ne (by omega)]; exact h3 q hq k hk) (fun q hq k hk => by rw [setSeg_ne (by omega)]; exact h6 q hq k hk) (fun q hq k hk => by show (setSeg S1 40 (4 * i) _ 4).1 39 _ = _; rw [setSeg_ne (by omega)]; exact h7 q hq k hk) ?_
            intro q hq z hz
            show (setSeg S1 40 (4 * i) ((mY S ns nl r) i) 4).1 40 (4 * q + z) = _
            by_cases hqi : q = i
            · rw [hqi, setSeg_at hz]
            · rw [setSeg_ne (by omega)]
              exact h4 q (by omega) z hz
          · refine w_aload_n d_m_train_271 rfl ?_
            refine w_getR d_m_train_272 FL_m_53 (by decide) (rfl) (rfl) ?_
            refine w_iconst (v := nI 4) d_m_train_275 (by decide +kernel) ?_
            refine w_iload d_m_train_276 rfl ?_
            refine w_imulN d_m_train_278 ?_
            refine w_iload d_m_train_279 rfl ?_
            refine w_iaddN d_m_train_281 ?_
            refine w_aload_n d_m_train_282 rfl ?_
            refine w_getR d_m_train_283 FL_m_50 (by decide) (rfl) (rfl) ?_
            refine w_iconst (v := nI 4) d_m_train_286 (by decide +kernel) ?_
            refine w_iload d_m_train_287 rfl ?_
            show Wp _ 289 _ _ _ _
            refine w_imulN d_m_train_289 ?_
            refine w_iload d_m_train_290 rfl ?_
            refine w_iaddN d_m_train_292 ?_
            refine w_ialdNV (v := (((tiM S) i k))) d_m_train_293 (by decide) (rfl) (show (4 * i) + k < 96 from (by omega)) (by rw [hS2, setSeg_ne (by omega)]; exact h7 i h246 k h268) ?_
            refine w_aload_n d_m_train_294 rfl ?_
            refine w_getR d_m_train_295 FL_m_56 (by decide) (rfl) (rfl) ?_
            refine w_iconst (v := nI 4) d_m_train_298 (by decide +kernel) ?_
            refine w_iload d_m_train_299 rfl ?_
            refine w_imulN d_m_train_301 ?_
            refine w_iload d_m_train_302 rfl ?_
            refine w_iaddN d_m_train_304 ?_
            refine w_ialdNV (v := (((mC S ns nl r) c k))) d_m_train_305 (by decide) (rfl) (show (4 * c) + k < 16 from (by omega)) (by rw [hS2, setSeg_ne (by omega)]; exact h6 c hcl k h268) ?_
            show Wp _ 306 _ _ _ _
            refine w_isub d_m_train_306 ?_
            refine w_iastNP d_m_train_307 (by decide) (rfl) (show (4 * i) + k < 96 from (by omega)) ?_
            refine w_iincN d_m_train_308 rfl ?_
            refine w_goto 265 d_m_train_311 (by decide) ?_
            refine hn8 h268 _ ?_
            rw [hS2]
            refine setSeg_s ?_
            show _ = (tiM S) i k - (mC S ns nl r) (near (fun l => dst ((mC S ns nl r) l) ((tiM S) i) 4) nl) k
            rw [← hcc]
        exact hri 0 (by omega) _ (setSeg_0 _ _ _ _).symm
    have hc3 : ∀ i, i ≤ 4 * nl → ∀ (S1 : St) (x6 : Value) (x7 : Value), S1.2 = S0.2 → (∀ a z, ¬ scM a → ¬ (a = 28 ∨ a = 29) → S1.1 a z = S0.1 a z) → (∀ q, q < nl → ∀ k, k < 4 → S1.1 41 (4 * q + k) = (mC S ns nl r) q k) → (∀ i, i < ns → ∀ k, k < 4 → itM S1 i k = (tiM S) i k) → (∀ z, z < i → S1.1 28 z = S1.1 41 z) → Wp M_m_train 206 [.ref 8, .int (nI nl), .int (nI kn), .int (nI nc), .int (nI r), .int (nI i), x6, x7] [] S1 (fun v9 S' => v9 = some (.int (ernM S' (nI kn) nc (mY S ns nl r) ns)) ∧ TM S S' (nI kn) ns nl nc r) := by
      refine loopUp (4 * nl) (fun i hk7 hn7 => ?_)
      intro S1 x6 x7 h1 h2 h6 h7 h3
      refine w_iload d_m_train_206 rfl ?_
      refine w_iconst (v := nI 4) d_m_train_208 (by decide +kernel) ?_
      refine w_aload_n d_m_train_209 rfl ?_
      refine w_getIV (v := (nI nl)) d_m_train_210 FL_m_134 (by decide) (rfl) (rfl) ((h2 8 5 (hsc 8 (by omega)) (by decide)).trans e5) ?_
      refine w_imulN d_m_train_213 ?_
      refine w_icmp_geN 237 d_m_train_214 (by decide) (by omega) (by omega) (fun h214 => ?_) (fun h214 => ?_)
      · refine w_iconst (v := nI 0) d_m_train_237 (by decide +kernel) ?_
        refine w_istore d_m_train_238 (Nat.le_of_ble_eq_true rfl) ?_
        have hin : i = 4 * nl := by omega
        refine hr4 0 (by omega) _ _ _ h1 h2 (fun q hq k hk => ?_) h6 h7 lt_0
        rw [h3 _ (by omega)]
        exact h6 q hq k hk
      · refine w_aload_n d_m_train_217 rfl ?_
        refine w_getR d_m_train_218 FL_m_16 (by decide) (rfl) (rfl) ?_
        refine w_iload d_m_train_221 rfl ?_
        refine w_aload_n d_m_train_223 rfl ?_
        refine w_getR d_m_train_224 FL_m_56 (by decide) (rfl) (rfl) ?_
        refine w_iload d_m_train_227 rfl ?_
        refine w_ialdNV (v := ((S1.1 41 i))) d_m_train_229 (by decide) (rfl) (show i < 16 from (by omega)) (rfl) ?_
        refine w_iastNP d_m_train_230 (by decide) (rfl) (show i < 16 from (by omega)) ?_
        refine w_iincN d_m_train_231 rfl ?_
        refine w_goto 206 d_m_train_234 (by decide) ?_
        refine hn7 h214 _ _ _ h1 (fun a z ha hb => by rw [put_ne (by omega)]; exact h2 a z ha hb) (fun q hq k hk => by rw [put_ne (by omega)]; exact h6 q hq k hk) (fun q hq k hk => by show (put S1 28 i _).1 39 _ = _; rw [put_ne (by omega)]; exact h7 q hq k hk) ?_
        intro z hz
        by_cases hzi : z = i
        · rw [hzi, put_at, put_ne (by omega)]
        · rw [put_ne (by omega), put_ne (by omega)]
          exact h3 z (by omega)
    have hi2 : ∀ i, i ≤ ns → ∀ (S1 : St) (x6 : Value) (x7 : Value), S1.2 = S0.2 → (∀ a z, ¬ scM a → ¬ (a = 28 ∨ a = 29) → S1.1 a z = S0.1 a z) → (∀ q, q < i → ∀ k, k < 4 → itM S1 q k = (tiM S) q k) → Wp M_m_train 92 [.ref 8, .int (nI nl), .int (nI kn), .int (nI nc), .int (nI r), .int (nI i), x6, x7] [] S1 (fun v9 S' => v9 = some (.int (ernM S' (nI kn) nc (mY S ns nl r) ns)) ∧ TM S S' (nI kn) ns nl nc r) := by
      refine loopUp (ns) (fun i hk7 hn7 => ?_)
      intro S1 x6 x7 h1 h2 h7
      refine w_iload d_m_train_92 rfl ?_
      refine w_aload_n d_m_train_94 rfl ?_
      refine w_getIV (v := (nI ns)) d_m_train_95 FL_m_103 (by decide) (rfl) (rfl) ((h2 8 2 (hsc 8 (by omega)) (by decide)).trans ((e0 8 2 (by decide)).trans hn)) ?_
      refine w_icmp_geN 192 d_m_train_98 (by decide) (by omega) (by omega) (fun h98 => ?_) (fun h98 => ?_)
      · refine w_aload_n d_m_train_192 rfl ?_
        refine w_aload_n d_m_train_193 rfl ?_
        refine w_getIV (v := (nI nl)) d_m_train_194 FL_m_134 (by decide) (rfl) (rfl) ((h2 8 5 (hsc 8 (by omega)) (by decide)).trans e5) ?_
        refine w_iconst (v := nI 4) d_m_train_197 (by decide +kernel) ?_
        refine w_iload d_m_train_198 rfl ?_
        refine w_callV3 (N := M_m_cluster) d_m_train_200 LK_m_140 MF_m_cluster MV_m_cluster NP_m_cluster (by decide) (by decide) (rfl) rfl rfl (Nat.le_of_ble_eq_true rfl) ?_
        have hin : i = ns := by omega
        refine Ev.mono (c_m_cluster S1 ns nl 4 r ((h2 8 2 (hsc 8 (by omega)) (by decide)).trans ((e0 8 2 (by decide)).trans hn)) hn0 hn24 hl1 hl4 (by decide) (by decide) hr) (fun r9 S2 hq => ?_)
        obtain ⟨rfl, g1, g2⟩ := hq
        show Wp _ _ _ [] _ _
        refine w_iconst (v := nI 0) d_m_train_203 (by decide +kernel) ?_
        refine w_istore d_m_train_204 (Nat.le_of_ble_eq_true rfl) ?_
        refine hc3 0 (by omega) _ _ _ (g1.1.trans h1) (fun a z ha hb => by rw [g1.2 a z (by unfold scM at ha; omega)]; exact h2 a z ha hb) (fun q hq k hk => ?_) (fun q hq k hk => by rw [itM_keep g1]; exact h7 q (by omega) k hk) lt_0
        rw [g2 q hq k hk]
        exact clu_congr hn0 hl1 (fun i hi k hk => h7 i (by omega) k hk) r q hq k hk
      · refine w_aload_n d_m_train_101 rfl ?_
        refine w_aload_n d_m_train_102 rfl ?_
        refine w_getR d_m_train_103 FL_m_13 (by decide) (rfl) (rfl) ?_
        refine w_iconst (v := nI 4) d_m_train_106 (by decide +kernel) ?_
        refine w_iload d_m_train_107 rfl ?_
        refine w_imulN d_m_train_109 ?_
        refine w_ialdN d_m_train_110 (by decide) (rfl) (show 4 * i < 96 from (by omega)) ?_
        refine w_aload_n d_m_train_111 rfl ?_
        refine w_getR d_m_train_112 FL_m_13 (by decide) (rfl) (rfl) ?_
        refine w_iconst (v := nI 4) d_m_train_115 (by decide +kernel) ?_
        refine w_iload d_m_train_116 rfl ?_
        show Wp _ 118 _ _ _ _
        refine w_imulN d_m_train_118 ?_
        refine w_iconst (v := nI 1) d_m_train_119 (by decide +kernel) ?_
        refine w_iaddN d_m_train_120 ?_
        refine w_ialdN d_m_train_121 (by decide) (rfl) (show (4 * i) + 1 < 96 from (by omega)) ?_
        refine w_aload_n d_m_train_122 rfl ?_
        refine w_getR d_m_train_123 FL_m_13 (by decide) (rfl) (rfl) ?_
        refine w_iconst (v := nI 4) d_m_train_126 (by decide +kernel) ?_
        refine w_iload d_m_train_127 rfl ?_
        refine w_imulN d_m_train_129 ?_
        refine w_iconst (v := nI 2) d_m_train_130 (by decide +kernel) ?_
        refine w_iaddN d_m_train_131 ?_
        refine w_ialdN d_m_train_132 (by decide) (rfl) (show (4 * i) + 2 < 96 from (by omega)) ?_
        show Wp _ 133 _ _ _ _
        refine w_aload_n d_m_train_133 rfl ?_
        refine w_getR d_m_train_134 FL_m_13 (by decide) (rfl) (rfl) ?_
        refine w_iconst (v := nI 4) d_m_train_137 (by decide +kernel) ?_
        refine w_iload d_m_train_138 rfl ?_
        refine w_imulN d_m_train_140 ?_
        refine w_iconst (v := nI 3) d_m_train_141 (by decide +kernel) ?_
        refine w_iaddN d_m_train_142 ?_
        refine w_ialdN d_m_train_143 (by decide) (rfl) (show (4 * i) + 3 < 96 from (by omega)) ?_
        refine w_callV4 (N := M_m_give) d_m_train_144 LK_m_100 MF_m_give MV_m_give NP_m_give (by decide) (by decide) (rfl) rfl rfl (Nat.le_of_ble_eq_true rfl) ?_
        refine Ev.det (c_m_give S1 _ _ _ _) ?_
        refine w_pop d_m_train_147 rfl ?_
        refine w_aload_n d_m_train_148 rfl ?_
        refine w_callV0 (N := M_m_turnIt) d_m_train_149 LK_m_89 MF_m_turnIt MV_m_turnIt NP_m_turnIt (by decide) (by decide) (rfl) rfl rfl (Nat.le_of_ble_eq_true rfl) ?_
        refine Ev.det (c_m_turnIt _ (fun k hk => by rw [setRow_ne (by decide), h2 26 k (hsc 26 (by omega)) (by decide), e0 26 k (by omega)]; exact ho k hk)) ?_
        obtain ⟨S3, hS3⟩ : ∃ S3, S3 = setRow (setRow S1 35 (pt (S1.1 27 (4 * i)) (S1.1 27 (4 * i + 1)) (S1.1 27 (4 * i + 2)) (S1.1 27 (4 * i + 3))) 4) 36 (fun k => tval ((setRow S1 35 (pt (S1.1 27 (4 * i)) (S1.1 27 (4 * i + 1)) (S1.1 27 (4 * i + 2)) (S1.1 27 (4 * i + 3))) 4).1 26 k) ((setRow S1 35 (pt (S1.1 27 (4 * i)) (S1.1 27 (4 * i + 1)) (S1.1 27 (4 * i + 2)) (S1.1 27 (4 * i + 3))) 4).1 35)) 4 := ⟨_, rfl⟩
        rw [← hS3]
        have gF : ∀ a z, ¬ (a = 35 ∨ a = 36) → S3.1 a z = S1.1 a z := fun a z ha => by rw [hS3, setRow_ne (by omega), setRow_ne (by omega)]
        have gT : S3.2 = S1.2 := by rw [hS3]; rfl
        have g36 : ∀ k, k < 4 → S3.1 36 k = (tiM S) i k := fun k hk => by
          rw [hS3, setRow_at hk, setRow_ne (by decide), h2 26 k (hsc 26 (by omega)) (by decide), e0 26 k (by omega)]
          refine tval_congr (ho k hk) (fun j hj => ?_)
          rw [setRow_at hj]
          refine (pt4 (f := fun z => S1.1 27 (4 * i + z)) rfl rfl rfl rfl hj).trans ?_
          show S1.1 27 (4 * i + j) = S.1 27 (4 * i + j)
          rw [h2 27 _ (hsc 27 (by omega)) (by decide), e0 27 _ (by omega)]
        show Wp _ 152 _ _ _ _
        refine w_iconst (v := nI 0) d_m_train_152 (by decide +kernel) ?_
        refine w_istore d_m_train_153 (Nat.le_of_ble_eq_true rfl) ?_
        have hii : ∀ k, k ≤ 4 → ∀ (S2 : St), S2 = setSeg S3 39 (4 * i) ((tiM S) i) k → Wp M_m_train 155 [.ref 8, .int (nI nl), .int (nI kn), .int (nI nc), .int (nI r), .int (nI i), .int (nI k), x7] [] S2 (fun v9 S' => v9 = some (.int (ernM S' (nI kn) nc (mY S ns nl r) ns)) ∧ TM S S' (nI kn) ns nl nc r) := by
          refine loopUp (4) (fun k hk8 hn8 => ?_)
          intro S2 hS2
          refine w_iload d_m_train_155 rfl ?_
          refine w_iconst (v := nI 4) d_m_train_157 (by decide +kernel) ?_
          refine w_icmp_geN 186 d_m_train_158 (by decide) (by omega) (by omega) (fun h158 => ?_) (fun h158 => ?_)
          · refine w_iincN d_m_train_186 rfl ?_
            refine w_goto 92 d_m_train_189 (by decide) ?_
            have hk4 : k = 4 := by omega
            rw [hk4] at hS2
            subst hS2
            refine hn7 h98 _ _ _ (gT.trans h1) (fun a z ha hb => by rw [setSeg_ne (by unfold scM at ha; omega), gF a z (by unfold scM at ha; omega)]; exact h2 a z ha hb) ?_
            intro q hq z hz
            show (setSeg S3 39 (4 * i) ((tiM S) i) 4).1 39 (4 * q + z) = _
            by_cases hqi : q = i
            · rw [hqi, setSeg_at hz]
            · rw [setSeg_ne (by omega), gF 39 _ (by decide)]
              exact h7 q (by omega) z hz
          · refine w_aload_n d_m_train_161 rfl ?_
            refine w_getR d_m_train_162 FL_m_50 (by decide) (rfl) (rfl) ?_
            refine w_iconst (v := nI 4) d_m_train_165 (by decide +kernel) ?_
            refine w_iload d_m_train_166 rfl ?_
            refine w_imulN d_m_train_168 ?_
            refine w_iload d_m_train_169 rfl ?_
            refine w_iaddN d_m_train_171 ?_
            refine w_aload_n d_m_train_172 rfl ?_
            refine w_getR d_m_train_173 FL_m_41 (by decide) (rfl) (rfl) ?_
            refine w_iload d_m_train_176 rfl ?_
            refine w_ialdNV (v := (((tiM S) i k))) d_m_train_178 (by decide) (rfl) (show k < 4 from (by omega)) (by rw [hS2, setSeg_ne (by omega)]; exact g36 k h158) ?_
            show Wp _ 179 _ _ _ _
            refine w_iastNP d_m_train_179 (by decide) (rfl) (show (4 * i) + k < 96 from (by omega)) ?_
            refine w_iincN d_m_train_180 rfl ?_
            refine w_goto 155 d_m_train_183 (by decide) ?_
            refine hn8 h158 _ ?_
            rw [hS2]
            exact setSeg_s rfl
        exact hii 0 (by omega) _ (setSeg_0 _ _ _ _).symm
    intro x6 x7
    exact hi2 0 (by omega) _ _ _ rfl (fun _ _ _ _ => rfl) lt_0
  refine w_aload_n d_m_train_0 rfl ?_
  refine w_getIV (v := (nI ns)) d_m_train_1 FL_m_103 (by decide) (rfl) (rfl) (hn) ?_
  refine w_if_eqN 14 d_m_train_4 (by decide) (by omega) (fun h4 => ?_) (fun h4 => ?_)
  · refine w_aload_n d_m_train_14 rfl ?_
    refine w_getIV (v := (nI ns)) d_m_train_15 FL_m_103 (by decide) (rfl) (rfl) (hn) ?_
    refine w_if_neN 25 d_m_train_18 (by decide) (by omega) (fun h18 => ?_) (fun h18 => ?_)
    · refine w_bipush (v := -2) d_m_train_25 (by decide +kernel) ?_
      refine w_iret (st := []) rfl d_m_train_27 ?_
      exact absurd h4 h18
    · refine w_iconst (v := -1) d_m_train_21 (by decide +kernel) ?_
      refine w_goto 27 d_m_train_22 (by decide) ?_
      refine w_iret (st := []) rfl d_m_train_27 ?_
      have h4 : ns = 0 := by omega
      exact ⟨fun q => absurd h4 q.1, fun _ => ⟨by unfold trR; rw [if_pos h4], rfl⟩⟩
  · refine w_aload_n d_m_train_7 rfl ?_
    refine w_getIV (v := (nI kp)) d_m_train_8 FL_m_131 (by decide) (rfl) (rfl) (hkp) ?_
    refine w_if_leN 28 d_m_train_11 (by decide) (by omega) (fun h11 => ?_) (fun h11 => ?_)
    · refine w_iload_n d_m_train_28 rfl ?_
      refine w_iconst (v := nI 1) d_m_train_29 (by decide +kernel) ?_
      refine w_iconst (v := nI 4) d_m_train_30 (by decide +kernel) ?_
      refine w_callS3 (N := M_m_within) d_m_train_31 LK_m_85 MF_m_within MS_m_within NP_m_within (by decide) rfl (Nat.le_of_ble_eq_true rfl) ?_
      refine Ev.det (c_m_within _ _ _ _) ?_
      refine w_if_eqB 66 d_m_train_34 (by decide) (fun h34 => ?_) (fun h34 => ?_)
      · refine w_bipush (v := -3) d_m_train_66 (by decide +kernel) ?_
        refine w_iret (st := []) rfl d_m_train_68 ?_
        exact ⟨fun q => absurd q.2.2.1 (of_decide_eq_false h34), fun _ => ⟨by unfold trR; rw [if_neg h4, if_neg (fun q => q (by omega))], rfl⟩⟩
      · refine w_iload_n d_m_train_37 rfl ?_
        refine w_iconst (v := nI 0) d_m_train_38 (by decide +kernel) ?_
        refine w_iconst (v := nI 2) d_m_train_39 (by decide +kernel) ?_
        refine w_callS3 (N := M_m_within) d_m_train_40 LK_m_85 MF_m_within MS_m_within NP_m_within (by decide) rfl (Nat.le_of_ble_eq_true rfl) ?_
        refine Ev.det (c_m_within _ _ _ _) ?_
        refine w_if_eqB 66 d_m_train_43 (by decide) (fun h43 => ?_) (fun h43 => ?_)
        · refine w_bipush (v := -3) d_m_train_66 (by decide +kernel) ?_
          refine w_iret (st := []) rfl d_m_train_68 ?_
          exact ⟨fun q => absurd q.2.2.2.1 (of_decide_eq_false h43), fun _ => ⟨by unfold trR; rw [if_neg h4, if_neg (fun q => q (by omega))], rfl⟩⟩
        · refine w_iload_n d_m_train_46 rfl ?_
          refine w_iconst (v := nI 1) d_m_train_47 (by decide +kernel) ?_
          refine w_iconst (v := nI 4) d_m_train_48 (by decide +kernel) ?_
          refine w_callS3 (N := M_m_within) d_m_train_49 LK_m_85 MF_m_within MS_m_within NP_m_within (by decide) rfl (Nat.le_of_ble_eq_true rfl) ?_
          refine Ev.det (c_m_within _ _ _ _) ?_
          refine w_if_eqB 66 d_m_train_52 (by decide) (fun h52 => ?_) (fun h52 => ?_)
          · refine w_bipush (v := -3) d_m_train_66 (by decide +kernel) ?_
            refine w_iret (st := []) rfl d_m_train_68 ?_
            exact ⟨fun q => absurd q.2.2.2.2.1 (of_decide_eq_false h52), fun _ => ⟨by unfold trR; rw [if_neg h4, if_neg (fun q => q (by omega))], rfl⟩⟩
          · refine w_iload d_m_train_55 rfl ?_
            refine w_iconst (v := nI 0) d_m_train_57 (by decide +kernel) ?_
            refine w_bipush (v := nI 8) d_m_train_58 (by decide +kernel) ?_
            refine w_callS3 (N := M_m_within) d_m_train_60 LK_m_85 MF_m_within MS_m_within NP_m_within (by decide) rfl (Nat.le_of_ble_eq_true rfl) ?_
            refine Ev.det (c_m_within _ _ _ _) ?_
            refine w_if_neB 69 d_m_train_63 (by decide) (fun h63 => ?_) (fun h63 => ?_)
            · have h34 := of_decide_eq_true h34
              have h43 := of_decide_eq_true h43
              have h52 := of_decide_eq_true h52
              have h63 := of_decide_eq_true h63
              obtain ⟨nl, hl1, hl4, rfl⟩ := nI_in2 h34 (by decide) (by decide)
              obtain ⟨kn, -, hkn, rfl⟩ := nI_in2 h43 (by decide) (by decide)
              obtain ⟨nc, hc1, hc4, rfl⟩ := nI_in2 h52 (by decide) (by decide)
              obtain ⟨r, -, hr8, rfl⟩ := nI_in2 h63 (by decide) (by decide)
              refine w_aload_n d_m_train_69 rfl ?_
              refine w_iconst (v := nI 1) d_m_train_70 (by decide +kernel) ?_
              refine w_putZP d_m_train_71 FL_m_92 FW_8_3 (by decide) (rfl) (rfl) (by decide) ?_
              refine w_aload_n d_m_train_74 rfl ?_
              refine w_iload_n d_m_train_75 rfl ?_
              refine w_putIP d_m_train_76 FL_m_134 FW_8_5 (by decide) (rfl) (rfl) ?_
              refine w_aload_n d_m_train_79 rfl ?_
              refine w_iload_n d_m_train_80 rfl ?_
              refine w_putIP d_m_train_81 FL_m_128 FW_8_4 (by decide) (rfl) (rfl) ?_
              refine w_aload_n d_m_train_84 rfl ?_
              refine w_iload_n d_m_train_85 rfl ?_
              show Wp _ 86 _ _ _ _
              refine w_putIP d_m_train_86 FL_m_137 FW_8_6 (by decide) (rfl) (rfl) ?_
              refine w_iconst (v := nI 0) d_m_train_89 (by decide +kernel) ?_
              refine w_istore d_m_train_90 (Nat.le_of_ble_eq_true rfl) ?_
              refine Wp.mono (hmain nl kn nc r hl1 hl4 hkn hc1 hc4 hr8 (by omega) _ ?_ ?_ ?_ ?_ ?_ ?_ _ _) (fun v9 S9 hq => ⟨fun _ => ⟨nl, nc, r, kn, rfl, rfl, rfl, rfl, hl1, hl4, hc1, hc4, hr8, hkn, hq.1, hq.2⟩, fun q => absurd ⟨h4, by omega, h34, h43, h52, h63⟩ q⟩)
              · rfl
              · intro a i ha
                rw [put_ne (by omega), put_ne (by omega), put_ne (by omega), put_ne (by omega)]
              · rw [put_ne (by decide), put_ne (by decide), put_ne (by decide), put_at]
              · rw [put_ne (by decide), put_at]
              · rw [put_ne (by decide), put_ne (by decide), put_at]
              · rw [put_at]
            · refine w_bipush (v := -3) d_m_train_66 (by decide +kernel) ?_
              refine w_iret (st := []) rfl d_m_train_68 ?_
              exact ⟨fun q => absurd q.2.2.2.2.2 (of_decide_eq_false h63), fun _ => ⟨by unfold trR; rw [if_neg h4, if_neg (fun q => q (by omega))], rfl⟩⟩
    · refine w_aload_n d_m_train_14 rfl ?_
      refine w_getIV (v := (nI ns)) d_m_train_15 FL_m_103 (by decide) (rfl) (rfl) (hn) ?_
      refine w_if_neN 25 d_m_train_18 (by decide) (by omega) (fun h18 => ?_) (fun h18 => ?_)
      · refine w_bipush (v := -2) d_m_train_25 (by decide +kernel) ?_
        refine w_iret (st := []) rfl d_m_train_27 ?_
        exact ⟨fun q => absurd q.2.1 (by omega), fun _ => ⟨by unfold trR; rw [if_neg h4, if_pos (by omega)], rfl⟩⟩
      · refine w_iconst (v := -1) d_m_train_21 (by decide +kernel) ?_
        refine w_goto 27 d_m_train_22 (by decide) ?_
        refine w_iret (st := []) rfl d_m_train_27 ?_
        exact absurd h18 h4
