/-! Training. -/
def tit (S : St) : Nat → Nat → Int32 := fun i k => tval (S.1 9 k) (S.1 (48 + i))
/-- the codes that a training may write, but for the quantiser's own -/
def scr (a : Nat) : Prop := a = 3 ∨ a = 14 ∨ a = 15 ∨ (72 ≤ a ∧ a < 104)
set_option maxRecDepth 100000 in
set_option maxHeartbeats 4000000 in
theorem c_q_learnCentres (S : St) (ns nl r : Nat) (hs : S.1 2 1 = nI ns) (hs0 : 0 < ns) (hs24 : ns ≤ 24) (hl : S.1 4 5 = nI nl) (hl1 : 0 < nl) (hl4 : nl ≤ 4) (hr : r ≤ 8) (ho : ∀ k, k < 4 → okStep (S.1 9 k)) : Ev M_q_learnCentres [.ref 0, .int (nI r)] S (fun v9 S' => v9 = none ∧ S'.2 = S.2 ∧ (∀ a i, ¬ scr a → ¬ (104 ≤ a ∧ a < 108) → S'.1 a i = S.1 a i) ∧ S'.1 3 5 = nI ns ∧ (∀ i, i < ns → ∀ k, k < 4 → S'.1 (72 + i) k = tit S i k) ∧ ∀ c, c < nl → ∀ k, k < 4 → S'.1 (104 + c) k = clu (tit S) ns 4 nl r c k) := by
  refine Ev.of MF_q_learnCentres (all_cat rfl) (Nat.le_of_ble_eq_true rfl) ?_
  show Wp M_q_learnCentres 0 [.ref 0, .int (nI r), .null] [] _ _
  have hk0 : ∀ i, i ≤ ns → ∀ (S1 : St), S1.2 = S.2 → (∀ a j, ¬ a = 3 → ¬ (72 ≤ a ∧ a < 96) → S1.1 a j = S.1 a j) → S1.1 3 5 = nI ns → (∀ q, q < i → ∀ k, k < 4 → S1.1 (72 + q) k = tit S q k) → Wp M_q_learnCentres 16 [.ref 0, .int (nI r), .int (nI i)] [] S1 (fun v9 S' => v9 = none ∧ S'.2 = S.2 ∧ (∀ a i, ¬ scr a → ¬ (104 ≤ a ∧ a < 108) → S'.1 a i = S.1 a i) ∧ S'.1 3 5 = nI ns ∧ (∀ i, i < ns → ∀ k, k < 4 → S'.1 (72 + i) k = tit S i k) ∧ ∀ c, c < nl → ∀ k, k < 4 → S'.1 (104 + c) k = clu (tit S) ns 4 nl r c k) := by
    refine loopUp (ns) (fun i hk9 hn9 => ?_)
    intro S1 h1 h2 h3 h4
    refine w_iload_n d_q_learnCentres_16 rfl ?_
    refine w_aload_n d_q_learnCentres_17 rfl ?_
    refine w_getR d_q_learnCentres_18 FL_q_19 (by decide) (rfl) (rfl) ?_
    refine w_getIV (v := (nI ns)) d_q_learnCentres_21 FL_q_73 (by decide) (rfl) (rfl) ((h2 2 1 (by decide) (by decide)).trans hs) ?_
    refine w_icmp_geN 58 d_q_learnCentres_24 (by decide) (by omega) (by omega) (fun h24 => ?_) (fun h24 => ?_)
    · refine w_aload_n d_q_learnCentres_58 rfl ?_
      refine w_getR d_q_learnCentres_59 FL_q_26 (by decide) (rfl) (rfl) ?_
      refine w_iconst (v := nI 0) d_q_learnCentres_62 (by decide +kernel) ?_
      refine w_iconst (v := nI 4) d_q_learnCentres_63 (by decide +kernel) ?_
      refine w_aload_n d_q_learnCentres_64 rfl ?_
      refine w_getR d_q_learnCentres_65 FL_q_33 (by decide) (rfl) (rfl) ?_
      refine w_getIV (v := (nI nl)) d_q_learnCentres_68 FL_q_239 (by decide) (rfl) (rfl) (by exact (h2 4 5 (by decide) (by decide)).trans hl) ?_
      refine w_iload_n d_q_learnCentres_71 rfl ?_
      refine w_callV4 (N := M_c_cluster) d_q_learnCentres_72 LK_q_242 MF_c_cluster MV_c_cluster NP_c_cluster (by decide) (by decide) (rfl) rfl rfl (Nat.le_of_ble_eq_true rfl) ?_
      refine Ev.mono (c_c_cluster S1 ns 0 4 nl r h3 hs0 hs24 (by decide) (by decide) hl1 hl4 hr) (fun r9 S2 hq => ?_)
      obtain ⟨rfl, f1, f2, f3⟩ := hq
      show Wp _ _ _ [] _ _
      refine w_aload_n d_q_learnCentres_75 rfl ?_
      refine w_getR d_q_learnCentres_76 FL_q_26 (by decide) (rfl) (rfl) ?_
      show Wp _ 79 _ _ _ _
      refine w_aload_n d_q_learnCentres_79 rfl ?_
      refine w_getR d_q_learnCentres_80 FL_q_33 (by decide) (rfl) (rfl) ?_
      refine w_getR d_q_learnCentres_83 FL_q_111 (by decide) (rfl) (rfl) ?_
      refine w_iconst (v := nI 0) d_q_learnCentres_86 (by decide +kernel) ?_
      refine w_callV2 (N := M_c_giveCentres) d_q_learnCentres_87 LK_q_245 MF_c_giveCentres MV_c_giveCentres NP_c_giveCentres (by decide) (by decide) (rfl) rfl rfl (Nat.le_of_ble_eq_true rfl) ?_
      refine Ev.mono (c_c_giveCentres S2 ns 0 4 nl f2 16 0 (by decide) (by decide) (show 0 + nl ≤ 4 by omega) (by decide) (fun c hc => ⟨show 104 + (0 + c) < 204 by omega, kd_row104 (by omega), by show 4 ≤ ln (104 + (0 + c)); rw [ln_row104 (by omega)]; exact Nat.le_refl 4⟩)) (fun r9 S3 hq => ?_)
      obtain ⟨rfl, g1, g2, g3⟩ := hq
      show Wp _ _ _ [] _ _
      have g2 : ∀ a i, ¬ (104 ≤ a ∧ a < 104 + nl) → S3.1 a i = S2.1 a i := fun a i ha => g2 a i ha
      refine w_ret (st := []) rfl d_q_learnCentres_90 ?_
      have hin : i = ns := by omega
      refine ⟨rfl, g1.trans (f1.1.trans h1), fun a j ha hb => ?_, ?_, fun i hi k hk => ?_, fun c hc k hk => ?_⟩
      · unfold scr at ha
        rw [g2 a j (by omega), f1.2 a j (by omega)]
        exact h2 a j (by omega) (by omega)
      · rw [g2 3 5 (by omega)]
        exact f2.1
      · rw [g2 _ _ (by omega), f1.2 _ _ (by omega)]
        exact h4 i (by omega) k hk
      · have := g3 c hc k hk
        rw [Nat.zero_add] at this
        refine Eq.trans this ((f3 c hc k hk).trans ?_)
        refine clu_congr hs0 hl1 (fun i hi k hk => ?_) r c hc k hk
        show S1.1 (72 + i) (0 + k) = _
        rw [Nat.zero_add]
        exact h4 i (by omega) k hk
    · refine w_aload_n d_q_learnCentres_27 rfl ?_
      refine w_getR d_q_learnCentres_28 FL_q_10 (by decide) (rfl) (rfl) ?_
      refine w_aload_n d_q_learnCentres_31 rfl ?_
      refine w_getR d_q_learnCentres_32 FL_q_19 (by decide) (rfl) (rfl) ?_
      refine w_getR d_q_learnCentres_35 FL_q_77 (by decide) (rfl) (rfl) ?_
      refine w_iload_n d_q_learnCentres_38 rfl ?_
      refine w_aaldN d_q_learnCentres_39 (by decide) (rfl) (show i < 24 from (by omega)) ?_
      show Wp _ _ _ (.ref (48 + i) :: _) _ _
      refine w_aload_n d_q_learnCentres_40 rfl ?_
      refine w_getR d_q_learnCentres_41 FL_q_26 (by decide) (rfl) (rfl) ?_
      refine w_getR d_q_learnCentres_44 FL_q_236 (by decide) (rfl) (rfl) ?_
      refine w_iload_n d_q_learnCentres_47 rfl ?_
      show Wp _ 48 _ _ _ _
      refine w_aaldN d_q_learnCentres_48 (by decide) (rfl) (show i < 24 from (by omega)) ?_
      show Wp _ _ _ (.ref (72 + i) :: _) _ _
      refine w_callV2 (N := M_t_apply) d_q_learnCentres_49 LK_q_171 MF_t_apply MV_t_apply NP_t_apply (by decide) (by decide) (rfl) rfl rfl (Nat.le_of_ble_eq_true rfl) ?_
      refine Ev.det (c_t_apply S1 _ _ (by omega) (kd_row48 (by omega)) (ln_row48 (by omega)) (by omega) (kd_row72 (by omega)) (ln_row72 (by omega)) (by omega) (by omega) (fun k hk => by rw [h2 9 k (by decide) (by decide)]; exact ho k hk)) ?_
      refine w_iincN d_q_learnCentres_52 rfl ?_
      refine w_goto 16 d_q_learnCentres_55 (by decide) ?_
      refine hn9 h24 _ h1 (fun a j ha hb => by rw [setRow_ne (by omega)]; exact h2 a j ha hb) (by rw [setRow_ne (by omega)]; exact h3) ?_
      intro q hq k hk
      by_cases hqi : q = i
      · subst hqi
        rw [setRow_at hk]
        show tval _ _ = tval _ _
        rw [h2 9 k (by decide) (by decide)]
        exact tval_congr (ho k hk) (fun j hj => h2 _ _ (by omega) (by omega))
      · rw [setRow_ne (by omega)]
        exact h4 q (by omega) k hk
  refine w_aload_n d_q_learnCentres_0 rfl ?_
  refine w_getR d_q_learnCentres_1 FL_q_26 (by decide) (rfl) (rfl) ?_
  refine w_aload_n d_q_learnCentres_4 rfl ?_
  refine w_getR d_q_learnCentres_5 FL_q_19 (by decide) (rfl) (rfl) ?_
  refine w_getIV (v := (nI ns)) d_q_learnCentres_8 FL_q_73 (by decide) (rfl) (rfl) (hs) ?_
  refine w_putIP d_q_learnCentres_11 FL_q_233 FW_3_5 (by decide) (rfl) (rfl) ?_
  refine w_iconst (v := nI 0) d_q_learnCentres_14 (by decide +kernel) ?_
  refine w_istore_n d_q_learnCentres_15 (Nat.le_of_ble_eq_true rfl) ?_
  exact hk0 0 (by omega) _ rfl (fun a j ha _ => put_ne (by omega)) put_at lt_0
def lef (S : St) (nl : Nat) : Nat → Nat → Int32 := fun i k => S.1 (72 + i) k - S.1 (104 + lsOf S nl (S.1 (72 + i))) k
set_option maxRecDepth 100000 in
set_option maxHeartbeats 4000000 in
theorem c_q_keepWhatIsLeft (S : St) (ns nl : Nat) (hn : S.1 3 5 = nI ns) (hs24 : ns ≤ 24) (hl : S.1 4 5 = nI nl) (hl1 : 0 < nl) (hl4 : nl ≤ 4) : Ev M_q_keepWhatIsLeft [.ref 0] S (fun v9 S' => v9 = none ∧ S'.2 = S.2 ∧ (∀ a i, ¬ (72 ≤ a ∧ a < 96) → S'.1 a i = S.1 a i) ∧ ∀ i, i < ns → ∀ k, k < 4 → S'.1 (72 + i) k = lef S nl i k) := by
  refine Ev.of MF_q_keepWhatIsLeft (all_cat rfl) (Nat.le_of_ble_eq_true rfl) ?_
  show Wp M_q_keepWhatIsLeft 0 [.ref 0, .null, .null] [] _ _
  have hk0 : ∀ i, i ≤ ns → ∀ (S1 : St) (x2 : Value), S1.2 = S.2 → (∀ a j, ¬ (72 ≤ a ∧ a < 96) → S1.1 a j = S.1 a j) → (∀ q, i ≤ q → q < 24 → ∀ j, S1.1 (72 + q) j = S.1 (72 + q) j) → (∀ q, q < i → ∀ k, k < 4 → S1.1 (72 + q) k = lef S nl q k) → Wp M_q_keepWhatIsLeft 2 [.ref 0, .int (nI i), x2] [] S1 (fun v9 S' => v9 = none ∧ S'.2 = S.2 ∧ (∀ a i, ¬ (72 ≤ a ∧ a < 96) → S'.1 a i = S.1 a i) ∧ ∀ i, i < ns → ∀ k, k < 4 → S'.1 (72 + i) k = lef S nl i k) := by
    refine loopUp (ns) (fun i hk9 hn9 => ?_)
    intro S1 x2 h1 h2 h3 h4
    refine w_iload_n d_q_keepWhatIsLeft_2 rfl ?_
    refine w_aload_n d_q_keepWhatIsLeft_3 rfl ?_
    refine w_getR d_q_keepWhatIsLeft_4 FL_q_26 (by decide) (rfl) (rfl) ?_
    refine w_getIV (v := (nI ns)) d_q_keepWhatIsLeft_7 FL_q_233 (by decide) (rfl) (rfl) ((h2 3 5 (by decide)).trans hn) ?_
    refine w_icmp_geN 50 d_q_keepWhatIsLeft_10 (by decide) (by omega) (by omega) (fun h10 => ?_) (fun h10 => ?_)
    · refine w_ret (st := []) rfl d_q_keepWhatIsLeft_50 ?_
      obtain rfl : i = ns := by omega
      exact ⟨rfl, h1, h2, h4⟩
    · refine w_aload_n d_q_keepWhatIsLeft_13 rfl ?_
      refine w_getR d_q_keepWhatIsLeft_14 FL_q_26 (by decide) (rfl) (rfl) ?_
      refine w_getR d_q_keepWhatIsLeft_17 FL_q_236 (by decide) (rfl) (rfl) ?_
      refine w_iload_n d_q_keepWhatIsLeft_20 rfl ?_
      refine w_aaldN d_q_keepWhatIsLeft_21 (by decide) (rfl) (show i < 24 from (by omega)) ?_
      show Wp _ _ _ (.ref (72 + i) :: _) _ _
      refine w_astore_n d_q_keepWhatIsLeft_22 (Nat.le_of_ble_eq_true rfl) ?_
      refine w_aload_n d_q_keepWhatIsLeft_23 rfl ?_
      refine w_aload_n d_q_keepWhatIsLeft_24 rfl ?_
      refine w_getR d_q_keepWhatIsLeft_25 FL_q_33 (by decide) (rfl) (rfl) ?_
      refine w_getR d_q_keepWhatIsLeft_28 FL_q_111 (by decide) (rfl) (rfl) ?_
      refine w_aload_n d_q_keepWhatIsLeft_31 rfl ?_
      show Wp _ 32 _ _ _ _
      refine w_getR d_q_keepWhatIsLeft_32 FL_q_33 (by decide) (rfl) (rfl) ?_
      refine w_aload_n d_q_keepWhatIsLeft_35 rfl ?_
      refine w_callV1 (N := M_z_nearestList) d_q_keepWhatIsLeft_36 LK_q_249 MF_z_nearestList MV_z_nearestList NP_z_nearestList (by decide) (by decide) (rfl) rfl rfl (Nat.le_of_ble_eq_true rfl) ?_
      refine Ev.det (c_z_nearestList S1 nl _ ((h2 4 5 (by decide)).trans hl) hl1 hl4 (by omega) (kd_row72 (by omega)) (ln_row72 (by omega))) ?_
      have e1 : S1.1 (72 + i) = S.1 (72 + i) := by funext j; exact h3 i (Nat.le_refl i) (by omega) j
      have e2 : lsOf S1 nl (S1.1 (72 + i)) = lsOf S nl (S.1 (72 + i)) := by rw [e1]; exact lsOf_congr (fun l hl k hk => h2 _ _ (by omega)) (fun _ _ => rfl)
      have hlt := lsOf_lt (S := S) (x := S.1 (72 + i)) hl1
      rw [e2]
      refine w_aaldN d_q_keepWhatIsLeft_39 (by decide) (rfl) (show lsOf S nl (S.1 (72 + i)) < 4 from (by omega)) ?_
      show Wp _ _ _ (.ref (104 + (lsOf S nl (S.1 (72 + i)))) :: _) _ _
      refine w_aload_n d_q_keepWhatIsLeft_40 rfl ?_
      refine w_callS3 (N := M_q_subtract) d_q_keepWhatIsLeft_41 LK_q_253 MF_q_subtract MS_q_subtract NP_q_subtract (by decide) rfl (Nat.le_of_ble_eq_true rfl) ?_
      refine Ev.det (c_q_subtract S1 _ _ _ (by omega) (kd_row72 (by omega)) (ln_row72 (by omega)) (by omega) (kd_row104 (by omega)) (ln_row104 (by omega)) (by omega) (kd_row72 (by omega)) (ln_row72 (by omega)) (by omega)) ?_
      refine w_iincN d_q_keepWhatIsLeft_44 rfl ?_
      refine w_goto 2 d_q_keepWhatIsLeft_47 (by decide) ?_
      refine hn9 h10 _ _ h1 (fun a j ha => by rw [setRow_ne (by omega)]; exact h2 a j ha) (fun q hq1 hq2 j => by rw [setRow_ne (by omega)]; exact h3 q (by omega) hq2 j) ?_
      intro q hq k hk
      by_cases hqi : q = i
      · subst hqi
        rw [setRow_at hk]
        show _ = S.1 (72 + q) k - S.1 (104 + lsOf S nl (S.1 (72 + q))) k
        rw [e1, h2 _ _ (by omega)]
      · rw [setRow_ne (by omega)]
        exact h4 q (by omega) k hk
  refine w_iconst (v := nI 0) d_q_keepWhatIsLeft_0 (by decide +kernel) ?_
  refine w_istore_n d_q_keepWhatIsLeft_1 (Nat.le_of_ble_eq_true rfl) ?_
  exact hk0 0 (by omega) _ _ rfl (fun _ _ _ => rfl) (fun _ _ _ _ => rfl) lt_0
def wlF (S : St) (kind : Int32) (ns nc r part j k : Nat) : Int32 := if kind = 0 then clu (itm S (part * 2)) ns 2 nc r j k else sprd (minI (fun i => S.1 (72 + i) part) ns) (maxI (fun i => S.1 (72 + i) part) ns) nc j
theorem minI_congr {f g : Nat → Int32} (h0 : f 0 = g 0) : ∀ {n : Nat}, (∀ i, i < n → f i = g i) → minI f n = minI g n
  | 0, _ => h0
  | n + 1, h => by
    show (if f n < minI f n then f n else minI f n) = (if g n < minI g n then g n else minI g n)
    rw [minI_congr h0 (fun i hi => h i (by omega)), h n (by omega)]
theorem maxI_congr {f g : Nat → Int32} (h0 : f 0 = g 0) : ∀ {n : Nat}, (∀ i, i < n → f i = g i) → maxI f n = maxI g n
  | 0, _ => h0
  | n + 1, h => by
    show (if maxI f n < f n then f n else maxI f n) = (if maxI g n < g n then g n else maxI g n)
    rw [maxI_congr h0 (fun i hi => h i (by omega)), h n (by omega)]
set_option maxRecDepth 100000 in
set_option maxHeartbeats 4000000 in
theorem c_q_learnWords (S : St) (kind : Int32) (ns nc r : Nat) (hn : S.1 3 5 = nI ns) (hs0 : 0 < ns) (hs24 : ns ≤ 24) (hk : S.1 4 4 = kind) (hc : S.1 4 6 = nI nc) (hc1 : 0 < nc) (hc4 : nc ≤ 4) (hr : r ≤ 8) : Ev M_q_learnWords [.ref 0, .int (nI r)] S (fun v9 S' => v9 = none ∧ S'.2 = S.2 ∧ (∀ a i, ¬ a = 3 → ¬ (a = 14 ∨ a = 15 ∨ (96 ≤ a ∧ a < 104) ∨ (108 ≤ a ∧ a < 124)) → S'.1 a i = S.1 a i) ∧ S'.1 3 5 = nI ns ∧ ∀ part, part < parts kind → ∀ j, j < nc → ∀ k, k < pwid kind → S'.1 (108 + (part * 4 + j)) k = wlF S kind ns nc r part j k) := by
  refine Ev.of MF_q_learnWords (all_cat rfl) (Nat.le_of_ble_eq_true rfl) ?_
  show Wp M_q_learnWords 0 [.ref 0, .int (nI r), .null, .null] [] _ _
  have hpar := parts_le kind
  have hk0 : ∀ p, p ≤ parts kind → ∀ (S1 : St), S1.2 = S.2 → (∀ a i, ¬ a = 3 → ¬ (a = 14 ∨ a = 15 ∨ (96 ≤ a ∧ a < 104) ∨ (108 ≤ a ∧ a < 124)) → S1.1 a i = S.1 a i) → S1.1 3 5 = nI ns → (∀ q, q < p → ∀ j, j < nc → ∀ k, k < pwid kind → S1.1 (108 + (q * 4 + j)) k = wlF S kind ns nc r q j k) → Wp M_q_learnWords 13 [.ref 0, .int (nI r), .int (nI ((pwid kind))), .int (nI p)] [] S1 (fun v9 S' => v9 = none ∧ S'.2 = S.2 ∧ (∀ a i, ¬ a = 3 → ¬ (a = 14 ∨ a = 15 ∨ (96 ≤ a ∧ a < 104) ∨ (108 ≤ a ∧ a < 124)) → S'.1 a i = S.1 a i) ∧ S'.1 3 5 = nI ns ∧ ∀ part, part < parts kind → ∀ j, j < nc → ∀ k, k < pwid kind → S'.1 (108 + (part * 4 + j)) k = wlF S kind ns nc r part j k) := by
    refine loopUp (parts kind) (fun p hk9 hn9 => ?_)
    intro S1 h1 h2 h5 h3
    refine w_iload_n d_q_learnWords_13 rfl ?_
    refine w_aload_n d_q_learnWords_14 rfl ?_
    refine w_getR d_q_learnWords_15 FL_q_33 (by decide) (rfl) (rfl) ?_
    refine w_getIV (v := kind) d_q_learnWords_18 FL_q_118 (by decide) (rfl) (rfl) ((h2 4 4 (by omega) (by omega)).trans hk) ?_
    refine w_callS1 (N := M_q_partsOf) d_q_learnWords_21 LK_q_257 MF_q_partsOf MS_q_partsOf NP_q_partsOf (by decide) rfl (Nat.le_of_ble_eq_true rfl) ?_
    refine Ev.det (c_q_partsOf _ _) ?_
    refine w_icmp_geN 108 d_q_learnWords_24 (by decide) (by omega) (by omega) (fun h24 => ?_) (fun h24 => ?_)
    · refine w_ret (st := []) rfl d_q_learnWords_108 ?_
      obtain rfl : p = parts kind := by omega
      exact ⟨rfl, h1, h2, h5, h3⟩
    · refine w_aload_n d_q_learnWords_27 rfl ?_
      refine w_getR d_q_learnWords_28 FL_q_33 (by decide) (rfl) (rfl) ?_
      refine w_getIV (v := kind) d_q_learnWords_31 FL_q_118 (by decide) (rfl) (rfl) ((h2 4 4 (by omega) (by omega)).trans hk) ?_
      refine w_if_ne 78 d_q_learnWords_34 (by decide) (fun h34 => ?_) (fun h34 => ?_)
      · refine w_aload_n d_q_learnWords_78 rfl ?_
        refine w_getR d_q_learnWords_79 FL_q_33 (by decide) (rfl) (rfl) ?_
        refine w_iload_n d_q_learnWords_82 rfl ?_
        refine w_aload_n d_q_learnWords_83 rfl ?_
        refine w_getR d_q_learnWords_84 FL_q_26 (by decide) (rfl) (rfl) ?_
        refine w_iload_n d_q_learnWords_87 rfl ?_
        refine w_callV1 (N := M_c_least) d_q_learnWords_88 LK_q_263 MF_c_least MV_c_least NP_c_least (by decide) (by decide) (rfl) rfl rfl (Nat.le_of_ble_eq_true rfl) ?_
        refine Ev.det (c_c_least S1 ns p h5 hs0 hs24 (by omega)) ?_
        refine w_aload_n d_q_learnWords_91 rfl ?_
        refine w_getR d_q_learnWords_92 FL_q_26 (by decide) (rfl) (rfl) ?_
        refine w_iload_n d_q_learnWords_95 rfl ?_
        refine w_callV1 (N := M_c_greatest) d_q_learnWords_96 LK_q_266 MF_c_greatest MV_c_greatest NP_c_greatest (by decide) (by decide) (rfl) rfl rfl (Nat.le_of_ble_eq_true rfl) ?_
        refine Ev.det (c_c_greatest S1 ns p h5 hs0 hs24 (by omega)) ?_
        show Wp _ 99 _ _ _ _
        refine w_callV3 (N := M_z_spreadWords) d_q_learnWords_99 LK_q_269 MF_z_spreadWords MV_z_spreadWords NP_z_spreadWords (by decide) (by decide) (rfl) rfl rfl (Nat.le_of_ble_eq_true rfl) ?_
        refine Ev.det (c_z_spreadWords S1 p nc _ _ ((h2 4 6 (by omega) (by omega)).trans hc) hc1 hc4 (by omega)) ?_
        have hit : (fun i => S1.1 (72 + i) p) = (fun i => if i < 24 then S.1 (72 + i) p else S1.1 (72 + i) p) := by
          funext i
          by_cases hi : i < 24
          · rw [if_pos hi]; exact h2 _ _ (by omega) (by omega)
          · rw [if_neg hi]
        have hmn : minI (fun i => S1.1 (72 + i) p) ns = minI (fun i => S.1 (72 + i) p) ns := minI_congr (h2 (72 + 0) p (by omega) (by omega)) (fun i hi => h2 _ _ (by omega) (by omega))
        have hmx : maxI (fun i => S1.1 (72 + i) p) ns = maxI (fun i => S.1 (72 + i) p) ns := maxI_congr (h2 (72 + 0) p (by omega) (by omega)) (fun i hi => h2 _ _ (by omega) (by omega))
        refine w_iincN d_q_learnWords_102 rfl ?_
        refine w_goto 13 d_q_learnWords_105 (by decide) ?_
        refine hn9 h24 _ h1 (fun a i ha hb => by rw [setCol_ne (by omega)]; exact h2 a i ha hb) (by rw [setCol_ne (by omega)]; exact h5) (fun q hq j hj k hk => ?_)
        by_cases hqp : q = p
        · subst hqp
          have hk0 : k = 0 := by
            have : pwid kind ≤ 1 := by unfold pwid; rw [if_neg h34]; split <;> omega
            omega
          rw [hk0, ← Nat.add_assoc, setCol_at hj]
          unfold wlF
          rw [if_neg h34, hmn, hmx]
        · rw [setCol_ne (by omega)]
          exact h3 q (by omega) j hj k hk
      · refine w_aload_n d_q_learnWords_37 rfl ?_
        refine w_getR d_q_learnWords_38 FL_q_26 (by decide) (rfl) (rfl) ?_
        refine w_iload_n d_q_learnWords_41 rfl ?_
        refine w_iload_n d_q_learnWords_42 rfl ?_
        refine w_imulN d_q_learnWords_43 ?_
        refine w_iload_n d_q_learnWords_44 rfl ?_
        refine w_aload_n d_q_learnWords_45 rfl ?_
        refine w_getR d_q_learnWords_46 FL_q_33 (by decide) (rfl) (rfl) ?_
        refine w_getIV (v := (nI nc)) d_q_learnWords_49 FL_q_260 (by decide) (rfl) (rfl) ((h2 4 6 (by omega) (by omega)).trans hc) ?_
        refine w_iload_n d_q_learnWords_52 rfl ?_
        refine w_callV4 (N := M_c_cluster) d_q_learnWords_53 LK_q_242 MF_c_cluster MV_c_cluster NP_c_cluster (by decide) (by decide) (rfl) rfl rfl (Nat.le_of_ble_eq_true rfl) ?_
        have hkd : kind = 0 := h34
        have hpw : pwid kind = 2 := by unfold pwid; rw [if_pos hkd]
        have hp2 : parts kind = 2 := by unfold parts; rw [if_pos hkd]
        have hw2 := pw_le h24
        refine Ev.mono (c_c_cluster S1 ns (p * pwid kind) (pwid kind) nc r h5 hs0 hs24 hw2 (by omega) hc1 hc4 hr) (fun r9 S2 hq => ?_)
        obtain ⟨rfl, f1, f2, f3⟩ := hq
        have f4 := f2.1
        show Wp _ _ _ [] _ _
        show Wp _ 56 _ _ _ _
        refine w_aload_n d_q_learnWords_56 rfl ?_
        refine w_getR d_q_learnWords_57 FL_q_26 (by decide) (rfl) (rfl) ?_
        refine w_aload_n d_q_learnWords_60 rfl ?_
        refine w_getR d_q_learnWords_61 FL_q_33 (by decide) (rfl) (rfl) ?_
        refine w_getR d_q_learnWords_64 FL_q_125 (by decide) (rfl) (rfl) ?_
        refine w_iload_n d_q_learnWords_67 rfl ?_
        refine w_iconst (v := nI 0) d_q_learnWords_68 (by decide +kernel) ?_
        refine w_callS2 (N := M_q_wordRow) d_q_learnWords_69 LK_q_128 MF_q_wordRow MS_q_wordRow NP_q_wordRow (by decide) rfl (Nat.le_of_ble_eq_true rfl) ?_
        refine Ev.det (c_q_wordRow _ _ _) ?_
        refine w_callV2 (N := M_c_giveCentres) d_q_learnWords_72 LK_q_245 MF_c_giveCentres MV_c_giveCentres NP_c_giveCentres (by decide) (by decide) (rfl) rfl rfl (Nat.le_of_ble_eq_true rfl) ?_
        refine Ev.mono (c_c_giveCentres S2 ns (p * pwid kind) (pwid kind) nc f2 17 (p * 4 + 0) (by decide) (by decide) (show p * 4 + 0 + nc ≤ 16 by omega) (by decide) (fun c hc => ⟨show 108 + (p * 4 + 0 + c) < 204 by omega, kd_row108 (by omega), by show pwid kind ≤ ln (108 + (p * 4 + 0 + c)); rw [ln_row108 (by omega)]; omega⟩)) (fun r9 S3 hq => ?_)
        obtain ⟨rfl, g1, g2, g3⟩ := hq
        show Wp _ _ _ [] _ _
        have g2 : ∀ a i, ¬ (108 + (p * 4 + 0) ≤ a ∧ a < 108 + (p * 4 + 0) + nc) → S3.1 a i = S2.1 a i := fun a i ha => g2 a i ha
        have g3 : ∀ c, c < nc → ∀ k, k < pwid kind → S3.1 (108 + (p * 4 + 0 + c)) k = S2.1 (96 + c) k := fun c hc k hk => g3 c hc k hk
        refine w_goto 102 d_q_learnWords_75 (by decide) ?_
        refine w_iincN d_q_learnWords_102 rfl ?_
        refine w_goto 13 d_q_learnWords_105 (by decide) ?_
        show Wp _ 13 _ _ _ _
        refine hn9 h24 _ (g1.trans (f1.1.trans h1)) (fun a i ha hb => ?_) ((g2 3 5 (by omega)).trans f4) (fun q hq j hj k hk => ?_)
        · rw [g2 a i (by omega), f1.2 a i (by omega)]
          exact h2 a i ha hb
        · by_cases hqp : q = p
          · subst hqp
            rw [Nat.add_zero] at g3
            rw [g3 j hj k hk, f3 j hj k hk]
            unfold wlF
            rw [if_pos hkd]
            rw [hpw] at hk ⊢
            exact clu_congr hs0 hc1 (fun i hi k hk => h2 _ _ (by omega) (by omega)) r j hj k hk
          · rw [g2 _ _ (by omega), f1.2 _ _ (by omega)]
            exact h3 q (by omega) j hj k hk
  refine w_aload_n d_q_learnWords_0 rfl ?_
  refine w_getR d_q_learnWords_1 FL_q_33 (by decide) (rfl) (rfl) ?_
  refine w_getIV (v := kind) d_q_learnWords_4 FL_q_118 (by decide) (rfl) (rfl) (hk) ?_
  refine w_callS1 (N := M_q_partWidthOf) d_q_learnWords_7 LK_q_121 MF_q_partWidthOf MS_q_partWidthOf NP_q_partWidthOf (by decide) rfl (Nat.le_of_ble_eq_true rfl) ?_
  refine Ev.det (c_q_partWidthOf _ _) ?_
  refine w_istore_n d_q_learnWords_10 (Nat.le_of_ble_eq_true rfl) ?_
  refine w_iconst (v := nI 0) d_q_learnWords_11 (by decide +kernel) ?_
  refine w_istore_n d_q_learnWords_12 (Nat.le_of_ble_eq_true rfl) ?_
  exact hk0 0 (by omega) _ rfl (fun _ _ _ _ => rfl) hn lt_0
