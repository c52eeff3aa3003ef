def erp (S : St) (kind : Int32) (nc : Nat) (y : Nat → Int32) (acc : Int32) : Nat → Int32
  | 0 => acc
  | p + 1 => erp S kind nc y acc p + wdOf S kind y p (cdOf S kind nc y p)
/-- the training error over the first n rows of what is left -/
def ern (S : St) (kind : Int32) (nc : Nat) (Y : Nat → Nat → Int32) : Nat → Int32
  | 0 => 0
  | i + 1 => erp S kind nc (Y i) (ern S kind nc Y i) (parts kind)
set_option maxRecDepth 100000 in
set_option maxHeartbeats 4000000 in
theorem c_q_trainingError (S : St) (kind : Int32) (ns nc : Nat) (hn : S.1 3 5 = nI ns) (hs24 : ns ≤ 24) (hk : S.1 4 4 = kind) (hc : S.1 4 6 = nI nc) (hc1 : 0 < nc) (hc4 : nc ≤ 4) : Ev M_q_trainingError [.ref 0] S (fun v9 S' => v9 = some (.int (ern S kind nc (fun i => S.1 (72 + i)) ns)) ∧ S' = S) := by
  refine Ev.of MF_q_trainingError (all_cat rfl) (Nat.le_of_ble_eq_true rfl) ?_
  show Wp M_q_trainingError 0 [.ref 0, .null, .null, .null, .null] [] _ _
  have hpar := parts_le kind
  have hk0 : ∀ i, i ≤ ns → ∀ (v : Int32) (x3 : Value) (x4 : Value), v = ern S kind nc (fun i => S.1 (72 + i)) i → Wp M_q_trainingError 4 [.ref 0, .int v, .int (nI i), x3, x4] [] S (fun v9 S' => v9 = some (.int (ern S kind nc (fun i => S.1 (72 + i)) ns)) ∧ S' = S) := by
    refine loopUp (ns) (fun i hk9 hn9 => ?_)
    intro v x3 x4 hv
    refine w_iload_n d_q_trainingError_4 rfl ?_
    refine w_aload_n d_q_trainingError_5 rfl ?_
    refine w_getR d_q_trainingError_6 FL_q_26 (by decide) (rfl) (rfl) ?_
    refine w_getIV (v := (nI ns)) d_q_trainingError_9 FL_q_233 (by decide) (rfl) (rfl) (hn) ?_
    refine w_icmp_geN 78 d_q_trainingError_12 (by decide) (by omega) (by omega) (fun h12 => ?_) (fun h12 => ?_)
    · refine w_iload_n d_q_trainingError_78 rfl ?_
      refine w_iret (st := []) rfl d_q_trainingError_79 ?_
      obtain rfl : i = ns := by omega
      exact ⟨by rw [hv], rfl⟩
    · refine w_aload_n d_q_trainingError_15 rfl ?_
      refine w_getR d_q_trainingError_16 FL_q_26 (by decide) (rfl) (rfl) ?_
      refine w_getR d_q_trainingError_19 FL_q_236 (by decide) (rfl) (rfl) ?_
      refine w_iload_n d_q_trainingError_22 rfl ?_
      refine w_aaldN d_q_trainingError_23 (by decide) (rfl) (show i < 24 from (by omega)) ?_
      show Wp _ _ _ (.ref (72 + i) :: _) _ _
      refine w_astore_n d_q_trainingError_24 (Nat.le_of_ble_eq_true rfl) ?_
      refine w_iconst (v := nI 0) d_q_trainingError_25 (by decide +kernel) ?_
      refine w_istore d_q_trainingError_26 (Nat.le_of_ble_eq_true rfl) ?_
      have hin : ∀ p, p ≤ parts kind → ∀ (u : Int32), u = erp S kind nc (S.1 (72 + i)) v p → Wp M_q_trainingError 28 [.ref 0, .int u, .int (nI i), .ref (72 + i), .int (nI p)] [] S (fun v9 S' => v9 = some (.int (ern S kind nc (fun i => S.1 (72 + i)) ns)) ∧ S' = S) := by
        refine loopUp (parts kind) (fun p hk8 hn8 => ?_)
        intro u hu
        refine w_iload d_q_trainingError_28 rfl ?_
        refine w_aload_n d_q_trainingError_30 rfl ?_
        refine w_getR d_q_trainingError_31 FL_q_33 (by decide) (rfl) (rfl) ?_
        refine w_getIV (v := kind) d_q_trainingError_34 FL_q_118 (by decide) (rfl) (rfl) (hk) ?_
        refine w_callS1 (N := M_q_partsOf) d_q_trainingError_37 LK_q_257 MF_q_partsOf MS_q_partsOf NP_q_partsOf (by decide) rfl (Nat.le_of_ble_eq_true rfl) ?_
        refine Ev.det (c_q_partsOf _ _) ?_
        refine w_icmp_geN 72 d_q_trainingError_40 (by decide) (by omega) (by omega) (fun h40 => ?_) (fun h40 => ?_)
        · refine w_iincN d_q_trainingError_72 rfl ?_
          refine w_goto 4 d_q_trainingError_75 (by decide) ?_
          have hpk : p = parts kind := by omega
          exact hn9 h12 _ _ _ (by rw [hu, hpk, hv]; rfl)
        · refine w_iload_n d_q_trainingError_43 rfl ?_
          refine w_aload_n d_q_trainingError_44 rfl ?_
          refine w_getR d_q_trainingError_45 FL_q_33 (by decide) (rfl) (rfl) ?_
          refine w_iload d_q_trainingError_48 rfl ?_
          refine w_aload_n d_q_trainingError_50 rfl ?_
          refine w_getR d_q_trainingError_51 FL_q_33 (by decide) (rfl) (rfl) ?_
          refine w_iload d_q_trainingError_54 rfl ?_
          refine w_aload_n d_q_trainingError_56 rfl ?_
          refine w_callV2 (N := M_z_nearestWord) d_q_trainingError_57 LK_q_272 MF_z_nearestWord MV_z_nearestWord NP_z_nearestWord (by decide) (by decide) (rfl) rfl rfl (Nat.le_of_ble_eq_true rfl) ?_
          refine Ev.det (c_z_nearestWord S kind nc p _ hk h40 hc hc1 hc4 (by omega) (kd_row72 (by omega)) (ln_row72 (by omega))) ?_
          have hcl := cdOf_lt (S := S) (kind := kind) (y := S.1 (72 + i)) (part := p) hc1
          refine w_aload_n d_q_trainingError_60 rfl ?_
          refine w_callV3 (N := M_z_wordDistance) d_q_trainingError_61 LK_q_276 MF_z_wordDistance MV_z_wordDistance NP_z_wordDistance (by decide) (by decide) (rfl) rfl rfl (Nat.le_of_ble_eq_true rfl) ?_
          refine Ev.det (c_z_wordDistance S kind p _ _ hk h40 (by omega) (by omega) (kd_row72 (by omega)) (ln_row72 (by omega))) ?_
          show Wp _ 64 _ _ _ _
          refine w_iadd d_q_trainingError_64 ?_
          refine w_istore_n d_q_trainingError_65 (Nat.le_of_ble_eq_true rfl) ?_
          refine w_iincN d_q_trainingError_66 rfl ?_
          refine w_goto 28 d_q_trainingError_69 (by decide) ?_
          exact hn8 h40 _ (by rw [hu]; rfl)
      exact hin 0 (by omega) _ rfl
  refine w_iconst (v := nI 0) d_q_trainingError_0 (by decide +kernel) ?_
  refine w_istore_n d_q_trainingError_1 (Nat.le_of_ble_eq_true rfl) ?_
  refine w_iconst (v := nI 0) d_q_trainingError_2 (by decide +kernel) ?_
  refine w_istore_n d_q_trainingError_3 (Nat.le_of_ble_eq_true rfl) ?_
  exact hk0 0 (by omega) _ _ _ rfl
theorem erp_congr {S S' : St} {kind : Int32} {nc : Nat} {y y' : Nat → Int32} {acc : Int32} (hy : ∀ k, k < 4 → y k = y' k) (hc : 0 < nc) : ∀ {p : Nat}, p ≤ parts kind → (∀ q, q < p → ∀ j, j < nc → ∀ k, k < pwid kind → S.1 (108 + (q * 4 + j)) k = S'.1 (108 + (q * 4 + j)) k) → erp S kind nc y acc p = erp S' kind nc y' acc p
  | 0, _, _ => rfl
  | p + 1, hp, h => by
    show erp S kind nc y acc p + wdOf S kind y p (cdOf S kind nc y p) = erp S' kind nc y' acc p + wdOf S' kind y' p (cdOf S' kind nc y' p)
    rw [erp_congr hy hc (by omega) (fun q hq => h q (by omega)), cdOf_congr (by omega) (h p (by omega)) hy, wdOf_congr (by omega) (h p (by omega) _ (cdOf_lt hc)) hy]
theorem ern_congr {S S' : St} {kind : Int32} {nc : Nat} {Y Y' : Nat → Nat → Int32} (hc : 0 < nc) (h : ∀ q, q < parts kind → ∀ j, j < nc → ∀ k, k < pwid kind → S.1 (108 + (q * 4 + j)) k = S'.1 (108 + (q * 4 + j)) k) : ∀ {n : Nat}, (∀ i, i < n → ∀ k, k < 4 → Y i k = Y' i k) → ern S kind nc Y n = ern S' kind nc Y' n
  | 0, _ => rfl
  | n + 1, hY => by
    show erp S kind nc (Y n) (ern S kind nc Y n) (parts kind) = erp S' kind nc (Y' n) (ern S' kind nc Y' n) (parts kind)
    rw [ern_congr hc h (fun i hi => hY i (by omega))]
    exact erp_congr (hY n (by omega)) hc (Nat.le_refl _) h
/-- the centres of a training, what it leaves of the samples, its words -/
def trC (S : St) (ns nl r : Nat) : Nat → Nat → Int32 := clu (tit S) ns 4 nl r
def trY (S : St) (ns nl r : Nat) : Nat → Nat → Int32 := fun i k => tit S i k - trC S ns nl r (near (fun l => dst (trC S ns nl r l) (tit S i) 4) nl) k
def trW (S : St) (kind : Int32) (ns nl nc r : Nat) (part j k : Nat) : Int32 := if kind = 0 then clu (fun i k => trY S ns nl r i (part * 2 + k)) ns 2 nc r j k else sprd (minI (fun i => trY S ns nl r i part) ns) (maxI (fun i => trY S ns nl r i part) ns) nc j
/-- the training error, by the words of the state -/
def trE (S : St) (S' : St) (kind : Int32) (ns nl nc r : Nat) : Int32 := ern S' kind nc (trY S ns nl r) ns
def trOK (S : St) (ns m : Nat) (l kq c r : Int32) : Prop := ¬ ns = 0 ∧ m = 0 ∧ (nI 1 ≤ l ∧ l ≤ nI 4) ∧ (nI 0 ≤ kq ∧ kq ≤ nI 2) ∧ (nI 1 ≤ c ∧ c ≤ nI 4) ∧ (nI 0 ≤ r ∧ r ≤ nI 8)
def trR (ns m : Nat) : Int32 := if ns = 0 then -1 else if ¬ m = 0 then -2 else -3
/-- what a training does to the class -/
def TR (S S' : St) (kind : Int32) (ns nl nc r : Nat) : Prop := S'.2 = S.2 ∧ (∀ a i, ¬ scr a → ¬ (104 ≤ a ∧ a < 124) → ¬ (a = 4 ∧ (i = 3 ∨ i = 4 ∨ i = 5 ∨ i = 6)) → S'.1 a i = S.1 a i) ∧ S'.1 4 3 = nI 1 ∧ S'.1 4 4 = kind ∧ S'.1 4 5 = nI nl ∧ S'.1 4 6 = nI nc ∧ (∀ c, c < nl → ∀ k, k < 4 → S'.1 (104 + c) k = trC S ns nl r c k) ∧ ∀ part, part < parts kind → ∀ j, j < nc → ∀ k, k < pwid kind → S'.1 (108 + (part * 4 + j)) k = trW S kind ns nl nc r part j k
set_option maxRecDepth 100000 in
set_option maxHeartbeats 4000000 in
theorem c_q_train (S : St) (ns m : Nat) (l kq c r : Int32) (hs : S.1 2 1 = nI ns) (hs24 : ns ≤ 24) (hm : S.1 5 1 = nI m) (hm20 : m ≤ 20) (ho : ∀ k, k < 4 → okStep (S.1 9 k)) : Ev M_q_train [.ref 0, .int l, .int kq, .int c, .int r] S (fun v9 S' => (trOK S ns m l kq c r → ∃ nl nc rr kn : Nat, l = nI nl ∧ kq = nI kn ∧ c = nI nc ∧ r = nI rr ∧ 0 < nl ∧ nl ≤ 4 ∧ 0 < nc ∧ nc ≤ 4 ∧ rr ≤ 8 ∧ kn ≤ 2 ∧ v9 = some (.int (trE S S' kq ns nl nc rr)) ∧ TR S S' kq ns nl nc rr) ∧ (¬ trOK S ns m l kq c r → v9 = some (.int (trR ns m)) ∧ S' = S)) := by
  refine Ev.of MF_q_train (all_cat rfl) (Nat.le_of_ble_eq_true rfl) ?_
  show Wp M_q_train 0 [.ref 0, .int l, .int kq, .int c, .int r] [] _ _
  refine w_aload_n d_q_train_0 rfl ?_
  refine w_getR d_q_train_1 FL_q_19 (by decide) (rfl) (rfl) ?_
  refine w_getIV (v := (nI ns)) d_q_train_4 FL_q_73 (by decide) (rfl) (rfl) (hs) ?_
  refine w_if_neN 12 d_q_train_7 (by decide) (by omega) (fun h7 => ?_) (fun h7 => ?_)
  · refine w_aload_n d_q_train_12 rfl ?_
    refine w_getR d_q_train_13 FL_q_40 (by decide) (rfl) (rfl) ?_
    refine w_getIV (v := (nI m)) d_q_train_16 FL_q_85 (by decide) (rfl) (rfl) (hm) ?_
    refine w_if_leN 25 d_q_train_19 (by decide) (by omega) (fun h19 => ?_) (fun h19 => ?_)
    · refine w_iload_n d_q_train_25 rfl ?_
      refine w_iconst (v := nI 1) d_q_train_26 (by decide +kernel) ?_
      refine w_iconst (v := nI 4) d_q_train_27 (by decide +kernel) ?_
      refine w_callS3 (N := M_q_isWithin) d_q_train_28 LK_q_86 MF_q_isWithin MS_q_isWithin NP_q_isWithin (by decide) rfl (Nat.le_of_ble_eq_true rfl) ?_
      refine Ev.det (c_q_isWithin _ _ _ _) ?_
      refine w_if_eqB 63 d_q_train_31 (by decide) (fun h31 => ?_) (fun h31 => ?_)
      · refine w_bipush (v := -3) d_q_train_63 (by decide +kernel) ?_
        refine w_iret (st := []) rfl d_q_train_65 ?_
        exact ⟨fun q => absurd q.2.2.1 (of_decide_eq_false h31), fun _ => ⟨by unfold trR; rw [if_neg h7, if_neg (fun q => q (by omega))], rfl⟩⟩
      · refine w_iload_n d_q_train_34 rfl ?_
        refine w_iconst (v := nI 0) d_q_train_35 (by decide +kernel) ?_
        refine w_iconst (v := nI 2) d_q_train_36 (by decide +kernel) ?_
        refine w_callS3 (N := M_q_isWithin) d_q_train_37 LK_q_86 MF_q_isWithin MS_q_isWithin NP_q_isWithin (by decide) rfl (Nat.le_of_ble_eq_true rfl) ?_
        refine Ev.det (c_q_isWithin _ _ _ _) ?_
        refine w_if_eqB 63 d_q_train_40 (by decide) (fun h40 => ?_) (fun h40 => ?_)
        · refine w_bipush (v := -3) d_q_train_63 (by decide +kernel) ?_
          refine w_iret (st := []) rfl d_q_train_65 ?_
          exact ⟨fun q => absurd q.2.2.2.1 (of_decide_eq_false h40), fun _ => ⟨by unfold trR; rw [if_neg h7, if_neg (fun q => q (by omega))], rfl⟩⟩
        · refine w_iload_n d_q_train_43 rfl ?_
          refine w_iconst (v := nI 1) d_q_train_44 (by decide +kernel) ?_
          refine w_iconst (v := nI 4) d_q_train_45 (by decide +kernel) ?_
          refine w_callS3 (N := M_q_isWithin) d_q_train_46 LK_q_86 MF_q_isWithin MS_q_isWithin NP_q_isWithin (by decide) rfl (Nat.le_of_ble_eq_true rfl) ?_
          refine Ev.det (c_q_isWithin _ _ _ _) ?_
          refine w_if_eqB 63 d_q_train_49 (by decide) (fun h49 => ?_) (fun h49 => ?_)
          · refine w_bipush (v := -3) d_q_train_63 (by decide +kernel) ?_
            refine w_iret (st := []) rfl d_q_train_65 ?_
            exact ⟨fun q => absurd q.2.2.2.2.1 (of_decide_eq_false h49), fun _ => ⟨by unfold trR; rw [if_neg h7, if_neg (fun q => q (by omega))], rfl⟩⟩
          · refine w_iload d_q_train_52 rfl ?_
            refine w_iconst (v := nI 0) d_q_train_54 (by decide +kernel) ?_
            refine w_bipush (v := nI 8) d_q_train_55 (by decide +kernel) ?_
            refine w_callS3 (N := M_q_isWithin) d_q_train_57 LK_q_86 MF_q_isWithin MS_q_isWithin NP_q_isWithin (by decide) rfl (Nat.le_of_ble_eq_true rfl) ?_
            refine Ev.det (c_q_isWithin _ _ _ _) ?_
            refine w_if_neB 66 d_q_train_60 (by decide) (fun h60 => ?_) (fun h60 => ?_)
            · have h31 := of_decide_eq_true h31
              have h40 := of_decide_eq_true h40
              have h49 := of_decide_eq_true h49
              have h60 := of_decide_eq_true h60
              have h7' : 0 < ns := by omega
              obtain ⟨nl, hl1, hl4, rfl⟩ := nI_in2 h31 (by decide) (by decide)
              obtain ⟨kn, -, hkn, rfl⟩ := nI_in2 h40 (by decide) (by decide)
              obtain ⟨nc, hc1, hc4, rfl⟩ := nI_in2 h49 (by decide) (by decide)
              obtain ⟨r, -, hr8, rfl⟩ := nI_in2 h60 (by decide) (by decide)
              refine w_aload_n d_q_train_66 rfl ?_
              refine w_getR d_q_train_67 FL_q_33 (by decide) (rfl) (rfl) ?_
              refine w_iload_n d_q_train_70 rfl ?_
              refine w_iload_n d_q_train_71 rfl ?_
              refine w_iload_n d_q_train_72 rfl ?_
              refine w_callV3 (N := M_z_become) d_q_train_73 LK_q_90 MF_z_become MV_z_become NP_z_become (by decide) (by decide) (rfl) rfl rfl (Nat.le_of_ble_eq_true rfl) ?_
              refine Ev.det (c_z_become S _ _ _) ?_
              obtain ⟨S0, hS0⟩ : ∃ S0, S0 = (put (put (put (put S 4 3 (nI 1)) 4 4 (nI kn)) 4 5 (nI nl)) 4 6 (nI nc)) := ⟨_, rfl⟩
              rw [← hS0]
              have e3 : S0.1 4 3 = nI 1 := by rw [hS0, put_ne (by decide), put_ne (by decide), put_ne (by decide), put_at]
              have e4 : S0.1 4 4 = nI kn := by rw [hS0, put_ne (by decide), put_ne (by decide), put_at]
              have e5 : S0.1 4 5 = nI nl := by rw [hS0, put_ne (by decide), put_at]
              have e6 : S0.1 4 6 = nI nc := by rw [hS0, put_at]
              have e0 : ∀ a i, a ≠ 4 → S0.1 a i = S.1 a i := fun a i ha => by rw [hS0, put_ne (by omega), put_ne (by omega), put_ne (by omega), put_ne (by omega)]
              have e2 : S0.2 = S.2 := by rw [hS0]; rfl
              have htt : ∀ i, i < ns → ∀ k, k < 4 → tit S0 i k = tit S i k := fun i hi k hk => by
                unfold tit
                rw [e0 9 k (by decide)]
                exact tval_congr (ho k hk) (fun j hj => e0 _ _ (by omega))
              have hcl : ∀ c, c < nl → ∀ k, k < 4 → clu (tit S0) ns 4 nl r c k = trC S ns nl r c k := clu_congr h7' hl1 htt r
              refine w_aload_n d_q_train_76 rfl ?_
              refine w_iload d_q_train_77 rfl ?_
              refine w_callV1 (N := M_q_learnCentres) d_q_train_79 LK_q_93 MF_q_learnCentres MV_q_learnCentres NP_q_learnCentres (by decide) (by decide) (rfl) rfl rfl (Nat.le_of_ble_eq_true rfl) ?_
              refine Ev.mono (c_q_learnCentres S0 ns nl r ((e0 2 1 (by decide)).trans hs) h7' hs24 e5 hl1 hl4 hr8 (fun k hk => by rw [e0 9 k (by decide)]; exact ho k hk)) (fun r9 S2 hq => ?_)
              obtain ⟨rfl, f1, f2, f3, f4, f5⟩ := hq
              have f1 := f1.trans e2
              show Wp _ _ _ [] _ _
              refine w_aload_n d_q_train_82 rfl ?_
              refine w_callV0 (N := M_q_keepWhatIsLeft) d_q_train_83 LK_q_97 MF_q_keepWhatIsLeft MV_q_keepWhatIsLeft NP_q_keepWhatIsLeft (by decide) (by decide) (rfl) rfl rfl (Nat.le_of_ble_eq_true rfl) ?_
              refine Ev.mono (c_q_keepWhatIsLeft S2 ns nl f3 hs24 ((f2 4 5 (by unfold scr; decide) (by decide)).trans e5) hl1 hl4) (fun r9 S3 hq => ?_)
              obtain ⟨rfl, g1, g2, g3⟩ := hq
              show Wp _ _ _ [] _ _
              show Wp _ 86 _ _ _ _
              refine w_aload_n d_q_train_86 rfl ?_
              refine w_iload d_q_train_87 rfl ?_
              refine w_callV1 (N := M_q_learnWords) d_q_train_89 LK_q_100 MF_q_learnWords MV_q_learnWords NP_q_learnWords (by decide) (by decide) (rfl) rfl rfl (Nat.le_of_ble_eq_true rfl) ?_
              refine Ev.mono (c_q_learnWords S3 (nI kn) ns nc r ((g2 3 5 (by decide)).trans f3) h7' hs24 ((g2 4 4 (by decide)).trans ((f2 4 4 (by unfold scr; decide) (by decide)).trans e4)) ((g2 4 6 (by decide)).trans ((f2 4 6 (by unfold scr; decide) (by decide)).trans e6)) hc1 hc4 hr8) (fun r9 S4 hq => ?_)
              obtain ⟨rfl, k1, k2, k3, k4⟩ := hq
              show Wp _ _ _ [] _ _
              refine w_aload_n d_q_train_92 rfl ?_
              refine w_callV0 (N := M_q_trainingError) d_q_train_93 LK_q_103 MF_q_trainingError MV_q_trainingError NP_q_trainingError (by decide) (by decide) (rfl) rfl rfl (Nat.le_of_ble_eq_true rfl) ?_
              refine Ev.det (c_q_trainingError S4 (nI kn) ns nc k3 hs24 ((k2 4 4 (by decide) (by decide)).trans ((g2 4 4 (by decide)).trans ((f2 4 4 (by unfold scr; decide) (by decide)).trans e4))) ((k2 4 6 (by decide) (by decide)).trans ((g2 4 6 (by decide)).trans ((f2 4 6 (by unfold scr; decide) (by decide)).trans e6))) hc1 hc4) ?_
              refine w_iret (st := []) rfl d_q_train_96 ?_
              have hY : ∀ i, i < ns → ∀ k, k < 4 → S4.1 (72 + i) k = trY S ns nl r i k := by
                intro i hi k hk
                rw [k2 _ _ (by omega) (by omega), g3 i hi k hk]
                unfold lef trY
                have hls : lsOf S2 nl (S2.1 (72 + i)) = near (fun l => dst (trC S ns nl r l) (tit S i) 4) nl := near_congr (fun l hl => dst_congr (fun k hk => (f5 l hl k hk).trans (hcl l hl k hk)) (fun k hk => (f4 i hi k hk).trans (htt i hi k hk)))
                have hlt := near_lt (fun l => dst (trC S ns nl r l) (tit S i) 4) nl hl1
                rw [hls, f4 i hi k hk, f5 _ hlt k hk, htt i hi k hk, hcl _ hlt k hk]
              refine ⟨fun _ => ⟨nl, nc, r, kn, rfl, rfl, rfl, rfl, hl1, hl4, hc1, hc4, hr8, hkn, ?_, ?_⟩, fun q => absurd ⟨h7, by omega, h31, h40, h49, h60⟩ q⟩
              · exact congrArg (fun x => some (Value.int x)) (ern_congr hc1 (fun _ _ _ _ _ _ => rfl) hY)
              · refine ⟨k1.trans (g1.trans f1), fun a i ha hb hc => ?_, ?_, ?_, ?_, ?_, fun c hc k hk => ?_, fun part hp j hj k hk => ?_⟩
                · have ha2 := ha
                  unfold scr at ha2
                  rw [k2 a i (by omega) (by omega), g2 a i (by omega), f2 a i ha (by omega)]
                  rw [hS0]
                  rw [put_ne (by omega), put_ne (by omega), put_ne (by omega), put_ne (by omega)]
                · rw [k2 _ _ (by decide) (by decide), g2 _ _ (by decide), f2 _ _ (by unfold scr; decide) (by decide)]
                  exact e3
                · rw [k2 _ _ (by decide) (by decide), g2 _ _ (by decide), f2 _ _ (by unfold scr; decide) (by decide)]
                  exact e4
                · rw [k2 _ _ (by decide) (by decide), g2 _ _ (by decide), f2 _ _ (by unfold scr; decide) (by decide)]
                  exact e5
                · rw [k2 _ _ (by decide) (by decide), g2 _ _ (by decide), f2 _ _ (by unfold scr; decide) (by decide)]
                  exact e6
                · rw [k2 _ _ (by omega) (by omega), g2 _ _ (by omega), f5 c hc k hk]
                  exact hcl c hc k hk
                · rw [k4 part hp j hj k hk]
                  unfold wlF trW
                  have hY3 : ∀ i, i < ns → ∀ k, k < 4 → S3.1 (72 + i) k = trY S ns nl r i k := fun i hi k hk => by rw [← k2 _ _ (by omega) (by omega)]; exact hY i hi k hk
                  have hp4 := parts_le (nI kn)
                  by_cases hk0 : (nI kn) = 0
                  · rw [if_pos hk0, if_pos hk0]
                    have hp2 : part < 2 := by unfold parts at hp; rw [if_pos hk0] at hp; exact hp
                    have hk2 : k < 2 := by unfold pwid at hk; rw [if_pos hk0] at hk; exact hk
                    exact clu_congr h7' hc1 (fun i hi k hk => hY3 i hi _ (by omega)) r j hj k hk2
                  · rw [if_neg hk0, if_neg hk0, minI_congr (hY3 0 h7' part (by omega)) (fun i hi => hY3 i hi part (by omega)), maxI_congr (hY3 0 h7' part (by omega)) (fun i hi => hY3 i hi part (by omega))]
            · refine w_bipush (v := -3) d_q_train_63 (by decide +kernel) ?_
              refine w_iret (st := []) rfl d_q_train_65 ?_
              exact ⟨fun q => absurd q.2.2.2.2.2 (of_decide_eq_false h60), fun _ => ⟨by unfold trR; rw [if_neg h7, if_neg (fun q => q (by omega))], rfl⟩⟩
    · refine w_bipush (v := -2) d_q_train_22 (by decide +kernel) ?_
      refine w_iret (st := []) rfl d_q_train_24 ?_
      exact ⟨fun q => absurd q.2.1 (by omega), fun _ => ⟨by unfold trR; rw [if_neg h7, if_pos (by omega)], rfl⟩⟩
  · refine w_iconst (v := -1) d_q_train_10 (by decide +kernel) ?_
    refine w_iret (st := []) rfl d_q_train_11 ?_
    exact ⟨fun q => absurd h7 q.1, fun _ => ⟨by unfold trR; rw [if_pos h7], rfl⟩⟩
