/-! The reference's search. -/
theorem cntB_sub {p q : Nat → Bool} : ∀ {n : Nat}, (∀ u, u < n → p u = true → q u = true) → cntB p n ≤ cntB q n
  | 0, _ => Nat.le_refl 0
  | n + 1, h => by
    have ih := cntB_sub (n := n) (fun u hu => h u (by omega))
    show cntB p n + (if p n = true then 1 else 0) ≤ cntB q n + (if q n = true then 1 else 0)
    by_cases hp : p n = true
    · rw [if_pos hp, if_pos (h n (by omega) hp)]; omega
    · rw [if_neg hp]; omega
theorem cntB_slt {p q : Nat → Bool} : ∀ {n i : Nat}, (∀ u, u < n → p u = true → q u = true) → i < n → q i = true → p i = false → cntB p n < cntB q n
  | 0, i, _, hi, _, _ => absurd hi (by omega)
  | n + 1, i, h, hi, h1, h2 => by
    show cntB p n + (if p n = true then 1 else 0) < cntB q n + (if q n = true then 1 else 0)
    by_cases hin : i = n
    · have ih := cntB_sub (n := n) (fun u hu => h u (by omega))
      rw [hin] at h1 h2
      rw [if_neg (by rw [h2]; decide), if_pos h1]; omega
    · have ih := cntB_slt (n := n) (fun u hu => h u (by omega)) (show i < n by omega) h1 h2
      by_cases hp : p n = true
      · rw [if_pos hp, if_pos (h n (by omega) hp)]; omega
      · rw [if_neg hp]; omega
/-- how many of n stand before i, among those with t -/
def rkB (t : Nat → Bool) (d p : Nat → Int32) (n i : Nat) : Nat := cntB (fun j => t j && bef (d j) (p j) (d i) (p i)) n
theorem rkB_lt {t : Nat → Bool} {d p : Nat → Int32} {n i j : Nat} (hi : i < n) (ht : t i = true) (hb : bef (d i) (p i) (d j) (p j) = true) : rkB t d p n i < rkB t d p n j := by
  refine cntB_slt (fun u hu h => ?_) hi ?_ ?_
  · rw [Bool.and_eq_true] at h ⊢
    exact ⟨h.1, bef_trans h.2 hb⟩
  · rw [ht, hb]; rfl
  · rw [bef_irr, Bool.and_false]
theorem rkB_inj {t : Nat → Bool} {d p : Nat → Int32} {n i j : Nat} (hi : i < n) (hj : j < n) (hti : t i = true) (htj : t j = true) (hne : p i ≠ p j) : rkB t d p n i ≠ rkB t d p n j := by
  cases hb : bef (d i) (p i) (d j) (p j) with
  | true => have := rkB_lt hi hti hb; omega
  | false => have := rkB_lt (i := j) (j := i) hj htj (bef_total hne hb); omega
theorem rkB_le (t : Nat → Bool) (d p : Nat → Int32) (n i : Nat) : rkB t d p n i ≤ n := cntB_le _ n
theorem rkB_congr {t t' : Nat → Bool} {d d' p p' : Nat → Int32} {n i : Nat} (hi : i < n) (ht : ∀ j, j < n → t j = t' j) (hd : ∀ j, j < n → d j = d' j) (hp : ∀ j, j < n → p j = p' j) : rkB t d p n i = rkB t' d' p' n i := cntB_congr (fun j hj => by
  show (t j && bef (d j) (p j) (d i) (p i)) = (t' j && bef (d' j) (p' j) (d' i) (p' i))
  rw [ht j hj, hd j hj, hp j hj, hd i hi, hp i hi])
def pbM (S : St) (nl pb l : Nat) : Bool := decide (lbef (fun j => dst (fun k => S.1 28 (4 * j + k)) (S.1 38) 4) l nl < pb)
def wsM (S : St) (kind : Int32) (y : Nat → Int32) (c : Nat → Nat) : Nat → Int32
  | 0 => 0
  | p + 1 => wsM S kind y c p + wdM S kind y p (c p)
def mX (S : St) (id : Nat) : Int32 := dst (S.1 38) (mtv S id) 4
def mK (S : St) (kind : Int32) (nl nc : Nat) (id : Nat) : Int32 := if kind = nI 2 then mX S id else wsM S kind (lfM S (lsM S nl (mtv S id)) (S.1 38)) (cdM S kind nc (lfM S (lsM S nl (mtv S id)) (mtv S id))) (parts kind)
def pmM (S : St) (nl pb id : Nat) : Bool := decide (¬ S.1 30 id = 0) && pbM S nl pb (lsM S nl (mtv S id))
theorem parts2 {kind : Int32} (h : kind = nI 2) : parts kind = 0 := by subst h; decide
/-- what the reference's search may write -/
def FrS (S S' : St) : Prop := S'.2 = S.2 ∧ ∀ a i, ¬ (a = 32 ∨ a = 33 ∨ a = 35 ∨ a = 36 ∨ a = 37 ∨ a = 44 ∨ a = 45 ∨ a = 46 ∨ a = 47 ∨ (a = 8 ∧ (i = 16 ∨ i = 17))) → S'.1 a i = S.1 a i
theorem FrS.rf (S : St) : FrS S S := ⟨rfl, fun _ _ _ => rfl⟩
theorem FrS.tr {S S1 S2 : St} (h : FrS S S1) (h2 : FrS S1 S2) : FrS S S2 := ⟨h2.1.trans h.1, fun a i q => (h2.2 a i q).trans (h.2 a i q)⟩
theorem FrS.fn {S S1 : St} (h : FrS S S1) {a : Nat} (ha : ¬ (a = 32 ∨ a = 33 ∨ a = 35 ∨ a = 36 ∨ a = 37 ∨ a = 44 ∨ a = 45 ∨ a = 46 ∨ a = 47 ∨ a = 8)) : S1.1 a = S.1 a := by funext i; exact h.2 a i (by omega)
theorem FrS.put {S S1 : St} {c i : Nat} {v : Int32} (h : FrS S S1) (hc : c = 32 ∨ c = 33 ∨ c = 35 ∨ c = 36 ∨ c = 37 ∨ c = 44 ∨ c = 45 ∨ c = 46 ∨ c = 47 ∨ (c = 8 ∧ (i = 16 ∨ i = 17))) : FrS S (put S1 c i v) := ⟨h.1, fun a j q => (put_ne (c := c) (i := i) (c' := a) (i' := j) (fun z => q (by rw [z.1, z.2]; exact hc))).trans (h.2 a j q)⟩
theorem FrG.S {S S' : St} (h : FrG S S') : FrS S S' := ⟨h.1, fun a i q => h.2 a i (by omega)⟩
theorem sk_mtv {S S1 : St} (h : FrS S S1) (id : Nat) : mtv S1 id = mtv S id := by unfold mtv; rw [h.fn (a := 26) (by omega), h.fn (a := 31) (by omega)]
theorem sk_ls {S S1 : St} (h : FrS S S1) (nl : Nat) (x : Nat → Int32) : lsM S1 nl x = lsM S nl x := by unfold lsM; rw [h.fn (a := 28) (by omega)]
theorem sk_pb {S S1 : St} (h : FrS S S1) (nl pb l : Nat) : pbM S1 nl pb l = pbM S nl pb l := by unfold pbM; rw [h.fn (a := 28) (by omega), h.fn (a := 38) (by omega)]
theorem sk_lf {S S1 : St} (h : FrS S S1) (l : Nat) (x : Nat → Int32) : lfM S1 l x = lfM S l x := by unfold lfM; rw [h.fn (a := 28) (by omega)]
theorem sk_wd {S S1 : St} (h : FrS S S1) (kind : Int32) (y : Nat → Int32) : wdM S1 kind y = wdM S kind y := by funext p j; unfold wdM; rw [h.fn (a := 29) (by omega)]
theorem sk_cd {S S1 : St} (h : FrS S S1) (kind : Int32) (nc : Nat) (y : Nat → Int32) : cdM S1 kind nc y = cdM S kind nc y := by funext p; unfold cdM; rw [sk_wd h]
theorem sk_ws {S S1 : St} (h : FrS S S1) (kind : Int32) (y : Nat → Int32) (c : Nat → Nat) : ∀ p, wsM S1 kind y c p = wsM S kind y c p
  | 0 => rfl
  | p + 1 => by
    show wsM S1 kind y c p + wdM S1 kind y p (c p) = _
    rw [sk_ws h kind y c p, sk_wd h]
    rfl
theorem sk_X {S S1 : St} (h : FrS S S1) (id : Nat) : mX S1 id = mX S id := by unfold mX; rw [sk_mtv h, h.fn (a := 38) (by omega)]
theorem sk_K {S S1 : St} (h : FrS S S1) (kind : Int32) (nl nc id : Nat) : mK S1 kind nl nc id = mK S kind nl nc id := by unfold mK; rw [sk_X h, sk_mtv h, sk_ls h, sk_lf h, sk_lf h, sk_cd h, sk_ws h, h.fn (a := 38) (by omega)]
theorem sk_pm {S S1 : St} (h : FrS S S1) (nl pb id : Nat) : pmM S1 nl pb id = pmM S nl pb id := by unfold pmM; rw [h.2 30 id (by omega), sk_mtv h, sk_ls h, sk_pb h]
set_option maxRecDepth 100000 in
set_option maxHeartbeats 4000000 in
theorem c_m_probed (S : St) (nl pb l : Nat) (hl : S.1 8 5 = nI nl) (hl4 : nl ≤ 4) (hll : l < nl) (hpb : S.1 8 12 = nI pb) (hpb4 : pb ≤ 4) : Ev M_m_probed [.ref 8, .int (nI l)] S (fun v9 S' => v9 = some (.int (bI (pbM S nl pb l))) ∧ S' = setRow S 36 (S.1 38) 4) := by
  refine Ev.of MF_m_probed (all_cat rfl) (Nat.le_of_ble_eq_true rfl) ?_
  show Wp M_m_probed 0 [.ref 8, .int (nI l), .null, .null, .null, .null] [] _ _
  have ha9 : ∀ j, dst (fun k => (setRow S 36 (S.1 38) 4).1 28 (4 * j + k)) ((setRow S 36 (S.1 38) 4).1 36) 4 = (fun j => dst (fun k => S.1 28 (4 * j + k)) (S.1 38) 4) j := fun j => dst_congr (fun k _ => setRow_ne (by decide)) (fun k hk => setRow_at hk)
  have hk1 : ∀ j, j ≤ nl → ∀ (b : Nat) (x5 : Value), b = lbef (fun j => dst (fun k => S.1 28 (4 * j + k)) (S.1 38) 4) l j → Wp M_m_probed 36 [.ref 8, .int (nI l), .int (nI b), .int (((fun j => dst (fun k => S.1 28 (4 * j + k)) (S.1 38) 4) l)), .int (nI j), x5] [] (setRow S 36 (S.1 38) 4) (fun v9 S' => v9 = some (.int (bI (pbM S nl pb l))) ∧ S' = setRow S 36 (S.1 38) 4) := by
    refine loopUp (nl) (fun j hk9 hn9 => ?_)
    intro b x5 hb
    have hbl := lbef_le (fun j => dst (fun k => S.1 28 (4 * j + k)) (S.1 38) 4) l j
    refine w_iload d_m_probed_36 rfl ?_
    refine w_aload_n d_m_probed_38 rfl ?_
    refine w_getIV (v := (nI nl)) d_m_probed_39 FL_m_134 (by decide) (rfl) (rfl) (by rw [setRow_ne (by decide)]; exact hl) ?_
    refine w_icmp_geN 85 d_m_probed_42 (by decide) (by omega) (by omega) (fun h42 => ?_) (fun h42 => ?_)
    · refine w_iload_n d_m_probed_85 rfl ?_
      refine w_aload_n d_m_probed_86 rfl ?_
      refine w_getIV (v := (nI pb)) d_m_probed_87 FL_m_77 (by decide) (rfl) (rfl) (by rw [setRow_ne (by decide)]; exact hpb) ?_
      refine w_icmp_geN 97 d_m_probed_90 (by decide) (by omega) (by omega) (fun h90 => ?_) (fun h90 => ?_)
      · refine w_iconst (v := nI 0) d_m_probed_97 (by decide +kernel) ?_
        refine w_zret (st := []) rfl d_m_probed_98 (by decide) ?_
        obtain rfl : j = nl := by omega
        subst hb
        exact ⟨rb0 (decide_eq_false (by omega)), rfl⟩
      · refine w_iconst (v := nI 1) d_m_probed_93 (by decide +kernel) ?_
        refine w_goto 98 d_m_probed_94 (by decide) ?_
        refine w_zret (st := []) rfl d_m_probed_98 (by decide) ?_
        obtain rfl : j = nl := by omega
        subst hb
        exact ⟨rb1 (decide_eq_true (by omega)), rfl⟩
    · refine w_aload_n d_m_probed_45 rfl ?_
      refine w_iload d_m_probed_46 rfl ?_
      refine w_callV1 (N := M_m_away) d_m_probed_48 LK_m_167 MF_m_away MV_m_away NP_m_away (by decide) (by decide) (rfl) rfl rfl (Nat.le_of_ble_eq_true rfl) ?_
      refine Ev.det (c_m_away (setRow S 36 (S.1 38) 4) _ (by omega)) ?_
      rw [ha9 _]
      refine w_istore d_m_probed_51 (Nat.le_of_ble_eq_true rfl) ?_
      refine w_iload_n d_m_probed_53 rfl ?_
      refine w_iload d_m_probed_54 rfl ?_
      refine w_iload_n d_m_probed_56 rfl ?_
      refine w_icmp_lt 72 d_m_probed_57 (by decide) (fun h57 => ?_) (fun h57 => ?_)
      · refine w_iconst (v := nI 1) d_m_probed_72 (by decide +kernel) ?_
        refine w_goto 77 d_m_probed_73 (by decide) ?_
        refine w_iaddN d_m_probed_77 ?_
        refine w_istore_n d_m_probed_78 (Nat.le_of_ble_eq_true rfl) ?_
        refine w_iincN d_m_probed_79 rfl ?_
        refine w_goto 36 d_m_probed_82 (by decide) ?_
        exact hn9 h42 _ _ (by show _ = lbef (fun j => dst (fun k => S.1 28 (4 * j + k)) (S.1 38) 4) l j + (if _ then 1 else 0); rw [← hb, if_pos (Or.inl h57)])
      · refine w_iload d_m_probed_60 rfl ?_
        refine w_iload_n d_m_probed_62 rfl ?_
        refine w_icmp_ne 76 d_m_probed_63 (by decide) (fun h63 => ?_) (fun h63 => ?_)
        · refine w_iconst (v := nI 0) d_m_probed_76 (by decide +kernel) ?_
          refine w_iaddN d_m_probed_77 ?_
          refine w_istore_n d_m_probed_78 (Nat.le_of_ble_eq_true rfl) ?_
          refine w_iincN d_m_probed_79 rfl ?_
          refine w_goto 36 d_m_probed_82 (by decide) ?_
          exact hn9 h42 _ _ (by show _ = lbef (fun j => dst (fun k => S.1 28 (4 * j + k)) (S.1 38) 4) l j + (if _ then 1 else 0); rw [← hb, if_neg (fun q => q.elim h57 (fun q => h63 q.1))])
        · refine w_iload d_m_probed_66 rfl ?_
          refine w_iload_n d_m_probed_68 rfl ?_
          refine w_icmp_geN 76 d_m_probed_69 (by decide) (by omega) (by omega) (fun h69 => ?_) (fun h69 => ?_)
          · refine w_iconst (v := nI 0) d_m_probed_76 (by decide +kernel) ?_
            refine w_iaddN d_m_probed_77 ?_
            refine w_istore_n d_m_probed_78 (Nat.le_of_ble_eq_true rfl) ?_
            refine w_iincN d_m_probed_79 rfl ?_
            refine w_goto 36 d_m_probed_82 (by decide) ?_
            exact hn9 h42 _ _ (by show _ = lbef (fun j => dst (fun k => S.1 28 (4 * j + k)) (S.1 38) 4) l j + (if _ then 1 else 0); rw [← hb, if_neg (fun q => q.elim h57 (fun q => by omega))])
          · refine w_iconst (v := nI 1) d_m_probed_72 (by decide +kernel) ?_
            refine w_goto 77 d_m_probed_73 (by decide) ?_
            refine w_iaddN d_m_probed_77 ?_
            refine w_istore_n d_m_probed_78 (Nat.le_of_ble_eq_true rfl) ?_
            refine w_iincN d_m_probed_79 rfl ?_
            refine w_goto 36 d_m_probed_82 (by decide) ?_
            exact hn9 h42 _ _ (by show _ = lbef (fun j => dst (fun k => S.1 28 (4 * j + k)) (S.1 38) 4) l j + (if _ then 1 else 0); rw [← hb, if_pos (Or.inr ⟨h63, h69⟩)])
  have hk0 : ∀ k, k ≤ 4 → ∀ (S2 : St) (x4 : Value) (x5 : Value), S2 = setRow S 36 (S.1 38) k → Wp M_m_probed 4 [.ref 8, .int (nI l), .int (nI 0), .int (nI k), x4, x5] [] S2 (fun v9 S' => v9 = some (.int (bI (pbM S nl pb l))) ∧ S' = setRow S 36 (S.1 38) 4) := by
    refine loopUp (4) (fun k hk9 hn9 => ?_)
    intro S2 x4 x5 hS
    refine w_iload_n d_m_probed_4 rfl ?_
    refine w_iconst (v := nI 4) d_m_probed_5 (by decide +kernel) ?_
    refine w_icmp_geN 27 d_m_probed_6 (by decide) (by omega) (by omega) (fun h6 => ?_) (fun h6 => ?_)
    · refine w_aload_n d_m_probed_27 rfl ?_
      refine w_iload_n d_m_probed_28 rfl ?_
      refine w_callV1 (N := M_m_away) d_m_probed_29 LK_m_167 MF_m_away MV_m_away NP_m_away (by decide) (by decide) (rfl) rfl rfl (Nat.le_of_ble_eq_true rfl) ?_
      have hk4 : k = 4 := by omega
      rw [hk4] at hS
      subst hS
      refine Ev.det (c_m_away (setRow S 36 (S.1 38) 4) _ (by omega)) ?_
      rw [ha9 _]
      refine w_istore_n d_m_probed_32 (Nat.le_of_ble_eq_true rfl) ?_
      refine w_iconst (v := nI 0) d_m_probed_33 (by decide +kernel) ?_
      refine w_istore d_m_probed_34 (Nat.le_of_ble_eq_true rfl) ?_
      exact hk1 0 (by omega) 0 _ rfl
    · refine w_aload_n d_m_probed_9 rfl ?_
      refine w_getR d_m_probed_10 FL_m_41 (by decide) (rfl) (rfl) ?_
      refine w_iload_n d_m_probed_13 rfl ?_
      refine w_aload_n d_m_probed_14 rfl ?_
      refine w_getR d_m_probed_15 FL_m_47 (by decide) (rfl) (rfl) ?_
      refine w_iload_n d_m_probed_18 rfl ?_
      refine w_ialdNV (v := ((S.1 38 k))) d_m_probed_19 (by decide) (rfl) (show k < 4 from (by omega)) (by rw [hS, setRow_ne (by decide)]) ?_
      refine w_iastNP d_m_probed_20 (by decide) (rfl) (show k < 4 from (by omega)) ?_
      refine w_iincN d_m_probed_21 rfl ?_
      refine w_goto 4 d_m_probed_24 (by decide) ?_
      refine hn9 h6 _ _ _ ?_
      rw [hS]
      exact setRow_s rfl
  refine w_iconst (v := nI 0) d_m_probed_0 (by decide +kernel) ?_
  refine w_istore_n d_m_probed_1 (Nat.le_of_ble_eq_true rfl) ?_
  refine w_iconst (v := nI 0) d_m_probed_2 (by decide +kernel) ?_
  refine w_istore_n d_m_probed_3 (Nat.le_of_ble_eq_true rfl) ?_
  exact hk0 0 (by omega) _ _ _ (setRow_0 _ _ _).symm
set_option maxRecDepth 100000 in
set_option maxHeartbeats 4000000 in
theorem c_m_measure (S : St) (kind : Int32) (nl nc pb : Nat) (hk : S.1 8 4 = kind) (hl : S.1 8 5 = nI nl) (hl1 : 0 < nl) (hl4 : nl ≤ 4) (hc : S.1 8 6 = nI nc) (hc1 : 0 < nc) (hc4 : nc ≤ 4) (hpb : S.1 8 12 = nI pb) (hpb4 : pb ≤ 4) (id q : Nat) (hid : id < 1000) (hq : S.1 8 17 = nI q) (hq20 : q < 20) (ho : ∀ k, k < 4 → okStep (S.1 26 k)) : Ev M_m_measure [.ref 8, .int (nI id)] S (fun v9 S' => v9 = none ∧ FrS S S' ∧ (pbM S nl pb (lsM S nl (mtv S id)) = false → ∀ a i, ¬ (a = 35 ∨ a = 36 ∨ a = 37) → S'.1 a i = S.1 a i) ∧ (pbM S nl pb (lsM S nl (mtv S id)) = true → S'.1 44 q = nI id ∧ S'.1 45 q = mK S kind nl nc id ∧ S'.1 46 q = mX S id ∧ S'.1 8 17 = nI (q + 1) ∧ ∀ a i, ¬ (a = 35 ∨ a = 36 ∨ a = 37) → ¬ ((a = 44 ∨ a = 45 ∨ a = 46) ∧ i = q) → ¬ (a = 8 ∧ i = 17) → S'.1 a i = S.1 a i)) := by
  refine Ev.of MF_m_measure (all_cat rfl) (Nat.le_of_ble_eq_true rfl) ?_
  show Wp M_m_measure 0 [.ref 8, .int (nI id), .null, .null, .null, .null, .null, .null] [] _ _
  have hlt := lsM_lt (S := S) (x := mtv S id) hl1
  generalize hle : lsM S nl (mtv S id) = l at hlt ⊢
  have hpl := parts_le kind
  have hP : pbM S nl pb l = true → ∀ p, p ≤ parts kind → ∀ (S1 : St) (x6 x7 : Value), S1.2 = S.2 → (∀ a z, ¬ (a = 35 ∨ a = 36 ∨ a = 37) → S1.1 a z = S.1 a z) → (∀ z, z < 4 → S1.1 36 z = mtv S id z) → Wp M_m_measure 84 [.ref 8, .int (nI id), .int (nI l), .int ((mX S id)), .int ((if kind = nI 2 then mX S id else wsM S kind (lfM S l (S.1 38)) (cdM S kind nc (lfM S l (mtv S id))) p)), .int (nI p), x6, x7] [] S1 (fun v9 S' => v9 = none ∧ FrS S S' ∧ (pbM S nl pb l = false → ∀ a i, ¬ (a = 35 ∨ a = 36 ∨ a = 37) → S'.1 a i = S.1 a i) ∧ (pbM S nl pb l = true → S'.1 44 q = nI id ∧ S'.1 45 q = mK S kind nl nc id ∧ S'.1 46 q = mX S id ∧ S'.1 8 17 = nI (q + 1) ∧ ∀ a i, ¬ (a = 35 ∨ a = 36 ∨ a = 37) → ¬ ((a = 44 ∨ a = 45 ∨ a = 46) ∧ i = q) → ¬ (a = 8 ∧ i = 17) → S'.1 a i = S.1 a i)) := by
    intro hpr
    refine loopUp _ (fun p hk9 hn9 => ?_)
    intro S1 x6 x7 h1 h2 h3
    refine w_iload d_m_measure_84 rfl ?_
    refine w_aload_n d_m_measure_86 rfl ?_
    refine w_callV0 (N := M_m_parts) d_m_measure_87 LK_m_144 MF_m_parts MV_m_parts NP_m_parts (by decide) (by decide) (rfl) rfl rfl (Nat.le_of_ble_eq_true rfl) ?_
    refine Ev.det (c_m_parts S1 kind ((h2 8 4 (by decide)).trans hk)) ?_
    refine w_icmp_geN 166 d_m_measure_90 (by decide) (by omega) (by omega) (fun h90 => ?_) (fun h90 => ?_)
    · refine w_aload_n d_m_measure_166 rfl ?_
      refine w_getR d_m_measure_167 FL_m_65 (by decide) (rfl) (rfl) ?_
      refine w_aload_n d_m_measure_170 rfl ?_
      refine w_getIV (v := (nI q)) d_m_measure_171 FL_m_185 (by decide) (rfl) (rfl) ((h2 8 17 (by decide)).trans hq) ?_
      refine w_iload_n d_m_measure_174 rfl ?_
      refine w_iastNP d_m_measure_175 (by decide) (rfl) (show q < 20 from (by omega)) ?_
      refine w_aload_n d_m_measure_176 rfl ?_
      refine w_getR d_m_measure_177 FL_m_68 (by decide) (rfl) (rfl) ?_
      refine w_aload_n d_m_measure_180 rfl ?_
      refine w_getIV (v := (nI q)) d_m_measure_181 FL_m_185 (by decide) (rfl) (rfl) (by rw [put_ne (by omega)]; exact (h2 8 17 (by decide)).trans hq) ?_
      refine w_iload d_m_measure_184 rfl ?_
      show Wp _ 186 _ _ _ _
      refine w_iastNP d_m_measure_186 (by decide) (rfl) (show q < 20 from (by omega)) ?_
      refine w_aload_n d_m_measure_187 rfl ?_
      refine w_getR d_m_measure_188 FL_m_71 (by decide) (rfl) (rfl) ?_
      refine w_aload_n d_m_measure_191 rfl ?_
      refine w_getIV (v := (nI q)) d_m_measure_192 FL_m_185 (by decide) (rfl) (rfl) (by rw [put_ne (by omega), put_ne (by omega)]; exact (h2 8 17 (by decide)).trans hq) ?_
      refine w_iload_n d_m_measure_195 rfl ?_
      refine w_iastNP d_m_measure_196 (by decide) (rfl) (show q < 20 from (by omega)) ?_
      refine w_aload_n d_m_measure_197 rfl ?_
      refine w_dup d_m_measure_198 rfl ?_
      refine w_getIV (v := (nI q)) d_m_measure_199 FL_m_185 (by decide) (rfl) (rfl) (by rw [put_ne (by omega), put_ne (by omega), put_ne (by omega)]; exact (h2 8 17 (by decide)).trans hq) ?_
      refine w_iconst (v := nI 1) d_m_measure_202 (by decide +kernel) ?_
      refine w_iaddN d_m_measure_203 ?_
      show Wp _ 204 _ _ _ _
      refine w_putIP d_m_measure_204 FL_m_185 FW_8_17 (by decide) (rfl) (rfl) ?_
      refine w_ret (st := []) rfl d_m_measure_207 ?_
      have hpp : p = parts kind := by omega
      have f1 : FrS S (put (put (put (put S1 44 q (nI id)) 45 q (if kind = nI 2 then mX S id else wsM S kind (lfM S l (S.1 38)) (cdM S kind nc (lfM S l (mtv S id))) p)) 46 q (mX S id)) 8 17 (nI (q + 1))) := ((((FrS.put (S1 := S1) ⟨h1, fun a i ha => h2 a i (by omega)⟩ (by omega)).put (by omega)).put (by omega)).put (by omega))
      refine ⟨rfl, f1, fun z => absurd (hpr.symm.trans z) (by decide), fun _ => ⟨?_, ?_, ?_, put_at, fun a i ha hb hc => ?_⟩⟩
      · rw [put_ne (by omega), put_ne (by omega), put_ne (by omega), put_at]
      · rw [put_ne (by omega), put_ne (by omega), put_at, hpp]
        unfold mK
        rw [hle]
      · rw [put_ne (by omega), put_at]
      · rw [put_ne (by omega), put_ne (by omega), put_ne (by omega), put_ne (by omega)]
        exact h2 a i ha
    · refine w_aload_n d_m_measure_93 rfl ?_
      refine w_iload_n d_m_measure_94 rfl ?_
      refine w_callV1 (N := M_m_leave) d_m_measure_95 LK_m_179 MF_m_leave MV_m_leave NP_m_leave (by decide) (by decide) (rfl) rfl rfl (Nat.le_of_ble_eq_true rfl) ?_
      refine Ev.det (c_m_leave S1 l (by omega)) ?_
      obtain ⟨S3, hS3⟩ : ∃ S3, S3 = setRow S1 37 (lfM S1 l (S1.1 36)) 4 := ⟨_, rfl⟩
      rw [← hS3]
      have q3 : ∀ a z, ¬ (a = 35 ∨ a = 36 ∨ a = 37) → S3.1 a z = S.1 a z := fun a z ha => by rw [hS3, setRow_ne (by omega)]; exact h2 a z ha
      have q36 : ∀ z, z < 4 → S3.1 36 z = mtv S id z := fun z hz => by rw [hS3, setRow_ne (by decide)]; exact h3 z hz
      have qT : S3.2 = S.2 := by rw [hS3]; exact h1
      have q37 : ∀ z, z < 4 → S3.1 37 z = (lfM S l (mtv S id)) z := fun z hz => by
        rw [hS3, setRow_at hz]
        unfold lfM
        rw [h3 z hz, h2 28 _ (by decide)]
      refine w_aload_n d_m_measure_98 rfl ?_
      refine w_iload d_m_measure_99 rfl ?_
      refine w_callV1 (N := M_m_nearestWord) d_m_measure_101 LK_m_158 MF_m_nearestWord MV_m_nearestWord NP_m_nearestWord (by decide) (by decide) (rfl) rfl rfl (Nat.le_of_ble_eq_true rfl) ?_
      refine Ev.det (c_m_nearestWord S3 kind p ((q3 8 4 (by decide)).trans hk) h90 nc ((q3 8 6 (by decide)).trans hc) hc1 hc4) ?_
      rw [cdM_congr (S' := S) (y' := (lfM S l (mtv S id))) h90 (fun z => q3 29 z (by decide)) q37]
      refine w_istore d_m_measure_104 (Nat.le_of_ble_eq_true rfl) ?_
      refine w_iconst (v := nI 0) d_m_measure_106 (by decide +kernel) ?_
      refine w_istore d_m_measure_107 (Nat.le_of_ble_eq_true rfl) ?_
      have hin : ∀ k, k ≤ 4 → ∀ (S2 : St), S2 = setRow S3 37 (lfM S l (S.1 38)) k → Wp M_m_measure 109 [.ref 8, .int (nI id), .int (nI l), .int ((mX S id)), .int ((if kind = nI 2 then mX S id else wsM S kind (lfM S l (S.1 38)) (cdM S kind nc (lfM S l (mtv S id))) p)), .int (nI p), .int (nI (((cdM S kind nc (lfM S l (mtv S id))) p))), .int (nI k)] [] S2 (fun v9 S' => v9 = none ∧ FrS S S' ∧ (pbM S nl pb l = false → ∀ a i, ¬ (a = 35 ∨ a = 36 ∨ a = 37) → S'.1 a i = S.1 a i) ∧ (pbM S nl pb l = true → S'.1 44 q = nI id ∧ S'.1 45 q = mK S kind nl nc id ∧ S'.1 46 q = mX S id ∧ S'.1 8 17 = nI (q + 1) ∧ ∀ a i, ¬ (a = 35 ∨ a = 36 ∨ a = 37) → ¬ ((a = 44 ∨ a = 45 ∨ a = 46) ∧ i = q) → ¬ (a = 8 ∧ i = 17) → S'.1 a i = S.1 a i)) := by
        refine loopUp (4) (fun k hk8 hn8 => ?_)
        intro S2 hS2
        have q2 : ∀ a z, ¬ (a = 35 ∨ a = 36 ∨ a = 37) → S2.1 a z = S.1 a z := fun a z ha => by rw [hS2, setRow_ne (by omega)]; exact q3 a z ha
        refine w_iload d_m_measure_109 rfl ?_
        refine w_iconst (v := nI 4) d_m_measure_111 (by decide +kernel) ?_
        refine w_icmp_geN 147 d_m_measure_112 (by decide) (by omega) (by omega) (fun h112 => ?_) (fun h112 => ?_)
        · refine w_iload d_m_measure_147 rfl ?_
          refine w_aload_n d_m_measure_149 rfl ?_
          refine w_iload d_m_measure_150 rfl ?_
          refine w_iload d_m_measure_152 rfl ?_
          refine w_callV2 (N := M_m_wordGap) d_m_measure_154 LK_m_161 MF_m_wordGap MV_m_wordGap NP_m_wordGap (by decide) (by decide) (rfl) rfl rfl (Nat.le_of_ble_eq_true rfl) ?_
          have hk4 : k = 4 := by omega
          have q37 : ∀ z, z < 4 → S2.1 37 z = (lfM S l (S.1 38)) z := fun z hz => by rw [hS2, hk4, setRow_at hz]
          refine Ev.det (c_m_wordGap S2 kind p ((q2 8 4 (by decide)).trans hk) h90 _ (by have := cdM_lt (S := S) (kind := kind) (y := (lfM S l (mtv S id))) (p := p) hc1; omega)) ?_
          rw [wdM_congr (S' := S) (y' := (lfM S l (S.1 38))) h90 (fun z => q2 29 z (by decide)) q37]
          refine w_iadd d_m_measure_157 ?_
          refine w_istore d_m_measure_158 (Nat.le_of_ble_eq_true rfl) ?_
          refine w_iincN d_m_measure_160 rfl ?_
          refine w_goto 84 d_m_measure_163 (by decide) ?_
          have hn2 : ¬ kind = nI 2 := fun z => by rw [parts2 z] at h90; omega
          have e9 : (if kind = nI 2 then mX S id else wsM S kind (lfM S l (S.1 38)) (cdM S kind nc (lfM S l (mtv S id))) p) + wdM S kind (lfM S l (S.1 38)) p ((cdM S kind nc (lfM S l (mtv S id))) p) = (if kind = nI 2 then mX S id else wsM S kind (lfM S l (S.1 38)) (cdM S kind nc (lfM S l (mtv S id))) (p + 1)) := by rw [if_neg hn2, if_neg hn2]; rfl
          rw [e9]
          exact hn9 h90 _ _ _ (by rw [hS2]; exact qT) q2 (fun z hz => by rw [hS2, setRow_ne (by decide)]; exact q36 z hz)
        · refine w_aload_n d_m_measure_115 rfl ?_
          refine w_getR d_m_measure_116 FL_m_44 (by decide) (rfl) (rfl) ?_
          refine w_iload d_m_measure_119 rfl ?_
          refine w_aload_n d_m_measure_121 rfl ?_
          refine w_getR d_m_measure_122 FL_m_47 (by decide) (rfl) (rfl) ?_
          refine w_iload d_m_measure_125 rfl ?_
          refine w_ialdNV (v := ((S.1 38 k))) d_m_measure_127 (by decide) (rfl) (show k < 4 from (by omega)) (q2 38 k (by decide)) ?_
          refine w_aload_n d_m_measure_128 rfl ?_
          refine w_getR d_m_measure_129 FL_m_16 (by decide) (rfl) (rfl) ?_
          refine w_iconst (v := nI 4) d_m_measure_132 (by decide +kernel) ?_
          refine w_iload_n d_m_measure_133 rfl ?_
          show Wp _ 134 _ _ _ _
          refine w_imulN d_m_measure_134 ?_
          refine w_iload d_m_measure_135 rfl ?_
          refine w_iaddN d_m_measure_137 ?_
          refine w_ialdNV (v := ((S.1 28 (4 * l + k)))) d_m_measure_138 (by decide) (rfl) (show (4 * l) + k < 16 from (by omega)) (q2 28 _ (by decide)) ?_
          refine w_isub d_m_measure_139 ?_
          refine w_iastNP d_m_measure_140 (by decide) (rfl) (show k < 4 from (by omega)) ?_
          refine w_iincN d_m_measure_141 rfl ?_
          refine w_goto 109 d_m_measure_144 (by decide) ?_
          refine hn8 h112 _ ?_
          rw [hS2]
          exact setRow_s rfl
      exact hin 0 (by omega) _ (setRow_0 _ _ _).symm
  have hF : pbM S nl pb l = true → ∀ k, k ≤ 4 → ∀ (S1 : St) (x5 x6 x7 : Value), S1.2 = S.2 → (∀ a z, ¬ (a = 35 ∨ a = 36 ∨ a = 37) → S1.1 a z = S.1 a z) → (∀ z, z < 4 → S1.1 36 z = mtv S id z) → Wp M_m_measure 29 [.ref 8, .int (nI id), .int (nI l), .int ((dst (mtv S id) (S.1 38) k)), .int (nI k), x5, x6, x7] [] S1 (fun v9 S' => v9 = none ∧ FrS S S' ∧ (pbM S nl pb l = false → ∀ a i, ¬ (a = 35 ∨ a = 36 ∨ a = 37) → S'.1 a i = S.1 a i) ∧ (pbM S nl pb l = true → S'.1 44 q = nI id ∧ S'.1 45 q = mK S kind nl nc id ∧ S'.1 46 q = mX S id ∧ S'.1 8 17 = nI (q + 1) ∧ ∀ a i, ¬ (a = 35 ∨ a = 36 ∨ a = 37) → ¬ ((a = 44 ∨ a = 45 ∨ a = 46) ∧ i = q) → ¬ (a = 8 ∧ i = 17) → S'.1 a i = S.1 a i)) := by
    intro hpr
    refine loopUp 4 (fun k hk9 hn9 => ?_)
    intro S1 x5 x6 x7 h1 h2 h3
    refine w_iload d_m_measure_29 rfl ?_
    refine w_iconst (v := nI 4) d_m_measure_31 (by decide +kernel) ?_
    refine w_icmp_geN 66 d_m_measure_32 (by decide) (by omega) (by omega) (fun h32 => ?_) (fun h32 => ?_)
    · refine w_aload_n d_m_measure_66 rfl ?_
      refine w_getIV (v := kind) d_m_measure_67 FL_m_128 (by decide) (rfl) (rfl) ((h2 8 4 (by decide)).trans hk) ?_
      refine w_iconst (v := nI 2) d_m_measure_70 (by decide +kernel) ?_
      refine w_icmp_ne 78 d_m_measure_71 (by decide) (fun h71 => ?_) (fun h71 => ?_)
      · refine w_iconst (v := nI 0) d_m_measure_78 (by decide +kernel) ?_
        refine w_istore d_m_measure_79 (Nat.le_of_ble_eq_true rfl) ?_
        refine w_iconst (v := nI 0) d_m_measure_81 (by decide +kernel) ?_
        refine w_istore d_m_measure_82 (Nat.le_of_ble_eq_true rfl) ?_
        have hk4 : k = 4 := by omega
        have ex : dst (mtv S id) (S.1 38) k = mX S id := by rw [hk4, dst_comm]; rfl
        rw [ex]
        have hz := hP hpr 0 (by omega) S1 x6 x7 h1 h2 h3
        rw [if_neg h71] at hz
        exact hz
      · refine w_iload_n d_m_measure_74 rfl ?_
        refine w_goto 79 d_m_measure_75 (by decide) ?_
        refine w_istore d_m_measure_79 (Nat.le_of_ble_eq_true rfl) ?_
        refine w_iconst (v := nI 0) d_m_measure_81 (by decide +kernel) ?_
        refine w_istore d_m_measure_82 (Nat.le_of_ble_eq_true rfl) ?_
        have hk4 : k = 4 := by omega
        have ex : dst (mtv S id) (S.1 38) k = mX S id := by rw [hk4, dst_comm]; rfl
        rw [ex]
        have hz := hP hpr 0 (by omega) S1 x6 x7 h1 h2 h3
        rw [if_pos h71] at hz
        exact hz
    · refine w_aload_n d_m_measure_35 rfl ?_
      refine w_getR d_m_measure_36 FL_m_41 (by decide) (rfl) (rfl) ?_
      refine w_iload d_m_measure_39 rfl ?_
      refine w_ialdNV (v := ((mtv S id k))) d_m_measure_41 (by decide) (rfl) (show k < 4 from (by omega)) (h3 k h32) ?_
      refine w_aload_n d_m_measure_42 rfl ?_
      refine w_getR d_m_measure_43 FL_m_47 (by decide) (rfl) (rfl) ?_
      refine w_iload d_m_measure_46 rfl ?_
      refine w_ialdNV (v := ((S.1 38 k))) d_m_measure_48 (by decide) (rfl) (show k < 4 from (by omega)) (h2 38 k (by decide)) ?_
      refine w_isub d_m_measure_49 ?_
      refine w_istore d_m_measure_50 (Nat.le_of_ble_eq_true rfl) ?_
      refine w_iload_n d_m_measure_52 rfl ?_
      show Wp _ 53 _ _ _ _
      refine w_iload d_m_measure_53 rfl ?_
      refine w_iload d_m_measure_55 rfl ?_
      refine w_imul d_m_measure_57 ?_
      refine w_iadd d_m_measure_58 ?_
      refine w_istore_n d_m_measure_59 (Nat.le_of_ble_eq_true rfl) ?_
      refine w_iincN d_m_measure_60 rfl ?_
      refine w_goto 29 d_m_measure_63 (by decide) ?_
      exact hn9 h32 _ _ _ _ h1 h2 h3
  refine w_aload_n d_m_measure_0 rfl ?_
  refine w_iload_n d_m_measure_1 rfl ?_
  refine w_callV1 (N := M_m_turnEntry) d_m_measure_2 LK_m_176 MF_m_turnEntry MV_m_turnEntry NP_m_turnEntry (by decide) (by decide) (rfl) rfl rfl (Nat.le_of_ble_eq_true rfl) ?_
  refine Ev.det (c_m_turnEntry S id hid ho) ?_
  refine w_aload_n d_m_measure_5 rfl ?_
  refine w_callV0 (N := M_m_listNow) d_m_measure_6 LK_m_170 MF_m_listNow MV_m_listNow NP_m_listNow (by decide) (by decide) (rfl) rfl rfl (Nat.le_of_ble_eq_true rfl) ?_
  refine Ev.det (c_m_listNow (tE S id) nl (by rw [tE_ne (by decide) (by decide)]; exact hl) hl1 hl4) ?_
  rw [lsM_congr (S' := S) (x' := mtv S id) (fun i => tE_ne (by decide) (by decide)) (fun k hk => tE_at hk), hle]
  refine w_istore_n d_m_measure_9 (Nat.le_of_ble_eq_true rfl) ?_
  refine w_aload_n d_m_measure_10 rfl ?_
  refine w_iload_n d_m_measure_11 rfl ?_
  refine w_callV1 (N := M_m_probed) d_m_measure_12 LK_m_200 MF_m_probed MV_m_probed NP_m_probed (by decide) (by decide) (rfl) rfl rfl (Nat.le_of_ble_eq_true rfl) ?_
  refine Ev.det (c_m_probed (tE S id) nl pb l (by rw [tE_ne (by decide) (by decide)]; exact hl) hl4 hlt (by rw [tE_ne (by decide) (by decide)]; exact hpb) hpb4) ?_
  rw [sk_pb (FrG.S (tE_fr S id))]
  obtain ⟨S4, hS4⟩ : ∃ S4, S4 = setRow (tE S id) 36 ((tE S id).1 38) 4 := ⟨_, rfl⟩
  rw [← hS4]
  have f4 : FrG S S4 := (tE_fr S id).tr ⟨by rw [hS4]; rfl, fun a i ha => by rw [hS4, setRow_ne (by omega)]⟩
  refine w_if_neB 19 d_m_measure_15 (by decide) (fun h15 => ?_) (fun h15 => ?_)
  · refine w_aload_n d_m_measure_19 rfl ?_
    refine w_iload_n d_m_measure_20 rfl ?_
    refine w_callV1 (N := M_m_turnEntry) d_m_measure_21 LK_m_176 MF_m_turnEntry MV_m_turnEntry NP_m_turnEntry (by decide) (by decide) (rfl) rfl rfl (Nat.le_of_ble_eq_true rfl) ?_
    refine Ev.det (c_m_turnEntry S4 id hid (fun k hk => by rw [f4.2 26 k (by decide)]; exact ho k hk)) ?_
    have f5 : FrG S (tE S4 id) := f4.tr (tE_fr S4 id)
    refine w_iconst (v := nI 0) d_m_measure_24 (by decide +kernel) ?_
    refine w_istore_n d_m_measure_25 (Nat.le_of_ble_eq_true rfl) ?_
    refine w_iconst (v := nI 0) d_m_measure_26 (by decide +kernel) ?_
    refine w_istore d_m_measure_27 (Nat.le_of_ble_eq_true rfl) ?_
    exact hF h15 0 (by omega) _ _ _ _ f5.1 f5.2 (fun z hz => by rw [tE_at hz, mtv_keep f4])
  · refine w_ret (st := []) rfl d_m_measure_18 ?_
    exact ⟨rfl, f4.S, fun _ => f4.2, fun z => absurd (h15.symm.trans z) (by decide)⟩
set_option maxRecDepth 100000 in
set_option maxHeartbeats 4000000 in
theorem c_m_rank (S : St) (q i : Nat) (hq : S.1 8 17 = nI q) (hq20 : q ≤ 20) (hi : i < q) : Ev M_m_rank [.ref 8, .int (nI i)] S (fun v9 S' => v9 = some (.int (nI (rkB (fun _ => true) (S.1 45) (S.1 44) q i))) ∧ S' = S) := by
  refine Ev.of MF_m_rank (all_cat rfl) (Nat.le_of_ble_eq_true rfl) ?_
  show Wp M_m_rank 0 [.ref 8, .int (nI i), .null, .null] [] _ _
  have hk0 : ∀ j, j ≤ q → ∀ (b : Nat), b = cntB (fun j => (fun _ => true) j && bef (S.1 45 j) (S.1 44 j) (S.1 45 i) (S.1 44 i)) j → Wp M_m_rank 4 [.ref 8, .int (nI i), .int (nI b), .int (nI j)] [] S (fun v9 S' => v9 = some (.int (nI (rkB (fun _ => true) (S.1 45) (S.1 44) q i))) ∧ S' = S) := by
    refine loopUp (q) (fun j hk9 hn9 => ?_)
    intro b hb
    have hbl := cntB_le (fun j => (fun _ => true) j && bef (S.1 45 j) (S.1 44 j) (S.1 45 i) (S.1 44 i)) j
    refine w_iload_n d_m_rank_4 rfl ?_
    refine w_aload_n d_m_rank_5 rfl ?_
    refine w_getIV (v := (nI q)) d_m_rank_6 FL_m_185 (by decide) (rfl) (rfl) (hq) ?_
    refine w_icmp_geN 71 d_m_rank_9 (by decide) (by omega) (by omega) (fun h9 => ?_) (fun h9 => ?_)
    · refine w_iload_n d_m_rank_71 rfl ?_
      refine w_iret (st := []) rfl d_m_rank_72 ?_
      obtain rfl : j = q := by omega
      exact ⟨by rw [hb]; rfl, rfl⟩
    · refine w_iload_n d_m_rank_12 rfl ?_
      refine w_aload_n d_m_rank_13 rfl ?_
      refine w_getR d_m_rank_14 FL_m_68 (by decide) (rfl) (rfl) ?_
      refine w_iload_n d_m_rank_17 rfl ?_
      refine w_ialdN d_m_rank_18 (by decide) (rfl) (show j < 20 from (by omega)) ?_
      refine w_aload_n d_m_rank_19 rfl ?_
      refine w_getR d_m_rank_20 FL_m_68 (by decide) (rfl) (rfl) ?_
      refine w_iload_n d_m_rank_23 rfl ?_
      refine w_ialdN d_m_rank_24 (by decide) (rfl) (show i < 20 from (by omega)) ?_
      refine w_icmp_lt 58 d_m_rank_25 (by decide) (fun h25 => ?_) (fun h25 => ?_)
      · refine w_iconst (v := nI 1) d_m_rank_58 (by decide +kernel) ?_
        refine w_goto 63 d_m_rank_59 (by decide) ?_
        refine w_iaddN d_m_rank_63 ?_
        refine w_istore_n d_m_rank_64 (Nat.le_of_ble_eq_true rfl) ?_
        refine w_iincN d_m_rank_65 rfl ?_
        refine w_goto 4 d_m_rank_68 (by decide) ?_
        exact hn9 h9 _ (by rw [cntB_s1 (show (fun j => (fun _ => true) j && bef (S.1 45 j) (S.1 44 j) (S.1 45 i) (S.1 44 i)) j = true by show (true && _) = true; exact decide_eq_true (Or.inl h25)), hb])
      · refine w_aload_n d_m_rank_28 rfl ?_
        refine w_getR d_m_rank_29 FL_m_68 (by decide) (rfl) (rfl) ?_
        refine w_iload_n d_m_rank_32 rfl ?_
        refine w_ialdN d_m_rank_33 (by decide) (rfl) (show j < 20 from (by omega)) ?_
        refine w_aload_n d_m_rank_34 rfl ?_
        refine w_getR d_m_rank_35 FL_m_68 (by decide) (rfl) (rfl) ?_
        refine w_iload_n d_m_rank_38 rfl ?_
        refine w_ialdN d_m_rank_39 (by decide) (rfl) (show i < 20 from (by omega)) ?_
        refine w_icmp_ne 62 d_m_rank_40 (by decide) (fun h40 => ?_) (fun h40 => ?_)
        · refine w_iconst (v := nI 0) d_m_rank_62 (by decide +kernel) ?_
          refine w_iaddN d_m_rank_63 ?_
          refine w_istore_n d_m_rank_64 (Nat.le_of_ble_eq_true rfl) ?_
          refine w_iincN d_m_rank_65 rfl ?_
          refine w_goto 4 d_m_rank_68 (by decide) ?_
          exact hn9 h9 _ (by rw [cntB_s0 (show (fun j => (fun _ => true) j && bef (S.1 45 j) (S.1 44 j) (S.1 45 i) (S.1 44 i)) j = false by show (true && _) = false; exact decide_eq_false (fun z => z.elim h25 (fun z => h40 z.1))), hb]; rfl)
        · refine w_aload_n d_m_rank_43 rfl ?_
          refine w_getR d_m_rank_44 FL_m_65 (by decide) (rfl) (rfl) ?_
          refine w_iload_n d_m_rank_47 rfl ?_
          refine w_ialdN d_m_rank_48 (by decide) (rfl) (show j < 20 from (by omega)) ?_
          refine w_aload_n d_m_rank_49 rfl ?_
          refine w_getR d_m_rank_50 FL_m_65 (by decide) (rfl) (rfl) ?_
          refine w_iload_n d_m_rank_53 rfl ?_
          refine w_ialdN d_m_rank_54 (by decide) (rfl) (show i < 20 from (by omega)) ?_
          refine w_icmp_ge 62 d_m_rank_55 (by decide) (fun h55 => ?_) (fun h55 => ?_)
          · refine w_iconst (v := nI 0) d_m_rank_62 (by decide +kernel) ?_
            refine w_iaddN d_m_rank_63 ?_
            refine w_istore_n d_m_rank_64 (Nat.le_of_ble_eq_true rfl) ?_
            refine w_iincN d_m_rank_65 rfl ?_
            refine w_goto 4 d_m_rank_68 (by decide) ?_
            exact hn9 h9 _ (by rw [cntB_s0 (show (fun j => (fun _ => true) j && bef (S.1 45 j) (S.1 44 j) (S.1 45 i) (S.1 44 i)) j = false by show (true && _) = false; exact decide_eq_false (fun z => z.elim h25 (fun z => absurd z.2 (Int32.not_lt.mpr h55)))), hb]; rfl)
          · refine w_iconst (v := nI 1) d_m_rank_58 (by decide +kernel) ?_
            refine w_goto 63 d_m_rank_59 (by decide) ?_
            refine w_iaddN d_m_rank_63 ?_
            refine w_istore_n d_m_rank_64 (Nat.le_of_ble_eq_true rfl) ?_
            refine w_iincN d_m_rank_65 rfl ?_
            refine w_goto 4 d_m_rank_68 (by decide) ?_
            exact hn9 h9 _ (by rw [cntB_s1 (show (fun j => (fun _ => true) j && bef (S.1 45 j) (S.1 44 j) (S.1 45 i) (S.1 44 i)) j = true by show (true && _) = true; exact decide_eq_true (Or.inr ⟨h40, Int32.not_le.mp h55⟩)), hb])
  refine w_iconst (v := nI 0) d_m_rank_0 (by decide +kernel) ?_
  refine w_istore_n d_m_rank_1 (Nat.le_of_ble_eq_true rfl) ?_
  refine w_iconst (v := nI 0) d_m_rank_2 (by decide +kernel) ?_
  refine w_istore_n d_m_rank_3 (Nat.le_of_ble_eq_true rfl) ?_
  exact hk0 0 (by omega) 0 rfl
set_option maxRecDepth 100000 in
set_option maxHeartbeats 4000000 in
theorem c_m_exactRank (S : St) (q i : Nat) (hq : S.1 8 17 = nI q) (hq20 : q ≤ 20) (hi : i < q) (t : Nat → Bool) (ht : ∀ j, j < q → S.1 47 j = bI (t j)) : Ev M_m_exactRank [.ref 8, .int (nI i)] S (fun v9 S' => v9 = some (.int (nI (rkB t (S.1 46) (S.1 44) q i))) ∧ S' = S) := by
  refine Ev.of MF_m_exactRank (all_cat rfl) (Nat.le_of_ble_eq_true rfl) ?_
  show Wp M_m_exactRank 0 [.ref 8, .int (nI i), .null, .null] [] _ _
  have hk0 : ∀ j, j ≤ q → ∀ (b : Nat), b = cntB (fun j => t j && bef (S.1 46 j) (S.1 44 j) (S.1 46 i) (S.1 44 i)) j → Wp M_m_exactRank 4 [.ref 8, .int (nI i), .int (nI b), .int (nI j)] [] S (fun v9 S' => v9 = some (.int (nI (rkB t (S.1 46) (S.1 44) q i))) ∧ S' = S) := by
    refine loopUp (q) (fun j hk9 hn9 => ?_)
    intro b hb
    have hbl := cntB_le (fun j => t j && bef (S.1 46 j) (S.1 44 j) (S.1 46 i) (S.1 44 i)) j
    refine w_iload_n d_m_exactRank_4 rfl ?_
    refine w_aload_n d_m_exactRank_5 rfl ?_
    refine w_getIV (v := (nI q)) d_m_exactRank_6 FL_m_185 (by decide) (rfl) (rfl) (hq) ?_
    refine w_icmp_geN 80 d_m_exactRank_9 (by decide) (by omega) (by omega) (fun h9 => ?_) (fun h9 => ?_)
    · refine w_iload_n d_m_exactRank_80 rfl ?_
      refine w_iret (st := []) rfl d_m_exactRank_81 ?_
      obtain rfl : j = q := by omega
      exact ⟨by rw [hb]; rfl, rfl⟩
    · refine w_iload_n d_m_exactRank_12 rfl ?_
      refine w_aload_n d_m_exactRank_13 rfl ?_
      refine w_getR d_m_exactRank_14 FL_m_74 (by decide) (rfl) (rfl) ?_
      refine w_iload_n d_m_exactRank_17 rfl ?_
      refine w_baldNV (v := (bI ((t j)))) d_m_exactRank_18 (by decide) (rfl) (show j < 20 from (by omega)) (ht j h9) ?_
      refine w_if_eqB 71 d_m_exactRank_19 (by decide) (fun h19 => ?_) (fun h19 => ?_)
      · refine w_iconst (v := nI 0) d_m_exactRank_71 (by decide +kernel) ?_
        refine w_iaddN d_m_exactRank_72 ?_
        refine w_istore_n d_m_exactRank_73 (Nat.le_of_ble_eq_true rfl) ?_
        refine w_iincN d_m_exactRank_74 rfl ?_
        refine w_goto 4 d_m_exactRank_77 (by decide) ?_
        exact hn9 h9 _ (by rw [cntB_s0 (show (fun j => t j && bef (S.1 46 j) (S.1 44 j) (S.1 46 i) (S.1 44 i)) j = false by show (t j && _) = false; rw [h19]; rfl), hb]; rfl)
      · refine w_aload_n d_m_exactRank_22 rfl ?_
        refine w_getR d_m_exactRank_23 FL_m_71 (by decide) (rfl) (rfl) ?_
        refine w_iload_n d_m_exactRank_26 rfl ?_
        refine w_ialdN d_m_exactRank_27 (by decide) (rfl) (show j < 20 from (by omega)) ?_
        refine w_aload_n d_m_exactRank_28 rfl ?_
        refine w_getR d_m_exactRank_29 FL_m_71 (by decide) (rfl) (rfl) ?_
        refine w_iload_n d_m_exactRank_32 rfl ?_
        refine w_ialdN d_m_exactRank_33 (by decide) (rfl) (show i < 20 from (by omega)) ?_
        refine w_icmp_lt 67 d_m_exactRank_34 (by decide) (fun h34 => ?_) (fun h34 => ?_)
        · refine w_iconst (v := nI 1) d_m_exactRank_67 (by decide +kernel) ?_
          refine w_goto 72 d_m_exactRank_68 (by decide) ?_
          refine w_iaddN d_m_exactRank_72 ?_
          refine w_istore_n d_m_exactRank_73 (Nat.le_of_ble_eq_true rfl) ?_
          refine w_iincN d_m_exactRank_74 rfl ?_
          refine w_goto 4 d_m_exactRank_77 (by decide) ?_
          exact hn9 h9 _ (by rw [cntB_s1 (show (fun j => t j && bef (S.1 46 j) (S.1 44 j) (S.1 46 i) (S.1 44 i)) j = true by show (t j && _) = true; rw [h19]; exact decide_eq_true (Or.inl h34)), hb])
        · refine w_aload_n d_m_exactRank_37 rfl ?_
          refine w_getR d_m_exactRank_38 FL_m_71 (by decide) (rfl) (rfl) ?_
          refine w_iload_n d_m_exactRank_41 rfl ?_
          refine w_ialdN d_m_exactRank_42 (by decide) (rfl) (show j < 20 from (by omega)) ?_
          refine w_aload_n d_m_exactRank_43 rfl ?_
          refine w_getR d_m_exactRank_44 FL_m_71 (by decide) (rfl) (rfl) ?_
          refine w_iload_n d_m_exactRank_47 rfl ?_
          refine w_ialdN d_m_exactRank_48 (by decide) (rfl) (show i < 20 from (by omega)) ?_
          refine w_icmp_ne 71 d_m_exactRank_49 (by decide) (fun h49 => ?_) (fun h49 => ?_)
          · refine w_iconst (v := nI 0) d_m_exactRank_71 (by decide +kernel) ?_
            refine w_iaddN d_m_exactRank_72 ?_
            refine w_istore_n d_m_exactRank_73 (Nat.le_of_ble_eq_true rfl) ?_
            refine w_iincN d_m_exactRank_74 rfl ?_
            refine w_goto 4 d_m_exactRank_77 (by decide) ?_
            exact hn9 h9 _ (by rw [cntB_s0 (show (fun j => t j && bef (S.1 46 j) (S.1 44 j) (S.1 46 i) (S.1 44 i)) j = false by show (t j && _) = false; rw [h19]; exact decide_eq_false (fun z => z.elim h34 (fun z => h49 z.1))), hb]; rfl)
          · refine w_aload_n d_m_exactRank_52 rfl ?_
            refine w_getR d_m_exactRank_53 FL_m_65 (by decide) (rfl) (rfl) ?_
            refine w_iload_n d_m_exactRank_56 rfl ?_
            refine w_ialdN d_m_exactRank_57 (by decide) (rfl) (show j < 20 from (by omega)) ?_
            refine w_aload_n d_m_exactRank_58 rfl ?_
            refine w_getR d_m_exactRank_59 FL_m_65 (by decide) (rfl) (rfl) ?_
            refine w_iload_n d_m_exactRank_62 rfl ?_
            refine w_ialdN d_m_exactRank_63 (by decide) (rfl) (show i < 20 from (by omega)) ?_
            refine w_icmp_ge 71 d_m_exactRank_64 (by decide) (fun h64 => ?_) (fun h64 => ?_)
            · refine w_iconst (v := nI 0) d_m_exactRank_71 (by decide +kernel) ?_
              refine w_iaddN d_m_exactRank_72 ?_
              refine w_istore_n d_m_exactRank_73 (Nat.le_of_ble_eq_true rfl) ?_
              refine w_iincN d_m_exactRank_74 rfl ?_
              refine w_goto 4 d_m_exactRank_77 (by decide) ?_
              exact hn9 h9 _ (by rw [cntB_s0 (show (fun j => t j && bef (S.1 46 j) (S.1 44 j) (S.1 46 i) (S.1 44 i)) j = false by show (t j && _) = false; rw [h19]; exact decide_eq_false (fun z => z.elim h34 (fun z => absurd z.2 (Int32.not_lt.mpr h64)))), hb]; rfl)
            · refine w_iconst (v := nI 1) d_m_exactRank_67 (by decide +kernel) ?_
              refine w_goto 72 d_m_exactRank_68 (by decide) ?_
              refine w_iaddN d_m_exactRank_72 ?_
              refine w_istore_n d_m_exactRank_73 (Nat.le_of_ble_eq_true rfl) ?_
              refine w_iincN d_m_exactRank_74 rfl ?_
              refine w_goto 4 d_m_exactRank_77 (by decide) ?_
              exact hn9 h9 _ (by rw [cntB_s1 (show (fun j => t j && bef (S.1 46 j) (S.1 44 j) (S.1 46 i) (S.1 44 i)) j = true by show (t j && _) = true; rw [h19]; exact decide_eq_true (Or.inr ⟨h49, Int32.not_le.mp h64⟩)), hb])
  refine w_iconst (v := nI 0) d_m_exactRank_0 (by decide +kernel) ?_
  refine w_istore_n d_m_exactRank_1 (Nat.le_of_ble_eq_true rfl) ?_
  refine w_iconst (v := nI 0) d_m_exactRank_2 (by decide +kernel) ?_
  refine w_istore_n d_m_exactRank_3 (Nat.le_of_ble_eq_true rfl) ?_
  exact hk0 0 (by omega) 0 rfl
