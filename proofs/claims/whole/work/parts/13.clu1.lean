/-! Clustering, as numbers: items x i k (n of them, w wide), centres C c k (m of them). -/
def farI (d : Nat → Int32) : Nat → Nat × Int32
  | 0 => (0, -1)
  | i + 1 => if (farI d i).2 < d i then (i, d i) else farI d i
theorem farI_congr {d e : Nat → Int32} : ∀ {n : Nat}, (∀ i, i < n → d i = e i) → farI d n = farI e n
  | 0, _ => rfl
  | n + 1, h => by
    show (if (farI d n).2 < d n then (n, d n) else farI d n) = (if (farI e n).2 < e n then (n, e n) else farI e n)
    rw [farI_congr (fun i hi => h i (by omega)), h n (by omega)]
theorem farI_lt {d : Nat → Int32} : ∀ {n : Nat}, 0 < n → (farI d n).1 < n
  | 0, h => absurd h (by omega)
  | n + 1, _ => by
    show (if (farI d n).2 < d n then (n, d n) else farI d n).1 < n + 1
    split
    · exact Nat.lt_succ_self n
    · cases n with
      | zero => exact Nat.one_pos
      | succ n => exact Nat.lt_trans (farI_lt (Nat.succ_pos n)) (Nat.lt_succ_self _)
/-- the nearest of the first m centres -/
def nrC (C x : Nat → Nat → Int32) (w m i : Nat) : Nat := near (fun c => dst (C c) (x i) w) m
theorem nrC_lt {C x : Nat → Nat → Int32} {w m i : Nat} (h : 0 < m) : nrC C x w m i < m := near_lt _ _ h
theorem nrC_congr {C D x y : Nat → Nat → Int32} {w m i : Nat} (hC : ∀ c, c < m → ∀ k, k < w → C c k = D c k) (hx : ∀ k, k < w → x i k = y i k) : nrC C x w m i = nrC D y w m i := near_congr (fun c hc => dst_congr (hC c hc) hx)
/-- the distance of an item to the nearest of the first m centres -/
def ndC (C x : Nat → Nat → Int32) (w m i : Nat) : Int32 := dst (C (nrC C x w m i)) (x i) w
theorem ndC_congr {C D x y : Nat → Nat → Int32} {w m i : Nat} (h0 : 0 < m) (hC : ∀ c, c < m → ∀ k, k < w → C c k = D c k) (hx : ∀ k, k < w → x i k = y i k) : ndC C x w m i = ndC D y w m i := by
  unfold ndC
  rw [nrC_congr hC hx]
  exact dst_congr (hC _ (nrC_lt h0)) hx
/-- the centres that are chosen first -/
def chC (x : Nat → Nat → Int32) (n w : Nat) : Nat → Nat → Nat → Int32
  | 0 => fun _ _ => 0
  | m + 1 => fun c k => if c = m then x (if m = 0 then 0 else (farI (ndC (chC x n w m) x w m) n).1) k else chC x n w m c k
theorem chC_congr {x y : Nat → Nat → Int32} {n w : Nat} (hn : 0 < n) (h : ∀ i, i < n → ∀ k, k < w → x i k = y i k) : ∀ (m c k : Nat), k < w → chC x n w m c k = chC y n w m c k
  | 0, _, _, _ => rfl
  | m + 1, c, k, hk => by
    show (if c = m then x (if m = 0 then 0 else (farI (ndC (chC x n w m) x w m) n).1) k else chC x n w m c k) = (if c = m then y (if m = 0 then 0 else (farI (ndC (chC y n w m) y w m) n).1) k else chC y n w m c k)
    by_cases hm : m = 0
    · rw [if_pos hm, if_pos hm, h 0 hn k hk, chC_congr hn h m c k hk]
    · rw [if_neg hm, if_neg hm, farI_congr (fun i hi => ndC_congr (by omega) (fun c _ k hk => chC_congr hn h m c k hk) (h i hi)), h _ (farI_lt hn) k hk, chC_congr hn h m c k hk]
def memC (f : Nat → Nat) (c : Nat) : Nat → Nat
  | 0 => 0
  | i + 1 => memC f c i + if f i = c then 1 else 0
theorem memC_le (f : Nat → Nat) (c : Nat) : ∀ n, memC f c n ≤ n
  | 0 => Nat.le_refl 0
  | n + 1 => by
    have := memC_le f c n
    show memC f c n + (if f n = c then 1 else 0) ≤ n + 1
    split <;> omega
theorem memC_congr {f g : Nat → Nat} {c : Nat} : ∀ {n : Nat}, (∀ i, i < n → f i = g i) → memC f c n = memC g c n
  | 0, _ => rfl
  | n + 1, h => by
    show memC f c n + (if f n = c then 1 else 0) = memC g c n + (if g n = c then 1 else 0)
    rw [memC_congr (fun i hi => h i (by omega)), h n (by omega)]
def sumC (f : Nat → Nat) (x : Nat → Nat → Int32) (c k : Nat) : Nat → Int32
  | 0 => 0
  | i + 1 => if f i = c then sumC f x c k i + x i k else sumC f x c k i
theorem sumC_congr {f g : Nat → Nat} {x y : Nat → Nat → Int32} {c k : Nat} : ∀ {n : Nat}, (∀ i, i < n → f i = g i) → (∀ i, i < n → x i k = y i k) → sumC f x c k n = sumC g y c k n
  | 0, _, _ => rfl
  | n + 1, h, hx => by
    show (if f n = c then sumC f x c k n + x n k else sumC f x c k n) = (if g n = c then sumC g y c k n + y n k else sumC g y c k n)
    rw [sumC_congr (fun i hi => h i (by omega)) (fun i hi => hx i (by omega)), h n (by omega), hx n (by omega)]
/-- the means of the members, where there are any -/
def mnC (f : Nat → Nat) (x C : Nat → Nat → Int32) (n c k : Nat) : Int32 := if 0 < memC f c n then fdv (sumC f x c k n) (nI (memC f c n)) else C c k
/-- the first greatest share -/
def gst (s : Nat → Nat) : Nat → Nat
  | 0 => 0
  | n + 1 => if s (gst s n) < s n then n else gst s n
theorem gst_lt (s : Nat → Nat) : ∀ n, 0 < n → gst s n < n
  | 0, h => absurd h (by omega)
  | 1, _ => by show (if s 0 < s 0 then 0 else 0) < 1; split <;> decide
  | n + 2, _ => by
    have := gst_lt s (n + 1) (by omega)
    show (if s (gst s (n + 1)) < s (n + 1) then n + 1 else gst s (n + 1)) < n + 2
    split <;> omega
theorem gst_1 (s : Nat → Nat) : gst s 1 = 0 := by show (if s 0 < s 0 then 0 else 0) = 0; split <;> rfl
theorem gst_congr {s t : Nat → Nat} : ∀ {n : Nat}, (∀ c, c < n → s c = t c) → gst s n = gst t n
  | 0, _ => rfl
  | 1, _ => by rw [gst_1, gst_1]
  | n + 2, h => by
    have ih := gst_congr (n := n + 1) (fun c hc => h c (by omega))
    have hl := gst_lt t (n + 1) (by omega)
    show (if s (gst s (n + 1)) < s (n + 1) then n + 1 else gst s (n + 1)) = (if t (gst t (n + 1)) < t (n + 1) then n + 1 else gst t (n + 1))
    rw [ih, h (n + 1) (by omega), h _ (by omega)]
/-- an empty centre e is split off the centre b -/
def spl (q : (Nat → Nat → Int32) × (Nat → Nat)) (e b : Nat) : (Nat → Nat → Int32) × (Nat → Nat) :=
  (fun c k => if c = e then q.1 b k + (if k = 0 then 1 else 0) else q.1 c k, fun c => if c = e then q.2 b / 2 else if c = b then q.2 b - q.2 b / 2 else q.2 c)
/-- the centres without members below e are filled -/
def fil (C : Nat → Nat → Int32) (mem : Nat → Nat) (m : Nat) : Nat → (Nat → Nat → Int32) × (Nat → Nat)
  | 0 => (C, mem)
  | e + 1 => if mem e = 0 then spl (fil C mem m e) e (gst (fil C mem m e).2 m) else fil C mem m e
theorem fil_le {C : Nat → Nat → Int32} {mem : Nat → Nat} {m n : Nat} (h : ∀ c, mem c ≤ n) : ∀ e c, (fil C mem m e).2 c ≤ n
  | 0, c => h c
  | e + 1, c => by
    have ih := fil_le (C := C) (m := m) h e
    show (if mem e = 0 then spl (fil C mem m e) e (gst (fil C mem m e).2 m) else fil C mem m e).2 c ≤ n
    split
    · show (if c = e then (fil C mem m e).2 (gst (fil C mem m e).2 m) / 2 else if c = gst (fil C mem m e).2 m then (fil C mem m e).2 (gst (fil C mem m e).2 m) - (fil C mem m e).2 (gst (fil C mem m e).2 m) / 2 else (fil C mem m e).2 c) ≤ n
      have h1 := ih (gst (fil C mem m e).2 m)
      have h2 := ih c
      split
      · omega
      · split <;> omega
    · exact ih c
theorem fil_0 {C : Nat → Nat → Int32} {mem : Nat → Nat} {m : Nat} : ∀ e c, e ≤ c → mem c = 0 → (fil C mem m e).2 c = 0
  | 0, c, _, h => h
  | e + 1, c, hc, h => by
    have ih := fil_0 (C := C) (m := m) e c (by omega) h
    show (if mem e = 0 then spl (fil C mem m e) e (gst (fil C mem m e).2 m) else fil C mem m e).2 c = 0
    split
    · show (if c = e then _ else if c = gst (fil C mem m e).2 m then (fil C mem m e).2 (gst (fil C mem m e).2 m) - (fil C mem m e).2 (gst (fil C mem m e).2 m) / 2 else (fil C mem m e).2 c) = 0
      rw [if_neg (by omega)]
      split
      · rename_i hb
        rw [← hb, ih]
      · exact ih
    · exact ih
theorem fil_congr {C D : Nat → Nat → Int32} {mem nem : Nat → Nat} {m w : Nat} (h0 : 0 < m) (hC : ∀ c, c < m → ∀ k, k < w → C c k = D c k) (hm : ∀ c, c < m → mem c = nem c) : ∀ e, e ≤ m → (∀ c, c < m → ∀ k, k < w → (fil C mem m e).1 c k = (fil D nem m e).1 c k) ∧ ∀ c, c < m → (fil C mem m e).2 c = (fil D nem m e).2 c
  | 0, _ => ⟨hC, hm⟩
  | e + 1, he => by
    obtain ⟨i1, i2⟩ := fil_congr h0 hC hm e (by omega)
    have hg := gst_congr i2
    have hgl := gst_lt (fil D nem m e).2 m h0
    have e1 : fil C mem m (e + 1) = if mem e = 0 then spl (fil C mem m e) e (gst (fil C mem m e).2 m) else fil C mem m e := rfl
    have e2 : fil D nem m (e + 1) = if nem e = 0 then spl (fil D nem m e) e (gst (fil D nem m e).2 m) else fil D nem m e := rfl
    rw [e1, e2, hm e (by omega), hg]
    by_cases h : nem e = 0
    · rw [if_pos h, if_pos h]
      refine ⟨fun c hc k hk => ?_, fun c hc => ?_⟩
      · show (if c = e then (fil C mem m e).1 _ k + _ else (fil C mem m e).1 c k) = (if c = e then (fil D nem m e).1 _ k + _ else (fil D nem m e).1 c k)
        rw [i1 _ hgl k hk, i1 c hc k hk]
      · show (if c = e then (fil C mem m e).2 _ / 2 else if c = _ then (fil C mem m e).2 _ - (fil C mem m e).2 _ / 2 else (fil C mem m e).2 c) = (if c = e then (fil D nem m e).2 _ / 2 else if c = _ then (fil D nem m e).2 _ - (fil D nem m e).2 _ / 2 else (fil D nem m e).2 c)
        rw [i2 _ hgl, i2 c hc]
    · rw [if_neg h, if_neg h]
      exact ⟨i1, i2⟩
/-- one round -/
def rnd (x : Nat → Nat → Int32) (n w m : Nat) (C : Nat → Nat → Int32) : Nat → Nat → Int32 := (fil (mnC (nrC C x w m) x C n) (fun c => memC (nrC C x w m) c n) m m).1
theorem rnd_congr {x y C D : Nat → Nat → Int32} {n w m : Nat} (h0 : 0 < m) (hx : ∀ i, i < n → ∀ k, k < w → x i k = y i k) (hC : ∀ c, c < m → ∀ k, k < w → C c k = D c k) : ∀ c, c < m → ∀ k, k < w → rnd x n w m C c k = rnd y n w m D c k := by
  have hf : ∀ i, i < n → nrC C x w m i = nrC D y w m i := fun i hi => nrC_congr hC (hx i hi)
  refine (fil_congr h0 (fun c hc k hk => ?_) (fun c _ => memC_congr hf) m (Nat.le_refl m)).1
  unfold mnC
  rw [memC_congr hf, sumC_congr hf (fun i hi => hx i hi k hk), hC c hc k hk]
def clu (x : Nat → Nat → Int32) (n w m : Nat) : Nat → Nat → Nat → Int32
  | 0 => chC x n w m
  | r + 1 => rnd x n w m (clu x n w m r)
theorem clu_congr {x y : Nat → Nat → Int32} {n w m : Nat} (hn : 0 < n) (h0 : 0 < m) (hx : ∀ i, i < n → ∀ k, k < w → x i k = y i k) : ∀ (r c : Nat), c < m → ∀ k, k < w → clu x n w m r c k = clu y n w m r c k
  | 0, c, _, k, hk => chC_congr hn hx m c k hk
  | r + 1, c, hc, k, hk => rnd_congr h0 hx (fun c hc k hk => clu_congr hn h0 hx r c hc k hk) c hc k hk
/-- what the clustering may write besides its fields -/
def FrC (S S' : St) : Prop := S'.2 = S.2 ∧ ∀ a i, ¬ (a = 14 ∨ a = 15 ∨ (96 ≤ a ∧ a < 104)) → S'.1 a i = S.1 a i
theorem FrC.rf (S : St) : FrC S S := ⟨rfl, fun _ _ _ => rfl⟩
theorem FrC.tr {S S1 S2 : St} (h : FrC S S1) (h2 : FrC S1 S2) : FrC S S2 := ⟨h2.1.trans h.1, fun a i q => (h2.2 a i q).trans (h.2 a i q)⟩
theorem FrC.put {S S1 : St} {c i : Nat} {v : Int32} (h : FrC S S1) (hc : c = 14 ∨ c = 15 ∨ (96 ≤ c ∧ c < 104)) : FrC S (put S1 c i v) := ⟨h.1, fun a j q => (put_ne (c := c) (i := i) (c' := a) (i' := j) (fun z => q (by rw [z.1]; exact hc))).trans (h.2 a j q)⟩
theorem FrC.row {S S1 : St} {c n : Nat} {f : Nat → Int32} (h : FrC S S1) (hc : c = 14 ∨ c = 15 ∨ (96 ≤ c ∧ c < 104)) : FrC S (setRow S1 c f n) := ⟨h.1, fun a j q => (setRow_ne (c := c) (d := a) (fun z => q (by rw [z]; exact hc))).trans (h.2 a j q)⟩
/-- the clustering's fields and its sizes -/
def CF (S : St) (n fr w m : Nat) : Prop := S.1 3 5 = nI n ∧ S.1 3 6 = nI fr ∧ S.1 3 7 = nI w ∧ S.1 3 8 = nI m ∧ 0 < n ∧ n ≤ 24 ∧ fr + w ≤ 4 ∧ 0 < w ∧ 0 < m ∧ m ≤ 4
theorem CF.keep {S S1 : St} {n fr w m : Nat} (h : CF S n fr w m) (h1 : FrC S S1) : CF S1 n fr w m := by
  unfold CF
  rw [h1.2 3 5 (by omega), h1.2 3 6 (by omega), h1.2 3 7 (by omega), h1.2 3 8 (by omega)]
  exact h
def itm (S : St) (fr : Nat) : Nat → Nat → Int32 := fun i k => S.1 (72 + i) (fr + k)
def cen (S : St) : Nat → Nat → Int32 := fun c k => S.1 (96 + c) k
theorem itm_keep {S S1 : St} {fr : Nat} (h1 : FrC S S1) {i : Nat} (hi : i < 24) (k : Nat) : itm S1 fr i k = itm S fr i k := h1.2 _ _ (by omega)
set_option maxRecDepth 100000 in
set_option maxHeartbeats 4000000 in
theorem c_c_beginCentre (S : St) (n fr w m : Nat) (hF : CF S n fr w m) (c i : Nat) (hc : c < 4) (hi : i < 24) : Ev M_c_beginCentre [.ref 3, .int (nI c), .int (nI i)] S (fun v9 S' => v9 = none ∧ S' = setRow S (96 + c) (itm S fr i) w) := by
  refine Ev.of MF_c_beginCentre (all_cat rfl) (Nat.le_of_ble_eq_true rfl) ?_
  show Wp M_c_beginCentre 0 [.ref 3, .int (nI c), .int (nI i), .null] [] _ _
  have hF0 := hF
  obtain ⟨hn, hfr, hw, hm, hn0, hn24, hfw, hw0, hm0, hm4⟩ := hF
  have hk0 : ∀ k, k ≤ w → ∀ (S1 : St), S1 = setRow S (96 + c) (itm S fr i) k → Wp M_c_beginCentre 2 [.ref 3, .int (nI c), .int (nI i), .int (nI k)] [] S1 (fun v9 S' => v9 = none ∧ S' = setRow S (96 + c) (itm S fr i) w) := by
    refine loopUp (w) (fun k hk9 hn9 => ?_)
    intro S1 hS
    have e3 : ∀ j, S1.1 3 j = S.1 3 j := fun j => by rw [hS, setRow_ne (by omega)]
    have ei : S1.1 (72 + i) (fr + k) = itm S fr i k := by rw [hS, setRow_ne (by omega)]; rfl
    refine w_iload_n d_c_beginCentre_2 rfl ?_
    refine w_aload_n d_c_beginCentre_3 rfl ?_
    refine w_getIV (v := (nI w)) d_c_beginCentre_4 FL_c_33 (by decide) (rfl) (rfl) ((e3 7).trans hw) ?_
    refine w_icmp_geN 37 d_c_beginCentre_7 (by decide) (by omega) (by omega) (fun h7 => ?_) (fun h7 => ?_)
    · refine w_ret (st := []) rfl d_c_beginCentre_37 ?_
      obtain rfl : k = w := by omega
      exact ⟨rfl, hS⟩
    · refine w_aload_n d_c_beginCentre_10 rfl ?_
      refine w_getR d_c_beginCentre_11 FL_c_16 (by decide) (rfl) (rfl) ?_
      refine w_iload_n d_c_beginCentre_14 rfl ?_
      refine w_aaldN d_c_beginCentre_15 (by decide) (rfl) (show c < 4 from (by omega)) ?_
      show Wp _ _ _ (.ref (96 + c) :: _) _ _
      refine w_iload_n d_c_beginCentre_16 rfl ?_
      refine w_aload_n d_c_beginCentre_17 rfl ?_
      refine w_getR d_c_beginCentre_18 FL_c_11 (by decide) (rfl) (rfl) ?_
      refine w_iload_n d_c_beginCentre_21 rfl ?_
      refine w_aaldN d_c_beginCentre_22 (by decide) (rfl) (show i < 24 from (by omega)) ?_
      show Wp _ _ _ (.ref (72 + i) :: _) _ _
      refine w_aload_n d_c_beginCentre_23 rfl ?_
      refine w_getIV (v := (nI fr)) d_c_beginCentre_24 FL_c_29 (by decide) (rfl) (rfl) ((e3 6).trans hfr) ?_
      show Wp _ 27 _ _ _ _
      refine w_iload_n d_c_beginCentre_27 rfl ?_
      refine w_iaddN d_c_beginCentre_28 ?_
      refine w_ialdNV (v := ((itm S fr i k))) d_c_beginCentre_29 (by omega) (kd_row72 (by omega)) (show fr + k < ln (72 + i) by rw [ln_row72 (by omega)]; omega) (ei) ?_
      refine w_iastNP d_c_beginCentre_30 (by omega) (kd_row96 (by omega)) (show k < ln (96 + c) by rw [ln_row96 (by omega)]; omega) ?_
      refine w_iincN d_c_beginCentre_31 rfl ?_
      refine w_goto 2 d_c_beginCentre_34 (by decide) ?_
      refine hn9 h7 _ ?_
      rw [hS]
      exact setRow_s rfl
  refine w_iconst (v := nI 0) d_c_beginCentre_0 (by decide +kernel) ?_
  refine w_istore_n d_c_beginCentre_1 (Nat.le_of_ble_eq_true rfl) ?_
  exact hk0 0 (by omega) _ (setRow_0 _ _ _).symm
theorem c_nr (S : St) (fr w m i : Nat) (hfw : fr + w ≤ 4) (hm0 : 0 < m) (hm4 : m ≤ 4) (hi : i < 24) : Ev M_q_nearestRow [.ref 12, .int (nI 0), .int (nI m), .ref (72 + i), .int (nI fr), .int (nI w)] S (fun v9 S' => v9 = some (.int (nI (nrC (cen S) (itm S fr) w m i))) ∧ S' = S) := by
  have h := c_q_nearestRow S 12 0 m (72 + i) fr w (by decide) (by decide) (show 0 + m ≤ 4 by omega) hm0 (by omega) (fun j hj => ⟨show 96 + (0 + j) < 204 by omega, by show kd (96 + (0 + j)) = 0; exact kd_row96 (by omega), by show w ≤ ln (96 + (0 + j)); rw [ln_row96 (by omega)]; omega⟩) (by omega) (kd_row72 hi) (by rw [ln_row72 hi]; exact hfw) (by omega)
  simp only [Nat.zero_add] at h
  exact h
theorem c_ds (S : St) (fr w c i : Nat) (hfw : fr + w ≤ 4) (hc : c < 4) (hi : i < 24) : Ev M_q_distance [.ref (96 + c), .ref (72 + i), .int (nI fr), .int (nI w)] S (fun v9 S' => v9 = some (.int (dst (cen S c) (itm S fr i) w)) ∧ S' = S) := c_q_distance S (96 + c) (72 + i) fr w (by omega) (kd_row96 hc) (by rw [ln_row96 hc]; omega) (by omega) (kd_row72 hi) (by rw [ln_row72 hi]; exact hfw) (by omega)
set_option maxRecDepth 100000 in
set_option maxHeartbeats 4000000 in
theorem c_c_farthestItem (S : St) (n fr w m : Nat) (hF : CF S n fr w m) (q : Nat) (hq0 : 0 < q) (hq4 : q ≤ 4) : Ev M_c_farthestItem [.ref 3, .int (nI q)] S (fun v9 S' => v9 = some (.int (nI (farI (ndC (cen S) (itm S fr) w q) n).1)) ∧ S' = S) := by
  refine Ev.of MF_c_farthestItem (all_cat rfl) (Nat.le_of_ble_eq_true rfl) ?_
  show Wp M_c_farthestItem 0 [.ref 3, .int (nI q), .null, .null, .null, .null, .null] [] _ _
  obtain ⟨hn, hfr, hw, hm, hn0, hn24, hfw, hw0, hm0, hm4⟩ := hF
  have hk0 : ∀ k, k ≤ n → ∀ (b : Nat) (v : Int32) (x5 : Value) (x6 : Value), (b, v) = farI (ndC (cen S) (itm S fr) w q) k → Wp M_c_farthestItem 7 [.ref 3, .int (nI q), .int (nI b), .int v, .int (nI k), x5, x6] [] S (fun v9 S' => v9 = some (.int (nI (farI (ndC (cen S) (itm S fr) w q) n).1)) ∧ S' = S) := by
    refine loopUp (n) (fun k hk9 hn9 => ?_)
    intro b v x5 x6 hb
    have hnq := nrC_lt (C := cen S) (x := itm S fr) (w := w) (i := k) hq0
    refine w_iload d_c_farthestItem_7 rfl ?_
    refine w_aload_n d_c_farthestItem_9 rfl ?_
    refine w_getIV (v := (nI n)) d_c_farthestItem_10 FL_c_51 (by decide) (rfl) (rfl) (hn) ?_
    refine w_icmp_geN 87 d_c_farthestItem_13 (by decide) (by omega) (by omega) (fun h13 => ?_) (fun h13 => ?_)
    · refine w_iload_n d_c_farthestItem_87 rfl ?_
      refine w_iret (st := []) rfl d_c_farthestItem_88 ?_
      obtain rfl : k = n := by omega
      exact ⟨by rw [← hb], rfl⟩
    · refine w_aload_n d_c_farthestItem_16 rfl ?_
      refine w_getR d_c_farthestItem_17 FL_c_16 (by decide) (rfl) (rfl) ?_
      refine w_iconst (v := nI 0) d_c_farthestItem_20 (by decide +kernel) ?_
      refine w_iload_n d_c_farthestItem_21 rfl ?_
      refine w_aload_n d_c_farthestItem_22 rfl ?_
      refine w_getR d_c_farthestItem_23 FL_c_11 (by decide) (rfl) (rfl) ?_
      refine w_iload d_c_farthestItem_26 rfl ?_
      refine w_aaldN d_c_farthestItem_28 (by decide) (rfl) (show k < 24 from (by omega)) ?_
      show Wp _ _ _ (.ref (72 + k) :: _) _ _
      refine w_aload_n d_c_farthestItem_29 rfl ?_
      refine w_getIV (v := (nI fr)) d_c_farthestItem_30 FL_c_29 (by decide) (rfl) (rfl) (hfr) ?_
      refine w_aload_n d_c_farthestItem_33 rfl ?_
      show Wp _ 34 _ _ _ _
      refine w_getIV (v := (nI w)) d_c_farthestItem_34 FL_c_33 (by decide) (rfl) (rfl) (hw) ?_
      refine w_callS6 (N := M_q_nearestRow) d_c_farthestItem_37 LK_c_71 MF_q_nearestRow MS_q_nearestRow NP_q_nearestRow (by decide) rfl (Nat.le_of_ble_eq_true rfl) ?_
      refine Ev.det (c_nr _ _ _ _ _ hfw hq0 hq4 (by omega)) ?_
      refine w_istore d_c_farthestItem_40 (Nat.le_of_ble_eq_true rfl) ?_
      refine w_aload_n d_c_farthestItem_42 rfl ?_
      refine w_getR d_c_farthestItem_43 FL_c_16 (by decide) (rfl) (rfl) ?_
      refine w_iload d_c_farthestItem_46 rfl ?_
      refine w_aaldN d_c_farthestItem_48 (by decide) (rfl) (show nrC (cen S) (itm S fr) w q k < 4 from (by omega)) ?_
      show Wp _ _ _ (.ref (96 + (nrC (cen S) (itm S fr) w q k)) :: _) _ _
      refine w_aload_n d_c_farthestItem_49 rfl ?_
      refine w_getR d_c_farthestItem_50 FL_c_11 (by decide) (rfl) (rfl) ?_
      refine w_iload d_c_farthestItem_53 rfl ?_
      refine w_aaldN d_c_farthestItem_55 (by decide) (rfl) (show k < 24 from (by omega)) ?_
      show Wp _ _ _ (.ref (72 + k) :: _) _ _
      refine w_aload_n d_c_farthestItem_56 rfl ?_
      show Wp _ 57 _ _ _ _
      refine w_getIV (v := (nI fr)) d_c_farthestItem_57 FL_c_29 (by decide) (rfl) (rfl) (hfr) ?_
      refine w_aload_n d_c_farthestItem_60 rfl ?_
      refine w_getIV (v := (nI w)) d_c_farthestItem_61 FL_c_33 (by decide) (rfl) (rfl) (hw) ?_
      refine w_callS4 (N := M_q_distance) d_c_farthestItem_64 LK_c_75 MF_q_distance MS_q_distance NP_q_distance (by decide) rfl (Nat.le_of_ble_eq_true rfl) ?_
      refine Ev.det (c_ds _ _ _ _ _ hfw (by omega) (by omega)) ?_
      refine w_istore d_c_farthestItem_67 (Nat.le_of_ble_eq_true rfl) ?_
      refine w_iload d_c_farthestItem_69 rfl ?_
      refine w_iload_n d_c_farthestItem_71 rfl ?_
      refine w_icmp_le 81 d_c_farthestItem_72 (by decide) (fun h72 => ?_) (fun h72 => ?_)
      · refine w_iincN d_c_farthestItem_81 rfl ?_
        refine w_goto 7 d_c_farthestItem_84 (by decide) ?_
        exact hn9 h13 _ _ _ _ (by show _ = (if (farI (ndC (cen S) (itm S fr) w q) k).2 < (ndC (cen S) (itm S fr) w q) k then (k, (ndC (cen S) (itm S fr) w q) k) else farI (ndC (cen S) (itm S fr) w q) k); rw [← hb]; exact (if_neg (Int32.not_lt.mpr h72)).symm)
      · refine w_iload d_c_farthestItem_75 rfl ?_
        refine w_istore_n d_c_farthestItem_77 (Nat.le_of_ble_eq_true rfl) ?_
        refine w_iload d_c_farthestItem_78 rfl ?_
        refine w_istore_n d_c_farthestItem_80 (Nat.le_of_ble_eq_true rfl) ?_
        refine w_iincN d_c_farthestItem_81 rfl ?_
        refine w_goto 7 d_c_farthestItem_84 (by decide) ?_
        exact hn9 h13 _ _ _ _ (by show _ = (if (farI (ndC (cen S) (itm S fr) w q) k).2 < (ndC (cen S) (itm S fr) w q) k then (k, (ndC (cen S) (itm S fr) w q) k) else farI (ndC (cen S) (itm S fr) w q) k); rw [← hb]; exact (if_pos (Int32.not_le.mp h72)).symm)
  refine w_iconst (v := nI 0) d_c_farthestItem_0 (by decide +kernel) ?_
  refine w_istore_n d_c_farthestItem_1 (Nat.le_of_ble_eq_true rfl) ?_
  refine w_iconst (v := -1) d_c_farthestItem_2 (by decide +kernel) ?_
  refine w_istore_n d_c_farthestItem_3 (Nat.le_of_ble_eq_true rfl) ?_
  refine w_iconst (v := nI 0) d_c_farthestItem_4 (by decide +kernel) ?_
  refine w_istore d_c_farthestItem_5 (Nat.le_of_ble_eq_true rfl) ?_
  exact hk0 0 (by omega) 0 _ _ _ rfl
set_option maxRecDepth 100000 in
set_option maxHeartbeats 4000000 in
theorem c_c_chooseCentres (S : St) (n fr w m : Nat) (hF : CF S n fr w m) : Ev M_c_chooseCentres [.ref 3] S (fun v9 S' => v9 = none ∧ FrC S S' ∧ ∀ c, c < m → ∀ k, k < w → S'.1 (96 + c) k = chC (itm S fr) n w m c k) := by
  refine Ev.of MF_c_chooseCentres (all_cat rfl) (Nat.le_of_ble_eq_true rfl) ?_
  show Wp M_c_chooseCentres 0 [.ref 3, .null] [] _ _
  have hF0 := hF
  obtain ⟨hn, hfr, hw, hm, hn0, hn24, hfw, hw0, hm0, hm4⟩ := hF
  have hk0 : ∀ j, j ≤ m → ∀ (S1 : St), 1 ≤ j → FrC S S1 → (∀ c, c < j → ∀ k, k < w → S1.1 (96 + c) k = (chC (itm S fr) n w j) c k) → Wp M_c_chooseCentres 8 [.ref 3, .int (nI j)] [] S1 (fun v9 S' => v9 = none ∧ FrC S S' ∧ ∀ c, c < m → ∀ k, k < w → S'.1 (96 + c) k = chC (itm S fr) n w m c k) := by
    refine loopUp (m) (fun j hk9 hn9 => ?_)
    intro S1 hj1 h1 h2
    have hF1 := hF0.keep h1
    have hfar : farI (ndC (cen S1) (itm S1 fr) w j) n = farI (ndC (chC (itm S fr) n w j) (itm S fr) w j) n := farI_congr (fun i hi => ndC_congr (by omega) (fun c hc k hk => h2 c hc k hk) (fun k hk => itm_keep h1 (by omega) k))
    have hfl := farI_lt (d := ndC (cen S1) (itm S1 fr) w j) hn0
    refine w_iload_n d_c_chooseCentres_8 rfl ?_
    refine w_aload_n d_c_chooseCentres_9 rfl ?_
    refine w_getIV (v := (nI m)) d_c_chooseCentres_10 FL_c_36 (by decide) (rfl) (rfl) (hF1.2.2.2.1) ?_
    refine w_icmp_geN 32 d_c_chooseCentres_13 (by decide) (by omega) (by omega) (fun h13 => ?_) (fun h13 => ?_)
    · refine w_ret (st := []) rfl d_c_chooseCentres_32 ?_
      obtain rfl : j = m := by omega
      exact ⟨rfl, h1, h2⟩
    · refine w_aload_n d_c_chooseCentres_16 rfl ?_
      refine w_iload_n d_c_chooseCentres_17 rfl ?_
      refine w_aload_n d_c_chooseCentres_18 rfl ?_
      refine w_iload_n d_c_chooseCentres_19 rfl ?_
      refine w_callV1 (N := M_c_farthestItem) d_c_chooseCentres_20 LK_c_67 MF_c_farthestItem MV_c_farthestItem NP_c_farthestItem (by decide) (by decide) (rfl) rfl rfl (Nat.le_of_ble_eq_true rfl) ?_
      refine Ev.det (c_c_farthestItem S1 n fr w m hF1 _ (by omega) (by omega)) ?_
      refine w_callV2 (N := M_c_beginCentre) d_c_chooseCentres_23 LK_c_63 MF_c_beginCentre MV_c_beginCentre NP_c_beginCentre (by decide) (by decide) (rfl) rfl rfl (Nat.le_of_ble_eq_true rfl) ?_
      refine Ev.det (c_c_beginCentre S1 n fr w m hF1 _ _ (by omega) (by omega)) ?_
      refine w_iincN d_c_chooseCentres_26 rfl ?_
      refine w_goto 8 d_c_chooseCentres_29 (by decide) ?_
      refine hn9 h13 _ (by omega) (h1.row (by omega)) ?_
      intro c hc k hk
      show _ = (if c = j then itm S fr (if j = 0 then 0 else (farI (ndC (chC (itm S fr) n w j) (itm S fr) w j) n).1) k else (chC (itm S fr) n w j) c k)
      by_cases hcj : c = j
      · subst hcj
        rw [setRow_at hk, if_pos rfl, if_neg (by omega), itm_keep h1 (by omega), hfar]
      · rw [setRow_ne (by omega), if_neg hcj, h2 c (by omega) k hk]
  refine w_aload_n d_c_chooseCentres_0 rfl ?_
  refine w_iconst (v := nI 0) d_c_chooseCentres_1 (by decide +kernel) ?_
  refine w_iconst (v := nI 0) d_c_chooseCentres_2 (by decide +kernel) ?_
  refine w_callV2 (N := M_c_beginCentre) d_c_chooseCentres_3 LK_c_63 MF_c_beginCentre MV_c_beginCentre NP_c_beginCentre (by decide) (by decide) (rfl) rfl rfl (Nat.le_of_ble_eq_true rfl) ?_
  refine Ev.det (c_c_beginCentre S n fr w m hF0 _ _ (by decide) (by decide)) ?_
  refine w_iconst (v := nI 1) d_c_chooseCentres_6 (by decide +kernel) ?_
  refine w_istore_n d_c_chooseCentres_7 (Nat.le_of_ble_eq_true rfl) ?_
  refine hk0 1 (by omega) _ (Nat.le_refl 1) ((FrC.rf S).row (by omega)) ?_
  intro c hc k hk
  obtain rfl : c = 0 := by omega
  exact setRow_at hk
set_option maxRecDepth 100000 in
set_option maxHeartbeats 4000000 in
theorem c_c_greatestShare (S : St) (n fr w m : Nat) (hF : CF S n fr w m) (s : Nat → Nat) (hs : ∀ c, c < m → S.1 15 c = nI (s c) ∧ s c ≤ 24) : Ev M_c_greatestShare [.ref 3] S (fun v9 S' => v9 = some (.int (nI (gst s m))) ∧ S' = S) := by
  refine Ev.of MF_c_greatestShare (all_cat rfl) (Nat.le_of_ble_eq_true rfl) ?_
  show Wp M_c_greatestShare 0 [.ref 3, .null, .null] [] _ _
  obtain ⟨hn, hfr, hw, hm, hn0, hn24, hfw, hw0, hm0, hm4⟩ := hF
  have hk0 : ∀ j, j ≤ m → ∀ (b : Nat), 1 ≤ j → b = gst s j → Wp M_c_greatestShare 4 [.ref 3, .int (nI b), .int (nI j)] [] S (fun v9 S' => v9 = some (.int (nI (gst s m))) ∧ S' = S) := by
    refine loopUp (m) (fun j hk9 hn9 => ?_)
    intro b hj1 hb
    have hbl := gst_lt s j (by omega)
    refine w_iload_n d_c_greatestShare_4 rfl ?_
    refine w_aload_n d_c_greatestShare_5 rfl ?_
    refine w_getIV (v := (nI m)) d_c_greatestShare_6 FL_c_36 (by decide) (rfl) (rfl) (hm) ?_
    refine w_icmp_geN 35 d_c_greatestShare_9 (by decide) (by omega) (by omega) (fun h9 => ?_) (fun h9 => ?_)
    · refine w_iload_n d_c_greatestShare_35 rfl ?_
      refine w_iret (st := []) rfl d_c_greatestShare_36 ?_
      obtain rfl : j = m := by omega
      exact ⟨by rw [hb], rfl⟩
    · refine w_aload_n d_c_greatestShare_12 rfl ?_
      refine w_getR d_c_greatestShare_13 FL_c_26 (by decide) (rfl) (rfl) ?_
      refine w_iload_n d_c_greatestShare_16 rfl ?_
      refine w_ialdNV (v := (nI (s j))) d_c_greatestShare_17 (by decide) (rfl) (show j < 4 from (by omega)) ((hs j h9).1) ?_
      refine w_aload_n d_c_greatestShare_18 rfl ?_
      refine w_getR d_c_greatestShare_19 FL_c_26 (by decide) (rfl) (rfl) ?_
      refine w_iload_n d_c_greatestShare_22 rfl ?_
      refine w_ialdNV (v := (nI (s b))) d_c_greatestShare_23 (by decide) (rfl) (show b < 4 from (by omega)) ((hs b (by omega)).1) ?_
      have hs1 := (hs j h9).2
      have hs2 := (hs b (by omega)).2
      refine w_icmp_leN 29 d_c_greatestShare_24 (by decide) (by omega) (by omega) (fun h24 => ?_) (fun h24 => ?_)
      · refine w_iincN d_c_greatestShare_29 rfl ?_
        refine w_goto 4 d_c_greatestShare_32 (by decide) ?_
        exact hn9 h9 _ (by omega) (by show _ = (if s (gst s j) < s j then j else gst s j); rw [← hb, if_neg (by omega)])
      · refine w_iload_n d_c_greatestShare_27 rfl ?_
        refine w_istore_n d_c_greatestShare_28 (Nat.le_of_ble_eq_true rfl) ?_
        refine w_iincN d_c_greatestShare_29 rfl ?_
        refine w_goto 4 d_c_greatestShare_32 (by decide) ?_
        exact hn9 h9 _ (by omega) (by show _ = (if s (gst s j) < s j then j else gst s j); rw [← hb, if_pos (by omega)])
  refine w_iconst (v := nI 0) d_c_greatestShare_0 (by decide +kernel) ?_
  refine w_istore_n d_c_greatestShare_1 (Nat.le_of_ble_eq_true rfl) ?_
  refine w_iconst (v := nI 1) d_c_greatestShare_2 (by decide +kernel) ?_
  refine w_istore_n d_c_greatestShare_3 (Nat.le_of_ble_eq_true rfl) ?_
  exact hk0 1 (by omega) 0 (Nat.le_refl 1) (gst_1 s).symm
