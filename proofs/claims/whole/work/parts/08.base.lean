/-! Ground for the contracts: counting loops, booleans, the layout's rows and entries, distances, the nearest of several. -/
theorem loopUp {P : Nat → Prop} (e : Nat) (hs : ∀ k, k ≤ e → (k < e → P (k + 1)) → P k) : ∀ k, k ≤ e → P k := by
  have h : ∀ n k, e - k = n → k ≤ e → P k := by
    intro n
    induction n with
    | zero => intro k h1 h2; exact hs k h2 (fun h => absurd h (by omega))
    | succ n ih => intro k h1 h2; exact hs k h2 (fun h => ih (k + 1) (by omega) (by omega))
  exact fun k hk => h _ k rfl hk
theorem loopDown {P : Nat → Prop} (hs : ∀ k, (0 < k → P (k - 1)) → P k) : ∀ k, P k := by
  intro k
  induction k with
  | zero => exact hs 0 (fun h => absurd h (by omega))
  | succ k ih => exact hs (k + 1) (fun _ => ih)
/-- a write -/
def put (S : St) (c i : Nat) (v : Int32) : St := (up2 S.1 c i v, S.2)
def putT (S : St) (i b : Nat) : St := (S.1, upT S.2 i b)
theorem put_at {S : St} {c i : Nat} {v : Int32} : (put S c i v).1 c i = v := up2_same
theorem put_ne {S : St} {c i c' i' : Nat} {v : Int32} (h : ¬ (c' = c ∧ i' = i)) : (put S c i v).1 c' i' = S.1 c' i' := up2_ne h
theorem put_row {S : St} {c i d : Nat} {v : Int32} (h : d ≠ c) : (put S c i v).1 d = S.1 d := up2_row h
theorem put_T {S : St} {c i : Nat} {v : Int32} : (put S c i v).2 = S.2 := rfl
theorem w_iastNP {M : Mt} {pc : Nat} {L st : List Value} {S : St} {Z : Option Value → St → Prop} {a n : Nat} {v : Int32} (hd : decode M.2.1 pc = .ok (.iastore, 1)) (ha : a < 204) (hk : kd a = 0) (hn : n < ln a) (h : Wp M (pc + 1) L st (put S a n v) Z) : Wp M pc L (.int v :: .int (nI n) :: .ref a :: st) S Z := w_iastN hd ha hk hn h
theorem w_bastNP {M : Mt} {pc : Nat} {L st : List Value} {S : St} {Z : Option Value → St → Prop} {a n : Nat} {v : Int32} (hd : decode M.2.1 pc = .ok (.bastore, 1)) (ha : a < 204) (hk : kd a = 1) (hn : n < ln a) (hv : v = 0 ∨ v = 1) (h : Wp M (pc + 1) L st (put S a n v) Z) : Wp M pc L (.int v :: .int (nI n) :: .ref a :: st) S Z := w_bastN hd ha hk hn hv h
theorem w_eastNP {M : Mt} {pc : Nat} {L st : List Value} {S : St} {Z : Option Value → St → Prop} {n b : Nat} (hd : decode M.2.1 pc = .ok (.aastore, 1)) (hn : n < 20) (hb1 : 124 ≤ b) (hb2 : b < 144) (h : Wp M (pc + 1) L st (putT S n b) Z) : Wp M pc L (.ref b :: .int (nI n) :: .ref 19 :: st) S Z := w_eastN hd hn hb1 hb2 h
theorem w_putIP {M : Mt} {pc : Nat} {L st : List Value} {S : St} {Z : Option Value → St → Prop} {idx ci k a : Nat} {v : Int32} (hd : decode M.2.1 pc = .ok (.putfield idx, 3)) (hf : FL M.1.cls idx ci k) (hw : FW ci k .int) (ha : a < 204) (hk : kd a = 4 + ci) (hr : fref a k = none) (h : Wp M (pc + 3) L st (put S a k v) Z) : Wp M pc L (.int v :: .ref a :: st) S Z := w_putI hd hf hw ha hk hr h
theorem w_putZP {M : Mt} {pc : Nat} {L st : List Value} {S : St} {Z : Option Value → St → Prop} {idx ci k a : Nat} {v : Int32} (hd : decode M.2.1 pc = .ok (.putfield idx, 3)) (hf : FL M.1.cls idx ci k) (hw : FW ci k .boolean) (ha : a < 204) (hk : kd a = 4 + ci) (hr : fref a k = none) (hv : v = 0 ∨ v = 1) (h : Wp M (pc + 3) L st (put S a k v) Z) : Wp M pc L (.int v :: .ref a :: st) S Z := w_putZ hd hf hw ha hk hr hv h
def bI (b : Bool) : Int32 := if b = true then 1 else 0
theorem bI_01 (b : Bool) : bI b = 0 ∨ bI b = 1 := by cases b <;> decide
theorem bI_0 {b : Bool} (h : bI b = 0) : b = false := by cases b <;> first | rfl | (exact absurd h (by decide))
theorem bI_1 {b : Bool} (h : ¬ bI b = 0) : b = true := by cases b <;> first | rfl | (exact absurd rfl h)
theorem w_if_eqB {M : Mt} {pc : Nat} {L st : List Value} {S : St} {Z : Option Value → St → Prop} {b : Bool} {off : Int} (tgt : Nat) (hd : decode M.2.1 pc = .ok (.ifCond .eq off, 3)) (ht : (pc : Int) + off = (tgt : Int)) (ht1 : b = false → Wp M tgt L st S Z) (hf1 : b = true → Wp M (pc + 3) L st S Z) : Wp M pc L (.int (bI b) :: st) S Z := w_if_eq tgt hd ht (fun q => ht1 (bI_0 q)) (fun q => hf1 (bI_1 q))
theorem w_if_neB {M : Mt} {pc : Nat} {L st : List Value} {S : St} {Z : Option Value → St → Prop} {b : Bool} {off : Int} (tgt : Nat) (hd : decode M.2.1 pc = .ok (.ifCond .ne off, 3)) (ht : (pc : Int) + off = (tgt : Int)) (ht1 : b = true → Wp M tgt L st S Z) (hf1 : b = false → Wp M (pc + 3) L st S Z) : Wp M pc L (.int (bI b) :: st) S Z := w_if_ne tgt hd ht (fun q => ht1 (bI_1 q)) (fun q => hf1 (bI_0 q))
theorem kd_row48 {i : Nat} (h : i < 24) : kd (48 + i) = 0 := by unfold kd; (repeat' split) <;> first | omega | rfl
theorem kd_row72 {i : Nat} (h : i < 24) : kd (72 + i) = 0 := by unfold kd; (repeat' split) <;> first | omega | rfl
theorem kd_row96 {i : Nat} (h : i < 4) : kd (96 + i) = 0 := by unfold kd; (repeat' split) <;> first | omega | rfl
theorem kd_row100 {i : Nat} (h : i < 4) : kd (100 + i) = 0 := by unfold kd; (repeat' split) <;> first | omega | rfl
theorem kd_row104 {i : Nat} (h : i < 4) : kd (104 + i) = 0 := by unfold kd; (repeat' split) <;> first | omega | rfl
theorem kd_row108 {i : Nat} (h : i < 16) : kd (108 + i) = 0 := by unfold kd; (repeat' split) <;> first | omega | rfl
theorem ln_row48 {i : Nat} (h : i < 24) : ln (48 + i) = 4 := by unfold ln; (repeat' split) <;> first | omega | rfl
theorem ln_row72 {i : Nat} (h : i < 24) : ln (72 + i) = 4 := by unfold ln; (repeat' split) <;> first | omega | rfl
theorem ln_row96 {i : Nat} (h : i < 4) : ln (96 + i) = 4 := by unfold ln; (repeat' split) <;> first | omega | rfl
theorem ln_row100 {i : Nat} (h : i < 4) : ln (100 + i) = 4 := by unfold ln; (repeat' split) <;> first | omega | rfl
theorem ln_row104 {i : Nat} (h : i < 4) : ln (104 + i) = 4 := by unfold ln; (repeat' split) <;> first | omega | rfl
theorem ln_row108 {i : Nat} (h : i < 16) : ln (108 + i) = 2 := by unfold ln; (repeat' split) <;> first | omega | rfl
theorem kd_ent {c : Nat} (h1 : 124 ≤ c) (h2 : c < 144) : kd c = 4 + 9 := by unfold kd; (repeat' split) <;> first | omega | rfl
theorem kd_enta {c : Nat} (h1 : 144 ≤ c) (h2 : c < 204) : kd c = 0 := by unfold kd; (repeat' split) <;> first | omega | rfl
theorem ln_enta {c : Nat} (h1 : 144 ≤ c) (h2 : c < 204) : ln c = 4 := by unfold ln; (repeat' split) <;> first | omega | rfl
theorem fref_ent {c k : Nat} (h1 : 124 ≤ c) (h2 : k < 3) : fref c k = some (c + 20 + 20 * k) := by unfold fref; rw [if_neg (by omega), if_pos h2]
theorem fref_entI {c k : Nat} (h1 : 124 ≤ c) (h2 : ¬ k < 3) : fref c k = none := by unfold fref; rw [if_neg (by omega), if_neg h2]
/-- the distance of two rows over w places -/
def dst (f g : Nat → Int32) : Nat → Int32
  | 0 => 0
  | k + 1 => dst f g k + (f k - g k) * (f k - g k)
/-- the first of the least among d 0 .. d (n - 1) -/
def near (d : Nat → Int32) : Nat → Nat
  | 0 => 0
  | n + 1 => if d n < d (near d n) then n else near d n
theorem near_lt (d : Nat → Int32) : ∀ n, 0 < n → near d n < n
  | 0, h => absurd h (by omega)
  | 1, _ => by show (if d 0 < d 0 then 0 else 0) < 1; split <;> decide
  | n + 2, _ => by
    have := near_lt d (n + 1) (by omega)
    show (if d (n + 1) < d (near d (n + 1)) then n + 1 else near d (n + 1)) < n + 2
    split <;> omega
theorem near_1 (d : Nat → Int32) : near d 1 = 0 := by show (if d 0 < d 0 then 0 else 0) = 0; split <;> rfl
theorem rb0 {b : Bool} (h : b = false) : some (Value.int (nI 0)) = some (Value.int (bI b)) := by subst h; rfl
theorem rb1 {b : Bool} (h : b = true) : some (Value.int (nI 1)) = some (Value.int (bI b)) := by subst h; rfl
theorem nI_in2 {v : Int32} {a b : Nat} (h : nI a ≤ v ∧ v ≤ nI b) (ha : a < 2 ^ 31) (hb : b < 2 ^ 31) : ∃ j, a ≤ j ∧ j ≤ b ∧ v = nI j := by
  obtain ⟨j, hj, rfl⟩ := nI_of (x := v) (fun q => by
    have h1 := h.1
    rw [Int32.le_iff_toInt_le, nI_toInt ha] at h1
    rw [Int32.lt_iff_toInt_lt, Int32.toInt_zero] at q
    omega)
  exact ⟨j, (nI_leI ha hj).mp h.1, (nI_leI hj hb).mp h.2, rfl⟩
/-- the first n places of the array c become f -/
def setRow (S : St) (c : Nat) (f : Nat → Int32) (n : Nat) : St := (fun d i => if d = c ∧ i < n then f i else S.1 d i, S.2)
theorem setRow_0 (S : St) (c : Nat) (f : Nat → Int32) : setRow S c f 0 = S := by
  unfold setRow
  refine Prod.ext ?_ rfl
  funext d i
  simp
theorem setRow_at {S : St} {c : Nat} {f : Nat → Int32} {n i : Nat} (h : i < n) : (setRow S c f n).1 c i = f i := by simp [setRow, h]
theorem setRow_hi {S : St} {c d : Nat} {f : Nat → Int32} {n i : Nat} (h : ¬ i < n) : (setRow S c f n).1 d i = S.1 d i := by simp [setRow, h]
theorem setRow_ne {S : St} {c d : Nat} {f : Nat → Int32} {n i : Nat} (h : d ≠ c) : (setRow S c f n).1 d i = S.1 d i := by simp [setRow, h]
theorem setRow_row {S : St} {c d : Nat} {f : Nat → Int32} {n : Nat} (h : d ≠ c) : (setRow S c f n).1 d = S.1 d := by funext i; exact setRow_ne h
theorem setRow_s {S : St} {c : Nat} {f : Nat → Int32} {n : Nat} {v : Int32} (h : v = f n) : put (setRow S c f n) c n v = setRow S c f (n + 1) := by
  subst h
  refine Prod.ext ?_ rfl
  funext d i
  show up2 _ c n (f n) d i = if d = c ∧ i < n + 1 then f i else S.1 d i
  by_cases h1 : d = c ∧ i = n
  · obtain ⟨rfl, rfl⟩ := h1
    rw [up2_same, if_pos ⟨rfl, Nat.lt_succ_self _⟩]
  · rw [up2_ne h1]
    show (if d = c ∧ i < n then f i else S.1 d i) = _
    by_cases h2 : d = c ∧ i < n
    · rw [if_pos h2, if_pos ⟨h2.1, by omega⟩]
    · rw [if_neg h2, if_neg (fun q => h2 ⟨q.1, by have := q.2; have : i ≠ n := fun z => h1 ⟨q.1, z⟩; omega⟩)]
theorem setRow_congr {S : St} {c : Nat} {f g : Nat → Int32} {n : Nat} (h : ∀ i, i < n → f i = g i) : setRow S c f n = setRow S c g n := by
  refine Prod.ext ?_ rfl
  funext d i
  show (if d = c ∧ i < n then f i else S.1 d i) = if d = c ∧ i < n then g i else S.1 d i
  by_cases h1 : d = c ∧ i < n
  · rw [if_pos h1, if_pos h1, h i h1.2]
  · rw [if_neg h1, if_neg h1]
def pt (a b c d : Int32) : Nat → Int32 := fun i => match i with
  | 0 => a
  | 1 => b
  | 2 => c
  | _ => d
/-- a step of a turn: 1 to 4, either sign -/
def okStep (s : Int32) : Prop := ∃ j, j < 4 ∧ (s = nI (j + 1) ∨ s = -nI (j + 1))
def absI (v : Int32) : Int32 := if 0 ≤ v then v else -v
def ax (s : Int32) : Nat := (absI s).toNatClampNeg - 1
def tval (s : Int32) (g : Nat → Int32) : Int32 := if s < 0 then -(g (ax s)) else g (ax s)
theorem okStep_ax {s : Int32} (h : okStep s) : absI s - nI 1 = nI (ax s) ∧ ax s < 4 := by
  obtain ⟨j, hj, h⟩ := h
  have h4 : j = 0 ∨ j = 1 ∨ j = 2 ∨ j = 3 := by omega
  rcases h4 with rfl | rfl | rfl | rfl <;> rcases h with rfl | rfl <;> exact ⟨by decide +kernel, by decide +kernel⟩
def fdv (a b : Int32) : Int32 := if (a ^^^ b) < 0 then if a / b * b = a then a / b else a / b - nI 1 else a / b
theorem near_congr {d e : Nat → Int32} : ∀ {n : Nat}, (∀ j, j < n → d j = e j) → near d n = near e n
  | 0, _ => rfl
  | 1, _ => by rw [near_1, near_1]
  | n + 2, h => by
    have ih := near_congr (n := n + 1) (fun j hj => h j (by omega))
    have hl := near_lt e (n + 1) (by omega)
    show (if d (n + 1) < d (near d (n + 1)) then n + 1 else near d (n + 1)) = (if e (n + 1) < e (near e (n + 1)) then n + 1 else near e (n + 1))
    rw [ih, h (n + 1) (by omega), h _ (by omega)]
/-- one place of each of the n rows from b on -/
def setCol (S : St) (b i0 : Nat) (f : Nat → Int32) (n : Nat) : St := (fun c i => if b ≤ c ∧ c < b + n ∧ i = i0 then f (c - b) else S.1 c i, S.2)
theorem setCol_0 (S : St) (b i0 : Nat) (f : Nat → Int32) : setCol S b i0 f 0 = S := by
  refine Prod.ext ?_ rfl
  funext c i
  show (if b ≤ c ∧ c < b + 0 ∧ i = i0 then f (c - b) else S.1 c i) = S.1 c i
  rw [if_neg (by omega)]
theorem setCol_s {S : St} {b i0 : Nat} {f : Nat → Int32} {n : Nat} {v : Int32} (h : v = f n) : put (setCol S b i0 f n) (b + n) i0 v = setCol S b i0 f (n + 1) := by
  subst h
  refine Prod.ext ?_ rfl
  funext c i
  show up2 (setCol S b i0 f n).1 (b + n) i0 (f n) c i = if b ≤ c ∧ c < b + (n + 1) ∧ i = i0 then f (c - b) else S.1 c i
  by_cases h1 : c = b + n ∧ i = i0
  · obtain ⟨rfl, rfl⟩ := h1
    rw [up2_same, if_pos (by omega), Nat.add_sub_cancel_left]
  · rw [up2_ne h1]
    show (if b ≤ c ∧ c < b + n ∧ i = i0 then f (c - b) else S.1 c i) = _
    by_cases h2 : b ≤ c ∧ c < b + n ∧ i = i0
    · rw [if_pos h2, if_pos (by omega)]
    · rw [if_neg h2, if_neg (fun q => h2 ⟨q.1, by
        have : ¬ c = b + n := fun z => h1 ⟨z, q.2.2⟩
        omega, q.2.2⟩)]
theorem setCol_at {S : St} {b i0 : Nat} {f : Nat → Int32} {n j : Nat} (h : j < n) : (setCol S b i0 f n).1 (b + j) i0 = f j := by
  show (if b ≤ b + j ∧ b + j < b + n ∧ i0 = i0 then f (b + j - b) else S.1 (b + j) i0) = f j
  rw [if_pos (by omega), Nat.add_sub_cancel_left]
theorem setCol_ne {S : St} {b i0 c i : Nat} {f : Nat → Int32} {n : Nat} (h : ¬ (b ≤ c ∧ c < b + n ∧ i = i0)) : (setCol S b i0 f n).1 c i = S.1 c i := if_neg h
theorem w_getIV {M : Mt} {pc : Nat} {L st : List Value} {S : St} {Z : Option Value → St → Prop} {idx ci k a : Nat} {v : Int32} (hd : decode M.2.1 pc = .ok (.getfield idx, 3)) (hf : FL M.1.cls idx ci k) (ha : a < 204) (hk : kd a = 4 + ci) (hv : fref a k = none) (he : S.1 a k = v) (h : Wp M (pc + 3) L (.int v :: st) S Z) : Wp M pc L (.ref a :: st) S Z := w_getI hd hf ha hk hv (by rw [he]; exact h)
theorem w_ialdNV {M : Mt} {pc : Nat} {L st : List Value} {S : St} {Z : Option Value → St → Prop} {a n : Nat} {v : Int32} (hd : decode M.2.1 pc = .ok (.iaload, 1)) (ha : a < 204) (hk : kd a = 0) (hn : n < ln a) (he : S.1 a n = v) (h : Wp M (pc + 1) L (.int v :: st) S Z) : Wp M pc L (.int (nI n) :: .ref a :: st) S Z := w_ialdN hd ha hk hn (by rw [he]; exact h)
theorem w_baldNV {M : Mt} {pc : Nat} {L st : List Value} {S : St} {Z : Option Value → St → Prop} {a n : Nat} {v : Int32} (hd : decode M.2.1 pc = .ok (.baload, 1)) (ha : a < 204) (hk : kd a = 1) (hn : n < ln a) (he : S.1 a n = v) (h : Wp M (pc + 1) L (.int v :: st) S Z) : Wp M pc L (.int (nI n) :: .ref a :: st) S Z := w_baldN hd ha hk hn (by rw [he]; exact h)
/-- a computed number gets another form -/
theorem w_top {M : Mt} {pc : Nat} {L st : List Value} {S : St} {Z : Option Value → St → Prop} {v w : Int32} (he : v = w) (h : Wp M pc L (.int w :: st) S Z) : Wp M pc L (.int v :: st) S Z := by rw [he]; exact h
def bitOf (t : Int32) : Int32 := if 1 ≤ t ∧ t ≤ 4 then 1 <<< (t &&& 31) else if t ≤ -1 ∧ -4 ≤ t then 1 <<< (-t &&& 31) else 0
def turnOK (a b c d : Int32) : Bool := decide ((bitOf a ||| bitOf b ||| bitOf c ||| bitOf d) = 30)
def badPt (x y z w : Int32) : Bool := !(decide ((-100 ≤ x ∧ x ≤ nI 100) ∧ (-100 ≤ y ∧ y ≤ nI 100) ∧ (-100 ≤ z ∧ z ≤ nI 100) ∧ (-100 ≤ w ∧ w ≤ nI 100)))
theorem near_no {d : Nat → Int32} {k : Nat} (h : d (near d k) ≤ d k) : near d (k + 1) = near d k := by
  show (if d k < d (near d k) then k else near d k) = _
  rw [if_neg (Int32.not_lt.mpr h)]
theorem near_yes {d : Nat → Int32} {k : Nat} (h : ¬ d (near d k) ≤ d k) : near d (k + 1) = k := by
  show (if d k < d (near d k) then k else near d k) = _
  rw [if_pos (Int32.not_le.mp h)]
