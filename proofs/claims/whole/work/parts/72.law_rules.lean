/-! The law's frame, while the calls run: the flat world, and the script as it was. -/
def M_l_law : Mt := (⟨"QuantisedListsLaw", "law", "([I)Z"⟩, code, 4, ret, 9, 350)
def LA (s : State) : Nat → Prop := fun q => s.heap.size ≤ q
def LX (Y : Lay) (p : Program) (s : State) (m : MethodId) (meth : Method) (c : Code) (b L : Nat) (xs : Nat → Int32) : Prop := CX M_l_law p s m #[Value.ref b] meth c ∧ va_X b L xs s s.heap ∧ b < s.heap.size ∧ L ≤ 3072 ∧ okY Y ∧ va_K Y.1 zcl (ztys Y) s ∧ NW s ∧ ∀ c, c < 204 → LA s (Y.2.2 c)
def Lp (Y : Lay) (p : Program) (l : Launch) (e : Env) (s : State) (m : MethodId) (below : List Frame) (meth : Method) (c : Code) (b : Nat) (pc : Nat) (Lo st : List Value) (S : St) : Prop := ∀ (ls : Array Slot) (H : Heap) (locs : List Loc), LR id Lo 4 ls → va_P Y.1 zcl (wsf Y S) H → va_S (LA s) s.heap H locs → W p l e room_1 s m #[Value.ref b] below meth c H locs 204 6860 (lw_Z below #[Value.ref b] s) (F0 m pc ls st)
/-- the law's four locals -/
def Lc (Y : Lay) (b i : Nat) : List Value := [.ref b, .ref (Y.2.2 0), .ref (Y.2.2 8), .int (nI i)]
section LAWR
variable {p : Program} {l : Launch} {e : Env} {s : State} {m : MethodId} {below : List Frame} {meth : Method} {c : Code} {b L : Nat} {xs : Nat → Int32} {Y : Lay} {S : St} {pc : Nat} {Lo st : List Value}
theorem l_al1 (X : LX Y p s m meth c b L xs) {i : Nat} (hd : decode code pc = .ok (.aload_n 1, 1)) (h : Lp Y p l e s m below meth c b (pc + 1) (Lc Y b i) (.ref (Y.2.2 0) :: st) S) : Lp Y p l e s m below meth c b pc (Lc Y b i) st S := fun ls H locs hL hP hS =>
  lv_aload_n X.1.1 X.1.2.1 hd rfl (hL.2.2.2.2 1 _ rfl) (h ls H locs hL hP hS)
theorem l_al2 (X : LX Y p s m meth c b L xs) {i : Nat} (hd : decode code pc = .ok (.aload_n 2, 1)) (h : Lp Y p l e s m below meth c b (pc + 1) (Lc Y b i) (.ref (Y.2.2 8) :: st) S) : Lp Y p l e s m below meth c b pc (Lc Y b i) st S := fun ls H locs hL hP hS =>
  lv_aload_n X.1.1 X.1.2.1 hd rfl (hL.2.2.2.2 2 _ rfl) (h ls H locs hL hP hS)
theorem l_bA (X : LX Y p s m meth c b L xs) : ¬ LA s b := fun h => absurd X.2.2.1 (Nat.not_lt.mpr h)
/-- script[i + j] -/
theorem l_ld (X : LX Y p s m meth c b L xs) {i : Nat} (j : Nat) {n : Int} (hi : i + 6 ≤ L) (hj : j < 6) (hn : Int32.ofInt n = nI j) (d0 : decode code pc = .ok (.aload_n 0, 1)) (d1 : decode code (pc + 1) = .ok (.iload_n 3, 1)) (d2 : decode code (pc + 2) = .ok (.iconst n, 1)) (d3 : decode code (pc + 3) = .ok (.iadd, 1)) (d4 : decode code (pc + 4) = .ok (.iaload, 1)) (h : Lp Y p l e s m below meth c b (pc + 5) (Lc Y b i) (.int (xs (i + j)) :: st) S) : Lp Y p l e s m below meth c b pc (Lc Y b i) st S := by
  intro ls H locs hL hP hS
  have hL3 := X.2.2.2.1
  refine lv_aload_n X.1.1 X.1.2.1 d0 rfl (hL.2.2.2.2 0 _ rfl) ?_
  refine lv_iload_n X.1.1 X.1.2.1 d1 rfl (hL.2.2.2.1 3 _ rfl) ?_
  refine lv_iconst X.1.1 X.1.2.1 d2 hn ?_
  refine lv_iadd X.1.1 X.1.2.1 d3 ?_
  rw [nI_add]
  refine va_sld X.1.1 X.1.2.1 X.2.1 X.2.2.1 (l_bA X) hS (nI_in (by omega) (by omega)) d4 ?_
  rw [nI_clamp (by omega)]
  exact h ls H locs hL hP hS
/-- a call of the class or of the reference -/
theorem l_call (X : LX Y p s m meth c b L xs) {N : Mt} {Z : Option Value → St → Prop} {idx n b0 ci nf : Nat} {T : u_T} (As rest : List Value) (hE : Ev N (.ref b0 :: As) S Z) (hd : decode code pc = .ok (.invokevirtual idx, 3)) (hl : LK "QuantisedListsLaw" idx N.1) (hf : MF N) (hm : MV N) (hp : NP N n) (hR : N.2.2.2.2.1 + 1 ≤ room_1.frames ∧ 8 + (N.2.2.1 + 11) + N.2.2.2.2.2 ≤ room_1.locals) (hn : As.length = n) (hA : As.map (tr Y.2.2) = As) (hrest : (rest.map fun v => v.category).sum ≤ 8) (hb : b0 < 204) (hk : kd b0 = 4 + ci) (hcl : zcl[ci]? = some (N.1.cls, T, nf)) (hst : st = As.reverse ++ .ref (Y.2.2 b0) :: rest)
    (kk : ∀ (r : Option Value) (S' : St), Z r S' → Lp Y p l e s m below meth c b (pc + 3) Lo ((r.map (tr Y.2.2)).toList ++ rest) S') : Lp Y p l e s m below meth c b pc Lo st S := by
  intro ls H locs hL hP hS
  have hY := X.2.2.2.2.1
  have hK := X.2.2.2.2.2.1
  have hN := X.2.2.2.2.2.2.1
  have hF := X.2.2.2.2.2.2.2
  have ok := X.1.2.2.2.2.1
  have hwb := (wsf_at (Y := Y) (S := S) hb)
  rw [cel_obj hk] at hwb
  have hrec := va_recv hK hP hcl hwb
  have hM := hE l Y hY
  have hpre : PreV s H N.1.cls (Y.2.2 b0) (PPc Y (.ref b0 :: As) S) As := ⟨PPc_blind _ _ _, hrec, fun U hU hW => ⟨by show (Value.ref (Y.2.2 b0) :: As).toArray = (Value.ref (Y.2.2 b0) :: As.map (tr Y.2.2)).toArray; rw [hA], by rw [hU]; exact hP, va_K.moved hW.alike hK, NW.warm hW hN⟩⟩
  have hr : va_Run p l e room_1 s m #[Value.ref b] below meth c H locs 204 6860 0 0 (F0 m pc ls st) rest (QQ Y Z (Value.ref (Y.2.2 b0) :: As).toArray) (AA Y.2.2) := by
    rcases hl with hl | ⟨host, hl⟩
    · exact va_runV (cc := code) (nL := 4) (Ts := gtbl) (own := "QuantisedListsLaw") (As := As) (rest := rest) ⟨X.1.1, X.1.2.1, X.1.2.2.1, X.1.2.2.2.1, ok⟩ hM ⟨callB_of n ok (good_g hf.1) rfl rfl rfl (ok _ hf.2.1) (ok _ hl) ⟨hf.2.2.1, hf.2.2.2.1, hp⟩ hR, ok _ hm.1, ok _ hm.2⟩ hpre rfl hn hL.2.1 hst (lv_room hrest) hd ⟨by decide, by decide⟩
    · exact va_runVN (cc := code) (nL := 4) (Ts := gtbl) (own := "QuantisedListsLaw") (As := As) (rest := rest) ⟨X.1.1, X.1.2.1, X.1.2.2.1, X.1.2.2.2.1, ok⟩ hM ⟨va_cnB n ok (good_g hf.1) rfl rfl rfl (hN _ hl) (ok _ hf.2.1) ⟨hf.2.2.1, hf.2.2.2.1, hp⟩ hR, ok _ hm.1, ok _ hm.2⟩ hpre rfl hn hL.2.1 hst (lv_room hrest) hd ⟨by decide, by decide⟩
  intro T9 hT X1
  obtain ⟨v, st₀, t, T', L1, h0, X', hL1, e1, e2, ⟨⟨r, S', hv, hw, hP1⟩, hz, hk9⟩, stp⟩ := hr T9 hT X1
  have hv : v = r.map (tr Y.2.2) := Outcome.returned.inj hv
  subst hv
  rw [h0] at hz hk9
  have hAL : ∀ q, AA Y.2.2 q → LA s q := fun q hq => by
    obtain ⟨c9, h1, h2⟩ := hq
    rw [← h2]
    exact hF c9 h1
  have hS1 : va_S (LA s) s.heap T'.heap (locs ++ L1) := ⟨Nat.le_trans hS.1 (by rw [e1]; exact hz), fun q h1 h2 => by rw [e1, hk9 q (Nat.lt_of_lt_of_le h1 hS.1) (fun z => h2 (hAL q z))]; exact hS.2.1 q h1 h2, fun q hq => by
      rcases List.mem_append.mp hq with h | h
      · exact hS.2.2 q h
      · exact hAL _ (hL1 q h)⟩
  obtain ⟨t2, a1, b1⟩ := kk r S' hw ls T'.heap (locs ++ L1) hL (by rw [e1]; exact hP1) hS1 T' rfl X'
  exact ⟨t2, stp t2 a1, b1⟩
/-- both answers are one: on to 778 -/
theorem l_eq (X : LX Y p s m meth c b L xs) {v : Int32} {off : Int} (hd : decode code pc = .ok (.if_icmp .eq off, 3)) (ht : (pc : Int) + off = ((778 : Nat) : Int)) (h : Lp Y p l e s m below meth c b 778 Lo [] S) : Lp Y p l e s m below meth c b pc Lo [.int v, .int v] S := fun ls H locs hL hP hS =>
  lv_icmp_eq X.1.1 X.1.2.1 hd ht (fun _ => h ls H locs hL hP hS) (fun q => absurd rfl q)
end LAWR
