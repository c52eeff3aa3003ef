/-! The flat picture: every object and array of the class and of the reference has a number (its code), 0 to 203; kd says what it is, ln how long, fref which of its fields are references that never change, gbase where the rows of a grid begin. A state S is: an int for each (code, place), and the order of the entry rows. -/
abbrev St : Type := (Nat → Nat → Int32) × (Nat → Nat)
def kd (c : Nat) : Nat := if c < 9 then 4 + c else if c = 10 ∨ c = 11 ∨ c = 12 ∨ c = 13 ∨ c = 16 ∨ c = 17 then 2 else if c = 19 then 3 else if c = 30 ∨ c = 47 then 1 else if 124 ≤ c ∧ c < 144 then 13 else 0
def lnT : List Nat := [0, 0, 0, 0, 0, 0, 0, 0, 0, 4, 24, 24, 4, 4, 4, 4, 4, 16, 4, 20, 4, 4, 20, 20, 20, 250, 4, 96, 16, 32, 1000, 4000, 8, 8, 250, 4, 4, 4, 4, 96, 96, 16, 24, 4, 20, 20, 20, 20]
def ln (c : Nat) : Nat := if c < 48 then lnT.getD c 0 else if 108 ≤ c ∧ c < 124 then 2 else 4
def gbase (c : Nat) : Nat := if c = 10 then 48 else if c = 11 then 72 else if c = 12 then 96 else if c = 13 then 100 else if c = 16 then 104 else 108
def frT : List (List (Option Nat)) := [[some 1, some 2, some 3, some 4, some 5, some 6, some 7], [some 9], [some 10, none], [some 11, some 12, some 13, some 14, some 15, none, none, none, none], [some 16, some 17, some 18, none, none, none, none], [some 19, none], [some 20, some 21, some 22, some 23, some 24, none, none, none, none], [some 25, none], [some 26, some 27, none, none, none, none, none, some 28, some 29, some 30, some 31, none, none, none, some 32, some 33, none, none, some 34, none, some 35, some 36, some 37, some 38, some 39, some 40, some 41, some 42, some 43, some 44, some 45, some 46, some 47]]
def fref (c k : Nat) : Option Nat := if c < 9 then (frT.getD c []).getD k none else if k < 3 then some (c + 20 + 20 * k) else none
def nfT : List Nat := [7, 1, 2, 9, 7, 2, 9, 2, 33, 5]
abbrev Lay : Type := va_G × (Nat → ClassId) × (Nat → Nat)
def fvl (ad : Nat → Nat) (S : St) (c k : Nat) : Value := match fref c k with
  | some d => .ref (ad d)
  | none => .int (S.1 c k)
def cel (Y : Lay) (S : St) (c : Nat) : va_E :=
  if kd c = 0 then .inl (Y.2.1 0, ln c, .inl (S.1 c))
  else if kd c = 1 then .inl (Y.2.1 1, ln c, .inl (S.1 c))
  else if kd c = 2 then .inl (Y.2.1 2, ln c, .inr (.inr (.inr (.inr (fun i => some (Y.2.2 (gbase c + i)))))))
  else if kd c = 3 then .inl (Y.2.1 3, ln c, .inr (.inr (.inr (.inr (fun i => some (Y.2.2 (S.2 i)))))))
  else .inr (kd c - 4, (List.range (nfT.getD (kd c - 4) 0)).map (fvl Y.2.2 S c))
def wsf (Y : Lay) (S : St) : va_W := (List.range 204).map (fun c => (Y.2.2 c, cel Y S c))
def ztys (Y : Lay) : List (ClassId × FieldType) := [(Y.2.1 0, .int), (Y.2.1 1, .boolean), (Y.2.1 2, .array .int), (Y.2.1 3, .object "QuantisedLists$Entry")]
def okY (Y : Lay) : Prop := ∀ c d : Nat, c < 204 → d < 204 → Y.2.2 c = Y.2.2 d → c = d
def AA (ad : Nat → Nat) : Nat → Prop := fun q => ∃ c, c < 204 ∧ ad c = q
def tr (ad : Nat → Nat) : Value → Value
  | .ref c => .ref (ad c)
  | v => v
def up2 (f : Nat → Nat → Int32) (c i : Nat) (v : Int32) : Nat → Nat → Int32 := fun c' i' => if c' = c ∧ i' = i then v else f c' i'
theorem wsf_at {Y : Lay} {S : St} {c : Nat} (h : c < 204) : (wsf Y S)[c]? = some (Y.2.2 c, cel Y S c) := by
  unfold wsf
  rw [List.getElem?_map, List.getElem?_range h]
  rfl
theorem wsf_some {Y : Lay} {S : St} {k : Nat} {q : Nat × va_E} (h : (wsf Y S)[k]? = some q) : k < 204 ∧ q = (Y.2.2 k, cel Y S k) := by
  by_cases hk : k < 204
  · rw [wsf_at hk] at h
    exact ⟨hk, (Option.some.inj h).symm⟩
  · unfold wsf at h
    rw [List.getElem?_map, List.getElem?_eq_none (by rw [List.length_range]; omega)] at h
    cases h
theorem wsf_D {Y : Lay} (hY : okY Y) (S : St) : va_D (AA Y.2.2) (wsf Y S) := by
  refine ⟨fun i j p q hi hj hpq => ?_, fun k q hk => ?_⟩
  · obtain ⟨h1, rfl⟩ := wsf_some hi
    obtain ⟨h2, rfl⟩ := wsf_some hj
    exact hY _ _ h1 h2 hpq
  · obtain ⟨h1, rfl⟩ := wsf_some hk
    exact ⟨k, h1, rfl⟩
/-- a write at one code -/
theorem wsf_set {Y : Lay} {S S' : St} {c : Nat} (h : ∀ d, d ≠ c → cel Y S' d = cel Y S d) : (wsf Y S).set c (Y.2.2 c, cel Y S' c) = wsf Y S' := by
  apply List.ext_getElem?
  intro k
  by_cases hk : k = c
  · subst hk
    by_cases hl : k < 204
    · rw [List.getElem?_set_self (by unfold wsf; rw [List.length_map, List.length_range]; exact hl), wsf_at hl]
    · rw [List.getElem?_eq_none (by unfold wsf; rw [List.length_set, List.length_map, List.length_range]; omega), List.getElem?_eq_none (by unfold wsf; rw [List.length_map, List.length_range]; omega)]
  · rw [List.getElem?_set_ne (Ne.symm hk)]
    by_cases hl : k < 204
    · rw [wsf_at hl, wsf_at hl, h k hk]
    · rw [List.getElem?_eq_none (by unfold wsf; rw [List.length_map, List.length_range]; omega), List.getElem?_eq_none (by unfold wsf; rw [List.length_map, List.length_range]; omega)]
theorem up2_same {f : Nat → Nat → Int32} {c i : Nat} {v : Int32} : up2 f c i v c i = v := by simp [up2]
theorem up2_ne {f : Nat → Nat → Int32} {c i c' i' : Nat} {v : Int32} (h : ¬ (c' = c ∧ i' = i)) : up2 f c i v c' i' = f c' i' := by simp [up2, h]
theorem up2_row {f : Nat → Nat → Int32} {c i d : Nat} {v : Int32} (h : d ≠ c) : up2 f c i v d = f d := by funext j; simp [up2, h]
theorem up2_upd {f : Nat → Nat → Int32} {c i : Nat} {v : Int32} : up2 f c i v c = upd (f c) i v := by
  funext j
  by_cases h : j = i
  · subst h; rw [pk_us]; exact up2_same
  · rw [pk_un h]; exact up2_ne (fun q => h q.2)
theorem cel_up2 {Y : Lay} {S : St} {c i d : Nat} {v : Int32} (h : d ≠ c) : cel Y (up2 S.1 c i v, S.2) d = cel Y S d := by
  have e : fvl Y.2.2 (up2 S.1 c i v, S.2) d = fvl Y.2.2 S d := by
    funext k
    unfold fvl
    cases fref d k with
    | some _ => rfl
    | none => show Value.int (up2 S.1 c i v d k) = _; rw [up2_row h]
  unfold cel
  rw [e]
  show (if kd d = 0 then _ else _) = _
  rw [show (up2 S.1 c i v, S.2).1 d = S.1 d from up2_row h]
/-- the locals: an unset one is .null here -/
def LR (ad : Nat → Nat) (L : List Value) (nL : Nat) (ls : Array Slot) : Prop := L.length = nL ∧ ls.size = nL ∧ lv_wf ls ∧ (∀ (i : Nat) (y : Int32), L[i]? = some (.int y) → ls[i]? = some (.val (.int y))) ∧ ∀ (i a : Nat), L[i]? = some (.ref a) → ls[i]? = some (.val (.ref (ad a)))
def lvo (ad : Nat → Nat) (L : List Value) : List (Nat × Value) := (List.range L.length).filterMap (fun i : Nat => match (L[i]? : Option Value) with
  | some (Value.int y) => some (i, Value.int y)
  | some (Value.ref a) => some (i, Value.ref (ad a))
  | _ => none)
theorem lvo_int {ad : Nat → Nat} {L : List Value} {i : Nat} {y : Int32} (h : L[i]? = some (.int y)) : (i, Value.int y) ∈ lvo ad L := by
  refine List.mem_filterMap.mpr ⟨i, List.mem_range.mpr (List.getElem?_eq_some_iff.mp h).1, ?_⟩
  rw [h]
theorem lvo_ref {ad : Nat → Nat} {L : List Value} {i a : Nat} (h : L[i]? = some (.ref a)) : (i, Value.ref (ad a)) ∈ lvo ad L := by
  refine List.mem_filterMap.mpr ⟨i, List.mem_range.mpr (List.getElem?_eq_some_iff.mp h).1, ?_⟩
  rw [h]
theorem LR.has {ad : Nat → Nat} {L : List Value} {nL : Nat} {ls : Array Slot} (h : LR ad L nL ls) : lv_has ls nL (lvo ad L) := by
  obtain ⟨h0, h1, h2, h3, h4⟩ := h
  refine ⟨h1, h2, fun q hq => ?_⟩
  obtain ⟨i, -, hi⟩ := List.mem_filterMap.mp hq
  cases hL : L[i]? with
  | none => rw [hL] at hi; cases hi
  | some v =>
    rw [hL] at hi
    cases v with
    | int y => cases hi; exact h3 i y hL
    | ref a => cases hi; exact h4 i a hL
    | long _ => cases hi
    | float _ => cases hi
    | double _ => cases hi
    | null => cases hi
    | retAddr _ => cases hi
theorem LR.of {ad : Nat → Nat} {L : List Value} {nL : Nat} {ls : Array Slot} {i : Nat} {v : Value} (hv : (∃ y, v = .int y) ∨ ∃ a, v = .ref a) {ls' : Array Slot} (h : LR ad L nL ls) (h' : lv_has ls' nL ((i, tr ad v) :: (lvo ad L).filter (fun q => !(q.1 == i) && !(q.1 + 1 == i && q.2.category == 2)))) (hi : i < nL) : LR ad (L.set i v) nL ls' := by
  obtain ⟨k1, k2, k3⟩ := h'
  refine ⟨by rw [List.length_set]; exact h.1, k1, k2, fun j y hj => ?_, fun j a hj => ?_⟩
  · by_cases hji : j = i
    · subst hji
      rw [List.getElem?_set_self (by rw [h.1]; exact hi)] at hj
      cases hj
      exact k3 (j, .int y) List.mem_cons_self
    · rw [List.getElem?_set_ne (Ne.symm hji)] at hj
      refine k3 (j, .int y) (List.mem_cons_of_mem _ (List.mem_filter.mpr ⟨lvo_int hj, ?_⟩))
      simp [hji, Value.category]
  · by_cases hji : j = i
    · subst hji
      rw [List.getElem?_set_self (by rw [h.1]; exact hi)] at hj
      cases hj
      exact k3 (j, .ref (ad a)) List.mem_cons_self
    · rw [List.getElem?_set_ne (Ne.symm hji)] at hj
      refine k3 (j, .ref (ad a)) (List.mem_cons_of_mem _ (List.mem_filter.mpr ⟨lvo_ref hj, ?_⟩))
      simp [hji, Value.category]
theorem ln_small (c : Nat) : ln c < 5000 := by
  unfold ln
  split
  · rename_i h
    have : ∀ c, c < 48 → lnT.getD c 0 < 5000 := by decide +kernel
    exact this c h
  · split <;> decide
/-! The two judgements of the flat machine: Ev (a method's run, by its contract at the machine) and Wp (the rest of a method's run from a pc). -/
def rmO (M : Mt) : Room := { frames := M.2.2.2.2.1, cells := 0, slots := 0, locals := M.2.2.2.2.2 }
def wsO (M : Mt) : List Cond := .code M.1 M.2.1 M.2.2.1 M.2.2.2.1 :: gtbl
def NW (U : State) : Prop := ∀ w ∈ ntbl, va_Nw w U
theorem NW.warm {s U : State} (hW : s.WarmedH U.vm) (h : NW s) : NW U := by
  intro w hw
  have h1 := h w hw
  have h2 := (List.mem_filter.mp hw).2
  cases w <;> first | exact va_Nw.warmF hW h1 | exact va_Nw.warmM hW h1 | (simp [isNest] at h2; done)
theorem isNest_on {w : Cond} (h : isNest w = true) : w.onTables = true := by
  cases w <;> first | rfl | (simp [isNest] at h; done)
theorem NW.same {u U : State} (hv : u.vm = U.vm) (h : NW u) : NW U := fun w hw => va_Nw.same (isNest_on (List.mem_filter.mp hw).2) hv (h w hw)
def QQ (Y : Lay) (Z : Option Value → St → Prop) : Array Value → State → Outcome → State → Prop := fun _ st oc t => (∃ (r : Option Value) (S' : St), oc = .returned (r.map (tr Y.2.2)) ∧ Z r S' ∧ va_P Y.1 zcl (wsf Y S') t.heap) ∧ va_F (AA Y.2.2) st t
def PPc (Y : Lay) (As : List Value) (S : St) : Array Value → State → Prop := va_Pc (As.map (tr Y.2.2)) (fun U => va_P Y.1 zcl (wsf Y S) U.heap ∧ va_K Y.1 zcl (ztys Y) U ∧ NW U)
def Ev (M : Mt) (As : List Value) (S : St) (Z : Option Value → St → Prop) : Prop := ∀ (l : Launch) (Y : Lay), okY Y → Met l M.1 (wsO M) (rmO M) (PPc Y As S) (QQ Y Z) 0 0 (AA Y.2.2)
def Fx (M : Mt) (p : Program) (s : State) (m : MethodId) (args : Array Value) (meth : Method) (c : Code) : Prop := p.tables.exec = Jvm.exec ∧ c.code = M.2.1 ∧ meth.sig.returnType = M.2.2.2.1 ∧ c.maxLocals = M.2.2.1 ∧ s.vm.findClass M.1.cls = some m.cls ∧ (∀ w ∈ wsO M, w.before args s = true) ∧ meth.locks = false ∧ NW s
def Wp (M : Mt) (pc : Nat) (L st : List Value) (S : St) (Z : Option Value → St → Prop) : Prop :=
  ∀ (l : Launch) (Y : Lay), okY Y → ∀ (p : Program) (e : Env) (s : State) (m : MethodId) (args : Array Value) (below : List Frame) (meth : Method) (c : Code), Fx M p s m args meth c → va_K Y.1 zcl (ztys Y) s → ∀ (ls : Array Slot) (H : Heap) (locs : List Loc), LR Y.2.2 L M.2.2.1 ls → va_P Y.1 zcl (wsf Y S) H → va_S (AA Y.2.2) s.heap H locs →
    W p l e (rmO M) s m args below meth c H locs 0 0 (MQ below (QQ Y Z) args s 0 0 (AA Y.2.2)) (F0 m pc ls (st.map (tr Y.2.2)))
theorem PPc_blind (Y : Lay) (As : List Value) (S : St) : FrameBlind (PPc Y As S) := by
  intro a U g mk q
  obtain ⟨q0, qP, qK, qN⟩ := q
  exact ⟨q0, qP, va_K.moved (u := U) (U := U.calling g mk a) (Vm.Alike.refl U.vm) qK, NW.same (u := U) (U := U.calling g mk a) rfl qN⟩
theorem tr_cat1 {ad : Nat → Nat} {v : Value} : (tr ad v).category = v.category := by cases v <;> rfl
theorem lg_sl1 : ∀ (vs : List Value), (∀ v ∈ vs, v.category = 1) → lg_sl vs = vs.map Slot.val
  | [], _ => rfl
  | v :: vs, h => by
    have h1 := h v List.mem_cons_self
    have h2 := lg_sl1 vs (fun w hw => h w (List.mem_cons_of_mem _ hw))
    unfold lg_sl at h2 ⊢
    rw [List.flatMap_cons, h2, if_neg (by omega)]
    rfl
theorem lv_args1 : ∀ (vs : List Value) (b i : Nat) (v : Value), (∀ v ∈ vs, v.category = 1) → vs[i]? = some v → (b + i, v) ∈ lv_args b vs
  | [], b, i, v, _, hi => by simp at hi
  | w :: vs, b, i, v, h, hi => by
    have h1 := h w List.mem_cons_self
    unfold lv_args
    rw [if_neg (by omega)]
    cases i with
    | zero => rw [List.getElem?_cons_zero] at hi; cases hi; exact List.mem_cons_self
    | succ i =>
      rw [List.getElem?_cons_succ] at hi
      have := lv_args1 vs (b + 1) i v (fun w hw => h w (List.mem_cons_of_mem _ hw)) hi
      rw [show b + (i + 1) = b + 1 + i by omega]
      exact List.mem_cons_of_mem _ this
theorem Met.ofWF {l : Launch} {y : MethodName} {ws ws' : List Cond} {rm : Room} {Pc : Array Value → State → Prop} {Qc : Array Value → State → Outcome → State → Prop} {mc ms : Nat} {free : Addr → Prop} {cc : ByteArray} {maxL : Nat} {ret : Option FieldType}
    (hy : plainFor y = true) (hw : ws = Cond.code y cc maxL ret :: ws')
    (body : ∀ p e s m args below meth c s₁, BodyLoose p l y (headSpec ws rm) cc maxL ret e s m args below meth c s₁ → c.maxLocals = maxL → Pc args s →
      W p l e (headSpec ws rm).room s m args below meth c s.heap [] 0 0 (MQ below Qc args s mc ms free) (entryFrame m args maxL)) : Met l y ws rm Pc Qc mc ms free := by
  refine MetFree.of_bodySF (code := cc) (maxLocals := maxL) (ret := ret) hy ?_ ?_
  · intro args s m h hn
    obtain ⟨meth, c, h1, h2, h3, h4, h5, h6, -, -⟩ := Cond.code_spec hn (atoms_spec (ws := ws) h _ (by rw [hw]; exact List.mem_cons_self))
    exact ⟨meth, c, h1, h2, h3, h4, h5, h6⟩
  · intro p e s m args below meth c s₁ B hml hP _
    have hh0 : s₁.heap = s.heap := by rw [B.state]; rfl
    obtain ⟨t, a1, o, b1, b2, b3⟩ := body p e s m args below meth c s₁ B hml hP s₁ hh0 (Stand.of_body B)
    exact ⟨t, o, a1, b1, b2, ⟨b3.1, b3.2⟩⟩
/-- a method's contract out of its walk -/
theorem Ev.of {M : Mt} {As : List Value} {S : St} {Z : Option Value → St → Prop} (hf : MF M) (hc : ∀ v ∈ As, v.category = 1) (hl : As.length ≤ M.2.2.1) (h : Wp M 0 (As ++ List.replicate (M.2.2.1 - As.length) .null) [] S Z) : Ev M As S Z := by
  intro l Y hY
  refine Met.ofWF (cc := M.2.1) (maxL := M.2.2.1) (ret := M.2.2.2.1) hf.2.2.2.2 rfl ?_
  intro p e s m args below meth c s₁ B hml hv
  obtain ⟨rfl, hP, hK, hN⟩ := hv
  have hts := atoms_spec (ws := wsO M) B.pre
  have hown : s.vm.findClass M.1.cls = some m.cls := findClass_of_methodNamed B.named
  have hca : ∀ v ∈ As.map (tr Y.2.2), v.category = 1 := by
    intro v hv
    obtain ⟨w, hw, rfl⟩ := List.mem_map.mp hv
    rw [tr_cat1]
    exact hc w hw
  have hlen : (lg_sl (As.map (tr Y.2.2))).length ≤ M.2.2.1 := by rw [lg_sl1 _ hca, List.length_map, List.length_map]; exact hl
  obtain ⟨k1, k2, k3⟩ := lv_entry (As.map (tr Y.2.2)) (n := M.2.2.1) hlen
  rw [lg_entry_eq]
  refine h l Y hY p e s m _ below meth c ⟨B.exec, B.bytes, B.returns, hml, hown, hts, B.notSynchronized, hN⟩ hK _ _ _ ⟨?_, k1, k2, fun i y hi => ?_, fun i a hi => ?_⟩ hP va_S.rf
  · rw [List.length_append, List.length_replicate]; omega
  · by_cases hil : i < As.length
    · rw [List.getElem?_append_left hil] at hi
      have h1 := lv_args1 (As.map (tr Y.2.2)) 0 i (.int y) hca (by rw [List.getElem?_map, hi]; rfl)
      rw [Nat.zero_add] at h1
      exact k3 _ h1
    · rw [List.getElem?_append_right (by omega)] at hi
      have := List.eq_of_mem_replicate (List.mem_of_getElem? hi)
      cases this
  · by_cases hil : i < As.length
    · rw [List.getElem?_append_left hil] at hi
      have h1 := lv_args1 (As.map (tr Y.2.2)) 0 i (.ref (Y.2.2 a)) hca (by rw [List.getElem?_map, hi]; rfl)
      rw [Nat.zero_add] at h1
      exact k3 _ h1
    · rw [List.getElem?_append_right (by omega)] at hi
      have := List.eq_of_mem_replicate (List.mem_of_getElem? hi)
      cases this
theorem Ev.mono {M : Mt} {As : List Value} {S : St} {Z Z' : Option Value → St → Prop} (h : Ev M As S Z) (hz : ∀ r S', Z r S' → Z' r S') : Ev M As S Z' := by
  intro l Y hY
  have h1 := h l Y hY
  unfold Met at h1 ⊢
  intro p e ha hc hk s m args below hf happ hpre hK
  obtain ⟨k, o, h1, h2, h3, ⟨⟨⟨r, S', q1, q2, q3⟩, qF⟩, hL⟩⟩ := h1 p e ha hc hk s m args below hf happ hpre hK
  exact ⟨k, o, h1, h2, h3, ⟨⟨r, S', q1, hz r S' q2, q3⟩, qF⟩, hL⟩
