/-! Making: worlds as lists of (address, cell). -/
theorem NW.again {u U : State} (hv : u.vm = U.vm) (h : NW u) : NW U := NW.same hv h
/-- what holds of the tables while things are made: cs gives the classes of int[], boolean[], int[][], Entry[] -/
def GP (D : va_G) (cs : Nat → ClassId) (U : State) : Prop := va_K D zcl (ztys (D, cs, fun _ => 0)) U ∧ NW U ∧ va_AOA .int U ∧ va_AO "QuantisedLists$Entry" U
theorem GP.warm {D : va_G} {cs : Nat → ClassId} {s U : State} (hW : s.WarmedH U.vm) (h : GP D cs s) : GP D cs U := ⟨va_K.moved hW.alike h.1, NW.warm hW h.2.1, va_AOA.moved hW.alike h.2.2.1, va_AO.moved hW.alike h.2.2.2⟩
theorem GP.same {D : va_G} {cs : Nat → ClassId} {u U : State} (hv : u.vm = U.vm) (h : GP D cs u) : GP D cs U := by
  have hA : u.vm.Alike U.vm := by rw [hv]; exact Vm.Alike.refl _
  exact ⟨va_K.moved hA h.1, NW.same hv h.2.1, va_AOA.moved hA h.2.2.1, va_AO.moved hA h.2.2.2⟩
def CX (M : Mt) (p : Program) (s : State) (m : MethodId) (args : Array Value) (meth : Method) (c : Code) : Prop := p.tables.exec = Jvm.exec ∧ c.code = M.2.1 ∧ c.maxLocals = M.2.2.1 ∧ s.vm.findClass M.1.cls = some m.cls ∧ (∀ w ∈ gtbl, w.before args s = true) ∧ meth.locks = false ∧ meth.sig.returnType = M.2.2.2.1
def rmC (M : Mt) (k n : Nat) : Room := { frames := M.2.2.2.2.1, cells := k, slots := n, locals := M.2.2.2.2.2 }
def QC (D : va_G) (A : Nat → Prop) (P : va_W → Prop) : Array Value → State → Outcome → State → Prop := va_Qv P (fun w t => va_P D zcl w t.heap ∧ va_D A w) A
def PC (D : va_G) (cs : Nat → ClassId) (h0 ci : Nat) (fs : List Value) (sz : Nat) : Array Value → State → Prop := va_Pc [.ref h0] (fun U => U.heap.size = sz ∧ va_P D zcl [(h0, .inr (ci, fs))] U.heap ∧ GP D cs U)
/-- a constructor's contract: the fresh object becomes the world of P -/
def Cn (M : Mt) (ci : Nat) (fs : List Value) (k n : Nat) (P : (Nat → ClassId) → Nat → va_W → Prop) : Prop := ∀ (l : Launch) (D : va_G) (cs : Nat → ClassId) (h0 sz : Nat), Met l M.1 (wsO M) (rmC M k n) (PC D cs h0 ci fs sz) (QC D (va_A [(h0, .inr (ci, fs))] sz) (P cs h0)) k n (va_A [(h0, .inr (ci, fs))] sz)
theorem PC_blind (D : va_G) (cs : Nat → ClassId) (h0 ci : Nat) (fs : List Value) (sz : Nat) : FrameBlind (PC D cs h0 ci fs sz) := by
  intro a U g mk q
  obtain ⟨q0, q1, qP, qG⟩ := q
  exact ⟨q0, q1, qP, GP.same (u := U) (U := U.calling g mk a) rfl qG⟩
theorem va_D1 {A : Nat → Prop} {x : Nat × va_E} (h : A x.1) : va_D A [x] := by
  have key : ∀ (k : Nat) (q : Nat × va_E), [x][k]? = some q → k = 0 ∧ q = x := fun k q hk => by
    have h0 : k < 1 := (List.getElem?_eq_some_iff.mp hk).1
    have : k = 0 := by omega
    subst this
    exact ⟨rfl, (Option.some.inj hk).symm⟩
  exact ⟨fun i j p q hi hj _ => by rw [(key i p hi).1, (key j q hj).1], fun k q hk => by rw [(key k q hk).2]; exact h⟩
theorem Cn.of {M : Mt} {ci : Nat} {fs : List Value} {k n : Nat} {P : (Nat → ClassId) → Nat → va_W → Prop} (hM : MI M) (hL : 1 ≤ M.2.2.1)
    (h : ∀ (l : Launch) (D : va_G) (cs : Nat → ClassId) (h0 : Nat) (A : Nat → Prop) (p : Program) (e : Env) (s : State) (m : MethodId) (args : Array Value) (below : List Frame) (meth : Method) (c : Code), CX M p s m args meth c → meth.name = "<init>" → GP D cs s → (∀ q, s.heap.size ≤ q → A q) → ∀ ls : Array Slot, LR id ([.ref h0] ++ List.replicate (M.2.2.1 - 1) .null) M.2.2.1 ls → va_P D zcl [(h0, .inr (ci, fs))] s.heap → va_D A [(h0, .inr (ci, fs))] → W p l e (rmC M k n) s m args below meth c s.heap [] 0 0 (MQ below (QC D A (P cs h0)) args s k n A) (F0 m 0 ls [])) : Cn M ci fs k n P := by
  intro l D cs h0 sz
  refine Met.ofW (cc := M.2.1) (maxL := M.2.2.1) (ret := M.2.2.2.1) hM.2.2.2.2.1 rfl ?_
  intro p e s m args below meth c s₁ B hml hv
  obtain ⟨rfl, hsz, hP, hG⟩ := hv
  subst hsz
  have hts := atoms_spec (ws := wsO M) B.pre
  have hown : s.vm.findClass M.1.cls = some m.cls := findClass_of_methodNamed B.named
  have hin : meth.name = "<init>" := ((name_of_methodNamed B.named B.method).1).trans hM.2.2.2.2.2.1
  have hlen : (lg_sl [Value.ref h0]).length ≤ M.2.2.1 := hL
  obtain ⟨k1, k2, k3⟩ := lv_entry [Value.ref h0] (n := M.2.2.1) hlen
  rw [lg_entry_eq]
  refine h l D cs h0 _ p e s m _ below meth c ⟨B.exec, B.bytes, hml, hown, fun w hw => hts w (List.mem_cons_of_mem _ hw), B.notSynchronized, B.returns⟩ hin hG (fun q hq => Or.inr hq) _ ⟨?_, k1, k2, fun i y hi => ?_, fun i a hi => ?_⟩ hP (va_D1 (va_A.in (k := 0) rfl))
  · rw [List.length_append, List.length_replicate]; show 1 + (M.2.2.1 - 1) = M.2.2.1; omega
  · by_cases hil : i < 1
    · have : i = 0 := by omega
      subst this
      cases hi
    · rw [List.getElem?_append_right (by show 1 ≤ i; omega)] at hi
      have := List.eq_of_mem_replicate (List.mem_of_getElem? hi)
      cases this
  · by_cases hil : i < 1
    · have : i = 0 := by omega
      subst this
      cases hi
      exact k3 (0, .ref h0) List.mem_cons_self
    · rw [List.getElem?_append_right (by show 1 ≤ i; omega)] at hi
      have := List.eq_of_mem_replicate (List.mem_of_getElem? hi)
      cases this
section MK
variable {M : Mt} {p : Program} {l : Launch} {e : Env} {R : Room} {s : State} {m : MethodId} {args : Array Value} {below : List Frame} {meth : Method} {c : Code} {H : Heap} {locs : List Loc} {kc ns : Nat} {Q : State → Prop} {pc : Nat} {ls : Array Slot} {rest : List Value} {D : va_G} {cs : Nat → ClassId} {A : Nat → Prop} {ws : va_W}
theorem c_obj (X : CX M p s m args meth c) {idx : Nat} (hl : Cond.methodLink M.1.cls idx objectInit ∈ gtbl) (hls : ls.size = M.2.2.1) {a : Nat} (hd : decode M.2.1 pc = .ok (.invokespecial idx, 3)) (hR : 1 ≤ R.frames ∧ 12 ≤ R.locals) (kk : W p l e R s m args below meth c H locs kc ns Q (F0 m (pc + 3) ls [])) : W p l e R s m args below meth c H locs kc ns Q (F0 m pc ls [.ref a]) :=
  W.objInit X.1 X.2.1 X.2.2.2.1 (X.2.2.2.2.1 _ hl) (X.2.2.2.2.1 _ oI_inst) (X.2.2.2.2.1 _ oI_code) rfl (by rw [X.2.2.1]; exact hls) rfl hd hR.1 (by show 2 * 0 + 0 + 12 ≤ _; omega) kk
/-- an array class is one -/
theorem K_same {t : FieldType} {i : Nat} (hi : (ztys (D, cs, fun _ => 0))[i]? = some (cs i, t)) (h : va_K D zcl (ztys (D, cs, fun _ => 0)) s) {cA : ClassId} (h2 : va_K D zcl (ztys (D, cs, fun _ => 0) ++ [(cA, t)]) s) : cA = cs i := by
  have a1 := (h.2 i _ hi).2
  have a2 := (h2.2 4 (cA, t) rfl).2
  cases t with
  | object C =>
    obtain ⟨k1, c1, -, -, -, e1⟩ := a1
    obtain ⟨k2, c2, -, -, -, e2⟩ := a2
    exact Option.some.inj (e2.symm.trans e1)
  | _ => exact Option.some.inj (Eq.trans (Eq.symm a2) a1)
theorem c_newI (X : CX M p s m args meth c) (hG : GP D cs s) (hP : va_P D zcl ws H) (hD : va_D A ws) (hS : va_S A s.heap H locs) (hA : ∀ q, s.heap.size ≤ q → A q) {N : Nat} (hN2 : N ≤ 5000) (hc : kc + 1 ≤ R.cells) (hs : ns + N ≤ R.slots) (hd : decode M.2.1 pc = .ok (.newarray .int, 2))
    (kk : ∀ (q : Nat) (H1 : Heap), va_P D zcl (ws ++ [(q, .inl (cs 0, N, .inl (fun _ => 0)))]) H1 → va_D A (ws ++ [(q, .inl (cs 0, N, .inl (fun _ => 0)))]) → va_S A s.heap H1 locs → W p l e R s m args below meth c H1 locs (kc + 1) (ns + N) Q (F0 m (pc + 2) ls (.ref q :: rest))) : W p l e R s m args below meth c H locs kc ns Q (F0 m pc ls (.int (nI N) :: rest)) := by
  refine va_newa (atype := .int) X.1 X.2.1 (X.2.2.2.2.1 _ ac_I) (ty := .int) rfl hG.1 hP hD hS hA (a0 := (N, .inl (fun _ => 0))) (fun cA => rfl) (nI_pos (by omega)) (nI_clamp (by omega)) (by show N * 4 ≤ _; omega) hc hs hd (fun q cA H1 hK hP hD hS => ?_)
  obtain rfl := K_same (i := 0) rfl hG.1 hK
  exact kk q H1 hP hD hS
theorem c_newZ (X : CX M p s m args meth c) (hG : GP D cs s) (hP : va_P D zcl ws H) (hD : va_D A ws) (hS : va_S A s.heap H locs) (hA : ∀ q, s.heap.size ≤ q → A q) {N : Nat} (hN2 : N ≤ 5000) (hc : kc + 1 ≤ R.cells) (hs : ns + N ≤ R.slots) (hd : decode M.2.1 pc = .ok (.newarray .boolean, 2))
    (kk : ∀ (q : Nat) (H1 : Heap), va_P D zcl (ws ++ [(q, .inl (cs 1, N, .inl (fun _ => 0)))]) H1 → va_D A (ws ++ [(q, .inl (cs 1, N, .inl (fun _ => 0)))]) → va_S A s.heap H1 locs → W p l e R s m args below meth c H1 locs (kc + 1) (ns + N) Q (F0 m (pc + 2) ls (.ref q :: rest))) : W p l e R s m args below meth c H locs kc ns Q (F0 m pc ls (.int (nI N) :: rest)) := by
  refine va_newa (atype := .boolean) X.1 X.2.1 (X.2.2.2.2.1 _ ac_Z) (ty := .boolean) rfl hG.1 hP hD hS hA (a0 := (N, .inl (fun _ => 0))) (fun cA => rfl) (nI_pos (by omega)) (nI_clamp (by omega)) (by show N * 1 ≤ _; omega) hc hs hd (fun q cA H1 hK hP hD hS => ?_)
  obtain rfl := K_same (i := 1) rfl hG.1 hK
  exact kk q H1 hP hD hS
/-- cells that are the same as far as they are long -/
theorem at_refs {D : va_G} {cl : List vw_C} {a N : Nat} {cA : ClassId} {f g : Nat → Option Nat} {H : Heap} (h : va_at D cl (a, .inl (cA, N, .inr (.inr (.inr (.inr f))))) H) (hfg : ∀ i, i < N → f i = g i) : va_at D cl (a, .inl (cA, N, .inr (.inr (.inr (.inr g))))) H := by
  have h' : H[a]? = some (vp_cell cA (N, .inr (.inr (.inr (.inr f))))) := h
  show H[a]? = some (vp_cell cA (N, .inr (.inr (.inr (.inr g)))))
  rw [h', vp_cell_q, vp_cell_q]
  refine congrArg some ?_
  unfold arrV
  refine congrArg (fun x => ({ cls := cA, slots := x, vm := .none } : Cell)) ?_
  apply Array.ext
  · simp
  · intro i h1 h2
    simp only [Array.size_ofFn] at h1
    simp [hfg i h1]
def grd (c : ClassId) (N : Nat) (r : Nat → Nat) : va_E := .inl (c, N, .inr (.inr (.inr (.inr (fun i => some (r i))))))
def zrs (c : ClassId) (N : Nat) : va_E := .inl (c, N, .inl (fun _ => 0))
def rws (c : ClassId) (N K : Nat) (r : Nat → Nat) : va_W := (List.range N).map (fun i => (r i, zrs c K))
theorem P_swap {D : va_G} {cl : List vw_C} {X Z : va_W} {a : Nat} {e e' : va_E} {H : Heap} (h : va_P D cl ((X ++ [(a, e)]) ++ Z) H) (he : va_at D cl (a, e) H → va_at D cl (a, e') H) : va_P D cl ((X ++ [(a, e')]) ++ Z) H := by
  intro k q hk
  rcases List.mem_append.mp (List.mem_of_getElem? hk) with h1 | h1
  · rcases List.mem_append.mp h1 with h2 | h2
    · obtain ⟨i, hi⟩ := List.getElem?_of_mem (List.mem_append_left Z (List.mem_append_left [(a, e)] h2))
      exact h i q hi
    · have : q = (a, e') := List.mem_singleton.mp h2
      subst this
      obtain ⟨i, hi⟩ := List.getElem?_of_mem (show (a, e) ∈ (X ++ [(a, e)]) ++ Z from List.mem_append_left Z (List.mem_append_right X List.mem_cons_self))
      exact he (h i _ hi)
  · obtain ⟨i, hi⟩ := List.getElem?_of_mem (List.mem_append_right (X ++ [(a, e)]) h1)
    exact h i q hi
theorem D_swap {A : Nat → Prop} {X Z : va_W} {a : Nat} {e e' : va_E} (h : va_D A ((X ++ [(a, e)]) ++ Z)) : va_D A ((X ++ [(a, e')]) ++ Z) := by
  have hp : ((X ++ [(a, e)]) ++ Z)[X.length]? = some (a, e) := by
    rw [List.append_assoc, List.getElem?_append_right (Nat.le_refl _), Nat.sub_self]
    rfl
  have := va_D.set (e := e') h hp
  have es : ((X ++ [(a, e)]) ++ Z).set X.length (a, e') = (X ++ [(a, e')]) ++ Z := by
    rw [List.append_assoc, List.append_assoc, List.set_append_right _ _ (Nat.le_refl _), Nat.sub_self]
    rfl
  rw [es] at this
  exact this
theorem c_mna (X : CX M p s m args meth c) (hG : GP D cs s) (hP : va_P D zcl ws H) (hD : va_D A ws) (hS : va_S A s.heap H locs) (hA : ∀ q, s.heap.size ≤ q → A q) {idx N K : Nat} (hl : Cond.classLink M.1.cls idx "[[I" ∈ gtbl) (hN : N ≤ 100) (hK' : K ≤ 100) (hc : kc + (1 + N) ≤ R.cells) (hs : ns + (N + N * K) ≤ R.slots) (hd : decode M.2.1 pc = .ok (.multianewarray idx 2, 4))
    (kk : ∀ (q : Nat) (r : Nat → Nat) (H1 : Heap), va_P D zcl ((ws ++ [(q, grd (cs 2) N r)]) ++ rws (cs 0) N K r) H1 → va_D A ((ws ++ [(q, grd (cs 2) N r)]) ++ rws (cs 0) N K r) → va_S A s.heap H1 locs → W p l e R s m args below meth c H1 locs (kc + 1 + N) (ns + N + N * K) Q (F0 m (pc + 4) ls (.ref q :: rest))) : W p l e R s m args below meth c H locs kc ns Q (F0 m pc ls (.int (nI K) :: .int (nI N) :: rest)) := by
  have hcy : s.vm.findClass (FieldType.array .int).toString = some (cs 0) := (hG.1.2 0 (cs 0, .int) rfl).2
  refine va_mna (X := ws) (L := []) (f := fun _ => zrs (cs 0) 0) (ty := .int) (cy := cs 0) (z := (K, .inl (fun _ => 0))) (N' := N) (K' := K) X.1 X.2.1 X.2.2.2.1 (X.2.2.2.2.1 _ hl) hG.2.2.1 (X.2.2.2.2.1 _ ac_I) hcy hG.1 (by show va_P D zcl (ws ++ []) H; rw [List.append_nil]; exact hP) (by show va_D A (ws ++ []); rw [List.append_nil]; exact hD) hS hA (nI_pos (by omega)) (nI_pos (by omega)) (nI_clamp (by omega)) (nI_clamp (by omega)) (by omega) (by show K * 4 ≤ _; omega) (by omega) rfl rfl hc hs (fun c0 => ?_) hd (fun q r cA H1 hinj _ hK2 hP hD hS => ?_)
  · rw [vp_cell_i]
    show ({ cls := c0, slots := Array.replicate K (.int 0), vm := .none } : Cell) = _
    exact arrV_new c0 K (.int 0)
  · obtain rfl := K_same (i := 2) rfl hG.1 hK2
    have erow : va_pl ([] ++ (List.range N).map r) (vr_up (fun _ => zrs (cs 0) 0) ((List.range N).map r) (.inl (cs 0, K, .inl (fun _ => 0)))) = rws (cs 0) N K r := by
      rw [← vr_rows (L := []) (fun a _ h => absurd h List.not_mem_nil)]
      show [] ++ ((List.range N).map r).map _ = _
      rw [List.nil_append, List.map_map]
      rfl
    rw [erow] at hP hD
    exact kk q r H1 (P_swap hP (fun h => at_refs h (fun i hi => if_pos hi))) (D_swap hD) hS
theorem c_newq (X : CX M p s m args meth c) (hG : GP D cs s) (hP : va_P D zcl ws H) (hD : va_D A ws) (hS : va_S A s.heap H locs) (hA : ∀ q, s.heap.size ≤ q → A q) {idx N : Nat} (hl : Cond.classLink M.1.cls idx "QuantisedLists$Entry" ∈ gtbl) (hN : N ≤ 100) (hc : kc + 1 ≤ R.cells) (hs : ns + N ≤ R.slots) (hd : decode M.2.1 pc = .ok (.anewarray idx, 3))
    (kk : ∀ (q : Nat) (H1 : Heap), va_P D zcl (ws ++ [(q, .inl (cs 3, N, .inr (.inr (.inr (.inr (fun _ => none))))))]) H1 → va_D A (ws ++ [(q, .inl (cs 3, N, .inr (.inr (.inr (.inr (fun _ => none))))))]) → va_S A s.heap H1 locs → W p l e R s m args below meth c H1 locs (kc + 1) (ns + N) Q (F0 m (pc + 3) ls (.ref q :: rest))) : W p l e R s m args below meth c H locs kc ns Q (F0 m pc ls (.int (nI N) :: rest)) := by
  refine va_newq X.1 X.2.1 X.2.2.2.1 (X.2.2.2.2.1 _ hl) hG.2.2.2 hG.1 hP hD hS hA (nI_pos (by omega)) (nI_clamp (by omega)) (by omega) hc hs hd (fun q cA H1 hK hP hD hS => ?_)
  obtain rfl := K_same (i := 3) rfl hG.1 hK
  exact kk q H1 hP hD hS
theorem c_new (X : CX M p s m args meth c) (hG : GP D cs s) (hP : va_P D zcl ws H) (hD : va_D A ws) (hS : va_S A s.heap H locs) (hA : ∀ q, s.heap.size ≤ q → A q) {idx ci N : Nat} {C : String} {T : u_T} (hl : Cond.classLink M.1.cls idx C ∈ gtbl) (hin : Cond.instantiable C N ∈ gtbl) (hii : Cond.initialized C ∈ gtbl) (hz : zcl[ci]? = some (C, T, N)) (ty : Nat → FieldType) (hty : ∀ k, k < N → parseFieldDescriptor (T k).2.2.1 = some (ty k)) {fs : List Value} (hfs : ∀ j, j < N → defaultValue (ty j) = vp_V fs j) (hc : kc + 1 ≤ R.cells) (hs : ns + N ≤ R.slots) (hd : decode M.2.1 pc = .ok (.new idx, 3))
    (kk : ∀ (q : Nat) (H1 : Heap), va_P D zcl (ws ++ [(q, .inr (ci, fs))]) H1 → va_D A (ws ++ [(q, .inr (ci, fs))]) → va_S A s.heap H1 locs → W p l e R s m args below meth c H1 locs (kc + 1) (ns + N) Q (F0 m (pc + 3) ls (.ref q :: rest))) : W p l e R s m args below meth c H locs kc ns Q (F0 m pc ls rest) :=
  va_new X.1 X.2.1 (Ts := gtbl) X.2.2.2.2.1 (zcf hz).1 ty hty X.2.2.2.1 (X.2.2.2.2.1 _ hl) (X.2.2.2.2.1 _ hin) (X.2.2.2.2.1 _ hii) hG.1 hP hD hS hA hz hfs hc hs hd kk
/-- a final field, in its own constructor -/
theorem c_putF (X : CX M p s m args meth c) (hnm : meth.name = "<init>") (hG : GP D cs s) (hP : va_P D zcl ws H) (hD : va_D A ws) (hS : va_S A s.heap H locs) {idx ci k : Nat} (hf : FL M.1.cls idx ci k) (hfo : ∀ (C : String) (T : u_T) (N : Nat), zcl[ci]? = some (C, T, N) → C = M.1.cls ∧ (T k).2.2.2 = true ∧ Cond.fieldLink M.1.cls idx C (T k).2.1 (T k).2.2.1 ∈ gtbl ∧ ∃ ty, parseFieldDescriptor (T k).2.2.1 = some ty ∧ ∀ b : Nat, narrow ty (.ref b) = .ref b ∧ fits ty (.ref b) = true) (q0 : Nat) {a b : Nat} {fs : List Value} (he : ws[q0]? = some (a, .inr (ci, fs))) (hk : k < fs.length) (hd : decode M.2.1 pc = .ok (.putfield idx, 3))
    (kk : ∀ (H1 : Heap) (locs1 : List Loc), va_P D zcl (ws.set q0 (a, .inr (ci, fs.set k (.ref b)))) H1 → va_D A (ws.set q0 (a, .inr (ci, fs.set k (.ref b)))) → va_S A s.heap H1 locs1 → W p l e R s m args below meth c H1 locs1 kc ns Q (F0 m (pc + 3) ls rest)) : W p l e R s m args below meth c H locs kc ns Q (F0 m pc ls (.ref b :: .ref a :: rest)) := by
  obtain ⟨C, T, N, hz, hkN, hTC, -⟩ := hf
  obtain ⟨hC, hfin, hlk, ty, hty, hfit⟩ := hfo C T N hz
  obtain ⟨z1, ⟨t0, z2⟩, z3⟩ := zcf hz
  exact va_putF X.1 X.2.1 (Ts := gtbl) X.2.2.2.2.1 z1 t0 z2 z3 X.2.2.2.1 hG.1 hP hD hS q0 he hz k hkN (X.2.2.2.2.1 _ hlk) (fun _ h9 => by rw [hTC] at h9; exact h9) hfin hnm (hTC.trans hC) hty (hfit b).1 (hfit b).2 hk hd kk
theorem c_putI (X : CX M p s m args meth c) (hG : GP D cs s) (hP : va_P D zcl ws H) (hD : va_D A ws) (hS : va_S A s.heap H locs) {idx ci k : Nat} (hf : FL M.1.cls idx ci k) (hfo : ∀ (C : String) (T : u_T) (N : Nat), zcl[ci]? = some (C, T, N) → Cond.fieldLink M.1.cls idx C (T k).2.1 (T k).2.2.1 ∈ gtbl) (hw : FW ci k .int) (q0 : Nat) {a : Nat} {v : Int32} {fs : List Value} (he : ws[q0]? = some (a, .inr (ci, fs))) (hk : k < fs.length) (hd : decode M.2.1 pc = .ok (.putfield idx, 3))
    (kk : ∀ (H1 : Heap) (locs1 : List Loc), va_P D zcl (ws.set q0 (a, .inr (ci, fs.set k (.int v)))) H1 → va_D A (ws.set q0 (a, .inr (ci, fs.set k (.int v)))) → va_S A s.heap H1 locs1 → W p l e R s m args below meth c H1 locs1 kc ns Q (F0 m (pc + 3) ls rest)) : W p l e R s m args below meth c H locs kc ns Q (F0 m pc ls (.int v :: .ref a :: rest)) := by
  obtain ⟨C, T, N, hz, hkN, hTC, -⟩ := hf
  obtain ⟨z1, ⟨t0, z2⟩, z3⟩ := zcf hz
  obtain ⟨w1, w2⟩ := hw C T N hz
  exact va_put X.1 X.2.1 (Ts := gtbl) X.2.2.2.2.1 z1 t0 z2 z3 X.2.2.2.1 hG.1 hP hD hS q0 he hz k hkN (X.2.2.2.2.1 _ (hfo C T N hz)) (fun _ h9 => by rw [hTC] at h9; exact h9) w1 w2 rfl rfl hk hd kk
theorem c_getR (X : CX M p s m args meth c) (hG : GP D cs s) (hP : va_P D zcl ws H) {idx ci k : Nat} (hf : FL M.1.cls idx ci k) (hfo : ∀ (C : String) (T : u_T) (N : Nat), zcl[ci]? = some (C, T, N) → Cond.fieldLink M.1.cls idx C (T k).2.1 (T k).2.2.1 ∈ gtbl) (q0 : Nat) {a : Nat} {v : Value} {fs : List Value} (he : ws[q0]? = some (a, .inr (ci, fs))) (hv : fs[k]? = some v) (hd : decode M.2.1 pc = .ok (.getfield idx, 3))
    (kk : W p l e R s m args below meth c H locs kc ns Q (F0 m (pc + 3) ls (v :: rest))) : W p l e R s m args below meth c H locs kc ns Q (F0 m pc ls (.ref a :: rest)) := by
  obtain ⟨C, T, N, hz, hkN, hTC, -⟩ := hf
  obtain ⟨z1, ⟨t0, z2⟩, z3⟩ := zcf hz
  exact va_get X.1 X.2.1 (Ts := gtbl) X.2.2.2.2.1 z1 X.2.2.2.1 hG.1 hP q0 he hz k hkN (X.2.2.2.2.1 _ (hfo C T N hz)) (fun _ h9 => by rw [hTC] at h9; exact h9) hv hd kk
theorem c_iast (X : CX M p s m args meth c) (hG : GP D cs s) (hP : va_P D zcl ws H) (hD : va_D A ws) (hS : va_S A s.heap H locs) (q0 : Nat) {a N i : Nat} {f : Nat → Int32} {x : Int32} (he : ws[q0]? = some (a, .inl (cs 0, N, .inl f))) (hi : i < N) (hN : N < 2 ^ 31) (hd : decode M.2.1 pc = .ok (.iastore, 1))
    (kk : ∀ (H1 : Heap) (locs1 : List Loc), va_P D zcl (ws.set q0 (a, .inl (cs 0, N, .inl (upd f i x)))) H1 → va_D A (ws.set q0 (a, .inl (cs 0, N, .inl (upd f i x)))) → va_S A s.heap H1 locs1 → W p l e R s m args below meth c H1 locs1 kc ns Q (F0 m (pc + 1) ls rest)) : W p l e R s m args below meth c H locs kc ns Q (F0 m pc ls (.int x :: .int (nI i) :: .ref a :: rest)) := by
  refine va_iast X.1 X.2.1 hG.1 hP hD hS q0 0 he rfl (nI_in hi hN) hd ?_
  rw [nI_clamp (by omega)]
  exact kk
theorem c_astq (X : CX M p s m args meth c) (hG : GP D cs s) (hP : va_P D zcl ws H) (hD : va_D A ws) (hS : va_S A s.heap H locs) (q0 qk : Nat) {a N i v : Nat} {f : Nat → Option Nat} {vs : List Value} (he : ws[q0]? = some (a, .inl (cs 3, N, .inr (.inr (.inr (.inr f)))))) (hv : ws[qk]? = some (v, .inr (9, vs))) (hi : i < N) (hN : N < 2 ^ 31) (hd : decode M.2.1 pc = .ok (.aastore, 1))
    (kk : ∀ (H1 : Heap) (locs1 : List Loc), va_P D zcl (ws.set q0 (a, .inl (cs 3, N, .inr (.inr (.inr (.inr (va_up f i (some v)))))))) H1 → va_D A (ws.set q0 (a, .inl (cs 3, N, .inr (.inr (.inr (.inr (va_up f i (some v)))))))) → va_S A s.heap H1 locs1 → W p l e R s m args below meth c H1 locs1 kc ns Q (F0 m (pc + 1) ls rest)) : W p l e R s m args below meth c H locs kc ns Q (F0 m pc ls (.ref v :: .int (nI i) :: .ref a :: rest)) := by
  refine va_astq X.1 X.2.1 hG.1 hP hD hS q0 3 qk 9 he rfl hv rfl (nI_in hi hN) hd ?_
  rw [nI_clamp (by omega)]
  exact kk
/-- behind a constructor's call: the old cells, and the callee's -/
theorem c_join {wr w1 : va_W} {x : Nat × va_E} {H1 : Heap} (hP : va_P D zcl (wr ++ [x]) H) (hD : va_D A (wr ++ [x])) (hF : ∀ q, va_A [x] H.size q → A q) (hk : ∀ q : Nat, q < H.size → ¬ va_A [x] H.size q → H1[q]? = H[q]?) (hP1 : va_P D zcl w1 H1) (hD1 : va_D (va_A [x] H.size) w1) : va_P D zcl (wr ++ w1) H1 ∧ va_D A (wr ++ w1) := by
  have apart : ∀ (i : Nat) (q : Nat × va_E), wr[i]? = some q → q.1 < H.size ∧ ¬ va_A [x] H.size q.1 := fun i q hq => by
    have hil : i < wr.length := (List.getElem?_eq_some_iff.mp hq).1
    have h1 : (wr ++ [x])[i]? = some q := by rw [List.getElem?_append_left hil]; exact hq
    have hlt := (hP i q h1).lt
    refine ⟨hlt, fun z => ?_⟩
    rcases z with ⟨k9, e9, hz⟩ | hz
    · have h0 : k9 < 1 := (List.getElem?_eq_some_iff.mp hz).1
      have : k9 = 0 := by omega
      subst this
      have hx : x = (q.1, e9) := Option.some.inj hz
      have h2 : (wr ++ [x])[wr.length]? = some x := by rw [List.getElem?_append_right (Nat.le_refl _), Nat.sub_self]; rfl
      have := hD.1 i wr.length q x h1 h2 (by rw [hx])
      omega
    · omega
  have hwr : va_P D zcl wr H := fun i q hq => hP i q (by rw [List.getElem?_append_left (List.getElem?_eq_some_iff.mp hq).1]; exact hq)
  have hDr : va_D A wr := ⟨fun i j p q hi hj => hD.1 i j p q (by rw [List.getElem?_append_left (List.getElem?_eq_some_iff.mp hi).1]; exact hi) (by rw [List.getElem?_append_left (List.getElem?_eq_some_iff.mp hj).1]; exact hj), fun i q hq => hD.2 i q (by rw [List.getElem?_append_left (List.getElem?_eq_some_iff.mp hq).1]; exact hq)⟩
  exact ⟨(hwr.kept (fun i q hq => hk q.1 (apart i q hq).1 (apart i q hq).2)).app hP1, hDr.app (hD1.weaken (fun _ q _ h => hF q.1 h)) (fun i j p q hi hj hpq => (apart i p hi).2 (by rw [hpq]; exact hD1.2 j q hj))⟩
theorem good_g {N : Mt} (h : Cond.code N.1 N.2.1 N.2.2.1 N.2.2.2.1 ∈ gtbl) : GoodIn gtbl (wsO N) := by
  intro w hw
  rcases List.mem_cons.mp hw with rfl | hw
  · exact ⟨h, good_of_word (List.mem_filter.mp h).2⟩
  · exact ⟨hw, good_of_word (List.mem_filter.mp hw).2⟩
theorem c_call {N : Mt} {ci k n : Nat} {fs : List Value} {P : (Nat → ClassId) → Nat → va_W → Prop} (hC : Cn N ci fs k n P) (hI : MI N) (X : CX M p s m args meth c) (hG : GP D cs s) {idx q : Nat} (hl : LK M.1.cls idx N.1) (hR : N.2.2.2.2.1 + 1 ≤ R.frames ∧ 8 + (N.2.2.1 + 11) + N.2.2.2.2.2 ≤ R.locals) (hP : va_P D zcl (ws ++ [(q, .inr (ci, fs))]) H) (hD : va_D A (ws ++ [(q, .inr (ci, fs))])) (hS : va_S A s.heap H locs) (hA : ∀ q, s.heap.size ≤ q → A q) (hls : ls.size = M.2.2.1) (hrest : (rest.map fun v => v.category).sum ≤ 8) (hd : decode M.2.1 pc = .ok (.invokespecial idx, 3)) (hc : kc + k ≤ R.cells) (hs : ns + n ≤ R.slots)
    (kk : ∀ (w : va_W) (H1 : Heap) (locs1 : List Loc), P cs q w → va_P D zcl (ws ++ w) H1 → va_D A (ws ++ w) → va_S A s.heap H1 locs1 → W p l e R s m args below meth c H1 locs1 (kc + k) (ns + n) Q (F0 m (pc + 3) ls rest)) : W p l e R s m args below meth c H locs kc ns Q (F0 m pc ls (.ref q :: rest)) := by
  have hlast : (ws ++ [(q, (.inr (ci, fs) : va_E))])[ws.length]? = some (q, .inr (ci, fs)) := by rw [List.getElem?_append_right (Nat.le_refl _), Nat.sub_self]; rfl
  have hF : ∀ q', va_A [(q, (.inr (ci, fs) : va_E))] H.size q' → A q' := fun q' h => by
    rcases h with ⟨k9, e9, hz⟩ | hz
    · have h0 : k9 < 1 := (List.getElem?_eq_some_iff.mp hz).1
      have : k9 = 0 := by omega
      subst this
      have hx := Option.some.inj hz
      have := hD.2 _ _ hlast
      rw [hx] at this
      exact this
    · exact hA q' (Nat.le_trans hS.1 hz)
  have hP0 : va_P D zcl [(q, .inr (ci, fs))] H := fun k9 x hx => by
    have h0 : k9 < 1 := (List.getElem?_eq_some_iff.mp hx).1
    have : k9 = 0 := by omega
    subst this
    have hx := Option.some.inj hx
    rw [← hx]
    exact hP _ _ hlast
  have hpre : PreS s H (PC D cs q ci fs H.size) (.ref q :: []) := ⟨PC_blind _ _ _ _ _ _, fun U hU hW => ⟨rfl, by rw [hU], by rw [hU]; exact hP0, hG.warm hW⟩⟩
  have hrun : va_Run p l e R s m args below meth c H locs kc ns k n (F0 m pc ls (.ref q :: rest)) rest (QC D (va_A [(q, .inr (ci, fs))] H.size) (P cs q) #[.ref q]) (va_A [(q, .inr (ci, fs))] H.size) := by
    rcases hl with hl | ⟨host, hl⟩
    · have hcb : CallB R s args M.1.cls idx N.1 N.2.1 N.2.2.1 none (wsO N) (rmC N k n) k n 0 := by
        have := callB_of (R := R) (rm := rmC N k n) (own := M.1.cls) (index := idx) 0 X.2.2.2.2.1 (good_g hI.1) rfl rfl rfl (X.2.2.2.2.1 _ hI.2.1) (X.2.2.2.2.1 _ hl) hI.2.2.2.1 hR
        rw [hI.2.2.2.2.2.2] at this
        exact this
      exact va_runI (cc := M.2.1) (nL := M.2.2.1) (Ts := gtbl) (own := M.1.cls) (As := []) (rest := rest) ⟨X.1, X.2.1, X.2.2.1, X.2.2.2.1, X.2.2.2.2.1⟩ (hC l D cs q H.size) ⟨hcb, hI.2.2.2.2.2.1, X.2.2.2.2.1 _ hI.2.2.1⟩ hpre rfl rfl hls rfl (lv_room hrest) hd ⟨hc, hs⟩
    · have hcb : va_CN R s args M.1.cls idx N.1 host N.2.1 N.2.2.1 none (wsO N) (rmC N k n) k n 0 := by
        have := va_cnB (R := R) (rm := rmC N k n) (own := M.1.cls) (index := idx) 0 X.2.2.2.2.1 (good_g hI.1) rfl rfl rfl (hG.2.1 _ hl) (X.2.2.2.2.1 _ hI.2.1) hI.2.2.2.1 hR
        rw [hI.2.2.2.2.2.2] at this
        exact this
      exact va_runIN (cc := M.2.1) (nL := M.2.2.1) (Ts := gtbl) (own := M.1.cls) (As := []) (rest := rest) ⟨X.1, X.2.1, X.2.2.1, X.2.2.2.1, X.2.2.2.2.1⟩ (hC l D cs q H.size) ⟨hcb, hI.2.2.2.2.2.1, X.2.2.2.2.1 _ hI.2.2.1⟩ hpre rfl rfl hls rfl (lv_room hrest) hd ⟨hc, hs⟩
  refine va_callv hrun hS (fun q' _ h => hF q' h) hF (fun w t H1 locs1 ht hvm hw hB hz hk1 hS1 => ?_)
  obtain ⟨hP1, hD1⟩ := hB
  rw [ht] at hP1
  obtain ⟨j1, j2⟩ := c_join hP hD hF hk1 hP1 hD1
  exact kk w H1 locs1 hw j1 j2 hS1
theorem c_end {k n : Nat} {P : va_W → Prop} (X : CX M p s m args meth c) (hr : M.2.2.2.1 = none) (hP : va_P D zcl ws H) (hD : va_D A ws) (hS : va_S A s.heap H locs) (hw : P ws) (hd : decode M.2.1 pc = .ok (.return_, 1)) (hk : kc = k) (hn : ns = n) : W p l e R s m args below meth c H locs kc ns (MQ below (QC D A P) args s k n A) (F0 m pc ls []) := by
  subst hk
  subst hn
  exact W.vret X.1 X.2.1 (by rw [X.2.2.2.2.2.2, hr]) (fun t ht hW => ⟨⟨ws, rfl, hw, by rw [ht]; exact hP, hD⟩, hS.F ht⟩) hS.2.2 hd X.2.2.2.2.2.1
end MK
