theorem arr_specA {args : Array Value} {s : State} {t : FieldType} (h : (Cond.arrayOver (.array t)).before args s = true) : ∃ comp c k, s.vm.findClass (FieldType.array t).toString = some comp ∧ s.vm.classes[c]? = some k ∧ k.kind = .array comp (.array t) ∧ s.vm.findClass ("[" ++ (FieldType.array t).toString) = some c := by
  unfold Cond.before at h
  simp only [Cond.holds, Cond.value, beq_iff_eq] at h
  cases hc : s.vm.findClass (FieldType.array t).toString with
  | none => simp [hc] at h
  | some comp =>
    simp only [hc, Option.bind_some, Option.bind_eq_some_iff, Option.map_eq_some_iff] at h
    obtain ⟨c, hi, k, hk, hb⟩ := h
    obtain ⟨hlt, hp, -⟩ := Array.findIdx?_eq_some_iff_getElem.mp hi
    have hkk : s.vm.classes[c] = k := (Array.getElem?_eq_some_iff.mp hk).2
    rw [hkk] at hp
    cases hkind : k.kind with
    | array component ty =>
      rw [hkind] at hb hp
      simp at hb hp
      exact ⟨comp, c, k, rfl, hk, by rw [hkind, hp, hb.1], hb.2⟩
    | _ => rw [hkind] at hb; simp at hb
theorem ao_E : Cond.arrayOver (.object "QuantisedLists$Entry") ∈ lw_tbl := List.mem_append_right _ (List.mem_of_getElem? (i := 127) (by decide +kernel))
theorem ao_A : Cond.arrayOver (.array .int) ∈ lw_tbl := List.mem_append_right _ (List.mem_of_getElem? (i := 39) (by decide +kernel))
theorem zinst {ci : Nat} {q : vw_C} (h : zcl[ci]? = some q) : ∃ n, Cond.instantiable q.1 n ∈ gtbl := by
  match ci, h with
  | 0, h => cases h; exact ⟨_, IN_0⟩
  | 1, h => cases h; exact ⟨_, IN_1⟩
  | 2, h => cases h; exact ⟨_, IN_2⟩
  | 3, h => cases h; exact ⟨_, IN_3⟩
  | 4, h => cases h; exact ⟨_, IN_4⟩
  | 5, h => cases h; exact ⟨_, IN_5⟩
  | 6, h => cases h; exact ⟨_, IN_6⟩
  | 7, h => cases h; exact ⟨_, IN_7⟩
  | 8, h => cases h; exact ⟨_, IN_8⟩
  | 9, h => cases h; exact ⟨_, IN_9⟩
/-- the classes' places, out of the tables -/
theorem start_D {s : State} {args : Array Value} (hg : ∀ w ∈ gtbl, w.before args s = true) : ∃ D : va_G, ∀ (c : Nat) (q : vw_C), zcl[c]? = some q → u_Kn s q.1 q.2.1 q.2.2 (D.1 c) (D.2 c) := by
  have one : ∀ (c : Nat) (q : vw_C), zcl[c]? = some q → ∃ (cC : ClassId) (iS : Nat → Nat), u_Kn s q.1 q.2.1 q.2.2 cC iS := fun c q hq => by
    obtain ⟨n, hn⟩ := zinst hq
    obtain ⟨C, T, N⟩ := q
    exact u_known (ws := gtbl) hg (zcf hq).1 (hg _ hn)
  obtain ⟨c0, i0, -⟩ := one 0 _ rfl
  have all : ∀ c : Nat, ∃ z : ClassId × (Nat → Nat), ∀ q : vw_C, zcl[c]? = some q → u_Kn s q.1 q.2.1 q.2.2 z.1 z.2 := fun c => by
    cases hz : zcl[c]? with
    | none => exact ⟨(c0, i0), fun q hq => by cases hq⟩
    | some q =>
      obtain ⟨cC, iS, h⟩ := one c q hz
      exact ⟨(cC, iS), fun q' hq' => by cases hq'; exact h⟩
  exact ⟨(fun c => (Classical.choose (all c)).1, fun c => (Classical.choose (all c)).2), fun c q h => Classical.choose_spec (all c) q h⟩
theorem start_G {s : State} {args : Array Value} (hts : ∀ w ∈ lw_tbl, w.before args s = true) : ∃ (D : va_G) (cs : Nat → ClassId), GP D cs s := by
  have hg : ∀ w ∈ gtbl, w.before args s = true := fun w hw => hts w (List.mem_filter.mp hw).1
  obtain ⟨D, hD⟩ := start_D hg
  obtain ⟨cI, kI, pI, i1, i2, i3⟩ := Cond.arrayClass_spec (hg _ ac_I)
  obtain ⟨cZ, kZ, pZ, z1, z2, z3⟩ := Cond.arrayClass_spec (hg _ ac_Z)
  obtain ⟨pA, cA, kA, a1, a2, a3, a4⟩ := arr_specA (hts _ ao_A)
  obtain ⟨pE, cE, kE, e1, e2, e3, e4, e5⟩ := Cond.arrayOver_spec (hts _ ao_E)
  refine ⟨D, fun i => if i = 0 then cI else if i = 1 then cZ else if i = 2 then cA else cE, ⟨hD, fun k q hk => ?_⟩, fun w hw => va_Nw.of (isNest_on (List.mem_filter.mp hw).2) (hts w (List.mem_filter.mp hw).1), hts _ ao_A, hts _ ao_E⟩
  match k, hk with
  | 0, hk => cases hk; exact ⟨fun n z => ⟨fun k h => (by cases h), kI, i2, pI, i3⟩, i1⟩
  | 1, hk => cases hk; exact ⟨fun n z => ⟨fun k h => (by cases h), kZ, z2, pZ, z3⟩, z1⟩
  | 2, hk => cases hk; exact ⟨fun n z => ⟨fun k h => (by cases h), kA, a2, pA, a3⟩, a4⟩
  | 3, hk => cases hk; exact ⟨fun n z => ⟨fun k h => (by cases h), kE, e3, pE, e4⟩, kE, pE, e3, e4, e1, e5⟩
set_option maxHeartbeats 4000000 in
/-- from the entry, for every script of at most 3072 ints, the law comes to its end with true -/
theorem whole_start {p : Program} {e : Env} {s : State} {m : MethodId} {below : List Frame} {meth : Method} {c : Code} (l : Launch) {b L : Nat} {xs : Nat → Int32} (hL : L ≤ 3072) (C0 : lw_At p s m meth c b L xs) : W p l e room_1 s m #[Value.ref b] below meth c s.heap [] 0 0 (lw_Z below #[Value.ref b] s) (entryFrame m ([Value.ref b] : List Value).toArray 4) := by
  obtain ⟨hx, hb, hr, hml, hown, hts, hX, hbl, hlk, -⟩ := C0
  obtain ⟨D, cs, hG⟩ := start_G hts
  have X : CX M_l_law p s m #[Value.ref b] meth c := ⟨hx, hb, hml, hown, fun w hw => hts w (List.mem_filter.mp hw).1, hlk, hr⟩
  have hA : ∀ q, s.heap.size ≤ q → LA s q := fun q h => h
  have hS : va_S (LA s) s.heap s.heap [] := va_S.rf
  have hP : va_P D zcl [] s.heap := fun k q h => by simp at h
  have hD : va_D (LA s) [] := ⟨(fun i j p q h => by simp at h), (fun k q h => by simp at h)⟩
  have hlen : (lg_sl [Value.ref b]).length ≤ 4 := by show 1 ≤ 4; decide
  obtain ⟨k1, k2, k3⟩ := lv_entry [Value.ref b] (n := 4) hlen
  rw [lg_entry_eq]
  generalize ((lg_sl [Value.ref b] ++ List.replicate (4 - (lg_sl [Value.ref b]).length) Slot.unset).toArray) = ls at k1 k2 k3 ⊢
  have hl : LR id [.ref b, .null, .null, .null] M_l_law.2.2.1 ls := by
    refine ⟨rfl, k1, k2, fun i y hi => ?_, fun i a hi => ?_⟩
    · match i, hi with
      | 0, hi => cases hi
      | 1, hi => cases hi
      | 2, hi => cases hi
      | 3, hi => cases hi
    · match i, hi with
      | 0, hi => cases hi; exact k3 (0, .ref b) List.mem_cons_self
      | 1, hi => cases hi
      | 2, hi => cases hi
      | 3, hi => cases hi
  refine c_new (M := M_l_law) (ci := 0) (fs := [.null, .null, .null, .null, .null, .null, .null]) X hG hP hD hS hA CK_l_7 IN_0 II_0 rfl zty0 zok0 (by decide +kernel) (by decide) (by decide) d_l_0 (fun h H hP hD hS => ?_)
  refine lv_dup X.1 X.2.1 d_l_3 rfl ?_
  refine c_call (M := M_l_law) i_q_init MI_q_init X hG LK_l_9 ⟨by decide, by decide⟩ hP hD hS hA hl.2.1 (by show 1 ≤ 8; decide) d_l_4 (by decide) (by decide) (fun wq H locs hpq hP hD hS => ?_)
  refine c_astore_n (M := M_l_law) X hl (k := 1) (by show 1 < 4; decide) d_l_7 (fun ls hl => ?_)
  refine c_new (M := M_l_law) (ci := 8) (fs := [.null, .null, .int 0, .int 0, .int 0, .int 0, .int 0, .null, .null, .null, .null, .int 0, .int 0, .int 0, .null, .null, .int 0, .int 0, .null, .int 0, .null, .null, .null, .null, .null, .null, .null, .null, .null, .null, .null, .null, .null]) X hG hP hD hS hA CK_l_10 IN_8 II_8 rfl zty8 zok8 (by decide +kernel) (by decide) (by decide) d_l_8 (fun hm H hP hD hS => ?_)
  refine lv_dup X.1 X.2.1 d_l_11 rfl ?_
  refine c_call (M := M_l_law) i_m_init MI_m_init X hG LK_l_12 ⟨by decide, by decide⟩ hP hD hS hA hl.2.1 (by show 1 ≤ 8; decide) d_l_12 (by decide) (by decide) (fun wm H locs hpm hP hD hS => ?_)
  refine c_astore_n (M := M_l_law) X hl (k := 2) (by show 2 < 4; decide) d_l_15 (fun ls hl => ?_)
  have hP : va_P D zcl (wq ++ wm) H := hP
  have hD : va_D (LA s) (wq ++ wm) := hD
  have hS9 : va_S (LA s) s.heap H locs := hS
  have hl9 : LR id [.ref b, .ref h, .ref hm, .null] M_l_law.2.2.1 ls := hl
  obtain ⟨ad, S, hY, hPf, e0, e8, hF, hI⟩ := flat_world hP hD hpq hpm
  rw [← e0, ← e8] at hl9
  refine W.widen (k := 204) (n := 6860) (by decide) (by decide) ?_
  refine lv_iconst X.1 X.2.1 d_l_16 (v := nI 0) rfl ?_
  refine c_istore_n (M := M_l_law) X hl9 (k := 3) (by show 3 < 4; decide) d_l_17 (fun ls hl => ?_)
  have XX : LX (D, cs, ad) p s m meth c b L xs := ⟨X, hX, hbl, hL, hY, hG.1, hG.2.1, hF⟩
  exact l_loop XX (L + 1) 0 S (by omega) (by omega) hI ls H locs hl hPf hS9
