theorem AD_48 (h hm : Nat) (g : Nat → Nat) (a9 a10 : Nat) (r48 ac r72 r96 r100 az r104 r108 : Nat → Nat) (ab : Nat) (rE xE yE zE af : Nat → Nat) (ay : Nat) (am : Nat → Nat) {i : Nat} (hi : i < 24) : AD h hm g a9 a10 r48 ac r72 r96 r100 az r104 r108 ab rE xE yE zE af ay am (48 + i) = r48 i := by
  unfold AD
  rw [if_neg (by omega), if_neg (by omega), if_neg (by omega), if_neg (by omega), if_neg (by omega), if_neg (by omega), if_neg (by omega), if_neg (by omega), if_neg (by omega), if_neg (by omega), if_neg (by omega), if_pos (by omega), show 48 + i - 48 = i by omega]
theorem AD_72 (h hm : Nat) (g : Nat → Nat) (a9 a10 : Nat) (r48 ac r72 r96 r100 az r104 r108 : Nat → Nat) (ab : Nat) (rE xE yE zE af : Nat → Nat) (ay : Nat) (am : Nat → Nat) {i : Nat} (hi : i < 24) : AD h hm g a9 a10 r48 ac r72 r96 r100 az r104 r108 ab rE xE yE zE af ay am (72 + i) = r72 i := by
  unfold AD
  rw [if_neg (by omega), if_neg (by omega), if_neg (by omega), if_neg (by omega), if_neg (by omega), if_neg (by omega), if_neg (by omega), if_neg (by omega), if_neg (by omega), if_neg (by omega), if_neg (by omega), if_neg (by omega), if_pos (by omega), show 72 + i - 72 = i by omega]
theorem AD_96 (h hm : Nat) (g : Nat → Nat) (a9 a10 : Nat) (r48 ac r72 r96 r100 az r104 r108 : Nat → Nat) (ab : Nat) (rE xE yE zE af : Nat → Nat) (ay : Nat) (am : Nat → Nat) {i : Nat} (hi : i < 4) : AD h hm g a9 a10 r48 ac r72 r96 r100 az r104 r108 ab rE xE yE zE af ay am (96 + i) = r96 i := by
  unfold AD
  rw [if_neg (by omega), if_neg (by omega), if_neg (by omega), if_neg (by omega), if_neg (by omega), if_neg (by omega), if_neg (by omega), if_neg (by omega), if_neg (by omega), if_neg (by omega), if_neg (by omega), if_neg (by omega), if_neg (by omega), if_pos (by omega), show 96 + i - 96 = i by omega]
theorem AD_100 (h hm : Nat) (g : Nat → Nat) (a9 a10 : Nat) (r48 ac r72 r96 r100 az r104 r108 : Nat → Nat) (ab : Nat) (rE xE yE zE af : Nat → Nat) (ay : Nat) (am : Nat → Nat) {i : Nat} (hi : i < 4) : AD h hm g a9 a10 r48 ac r72 r96 r100 az r104 r108 ab rE xE yE zE af ay am (100 + i) = r100 i := by
  unfold AD
  rw [if_neg (by omega), if_neg (by omega), if_neg (by omega), if_neg (by omega), if_neg (by omega), if_neg (by omega), if_neg (by omega), if_neg (by omega), if_neg (by omega), if_neg (by omega), if_neg (by omega), if_neg (by omega), if_neg (by omega), if_neg (by omega), if_pos (by omega), show 100 + i - 100 = i by omega]
theorem AD_104 (h hm : Nat) (g : Nat → Nat) (a9 a10 : Nat) (r48 ac r72 r96 r100 az r104 r108 : Nat → Nat) (ab : Nat) (rE xE yE zE af : Nat → Nat) (ay : Nat) (am : Nat → Nat) {i : Nat} (hi : i < 4) : AD h hm g a9 a10 r48 ac r72 r96 r100 az r104 r108 ab rE xE yE zE af ay am (104 + i) = r104 i := by
  unfold AD
  rw [if_neg (by omega), if_neg (by omega), if_neg (by omega), if_neg (by omega), if_neg (by omega), if_neg (by omega), if_neg (by omega), if_neg (by omega), if_neg (by omega), if_neg (by omega), if_neg (by omega), if_neg (by omega), if_neg (by omega), if_neg (by omega), if_neg (by omega), if_pos (by omega), show 104 + i - 104 = i by omega]
theorem AD_108 (h hm : Nat) (g : Nat → Nat) (a9 a10 : Nat) (r48 ac r72 r96 r100 az r104 r108 : Nat → Nat) (ab : Nat) (rE xE yE zE af : Nat → Nat) (ay : Nat) (am : Nat → Nat) {i : Nat} (hi : i < 16) : AD h hm g a9 a10 r48 ac r72 r96 r100 az r104 r108 ab rE xE yE zE af ay am (108 + i) = r108 i := by
  unfold AD
  rw [if_neg (by omega), if_neg (by omega), if_neg (by omega), if_neg (by omega), if_neg (by omega), if_neg (by omega), if_neg (by omega), if_neg (by omega), if_neg (by omega), if_neg (by omega), if_neg (by omega), if_neg (by omega), if_neg (by omega), if_neg (by omega), if_neg (by omega), if_neg (by omega), if_pos (by omega), show 108 + i - 108 = i by omega]
theorem AD_124 (h hm : Nat) (g : Nat → Nat) (a9 a10 : Nat) (r48 ac r72 r96 r100 az r104 r108 : Nat → Nat) (ab : Nat) (rE xE yE zE af : Nat → Nat) (ay : Nat) (am : Nat → Nat) {i : Nat} (hi : i < 20) : AD h hm g a9 a10 r48 ac r72 r96 r100 az r104 r108 ab rE xE yE zE af ay am (124 + i) = rE i := by
  unfold AD
  rw [if_neg (by omega), if_neg (by omega), if_neg (by omega), if_neg (by omega), if_neg (by omega), if_neg (by omega), if_neg (by omega), if_neg (by omega), if_neg (by omega), if_neg (by omega), if_neg (by omega), if_neg (by omega), if_neg (by omega), if_neg (by omega), if_neg (by omega), if_neg (by omega), if_neg (by omega), if_pos (by omega), show 124 + i - 124 = i by omega]
set_option maxRecDepth 100000 in
theorem EL_g10 (cs : Nat → ClassId) (h hm : Nat) (g : Nat → Nat) (a9 : Nat) (f9 : Nat → Int32) (a10 : Nat) (r48 : Nat → Nat) (ac r72 r96 r100 az r104 r108 : Nat → Nat) (ab : Nat) (rE xE yE zE af : Nat → Nat) (ay : Nat) (am : Nat → Nat) (f26 : Nat → Int32) : (EL cs h hm g a9 f9 a10 r48 ac r72 r96 r100 az r104 r108 ab rE xE yE zE af ay am f26)[PIl.getD 10 0]? = some (AD h hm g a9 a10 r48 ac r72 r96 r100 az r104 r108 ab rE xE yE zE af ay am 10, .inl (cs 2, 24, .inr (.inr (.inr (.inr (fun i => some (r48 i))))))) := rfl
set_option maxRecDepth 100000 in
theorem EL_g11 (cs : Nat → ClassId) (h hm : Nat) (g : Nat → Nat) (a9 : Nat) (f9 : Nat → Int32) (a10 : Nat) (r48 : Nat → Nat) (ac r72 r96 r100 az r104 r108 : Nat → Nat) (ab : Nat) (rE xE yE zE af : Nat → Nat) (ay : Nat) (am : Nat → Nat) (f26 : Nat → Int32) : (EL cs h hm g a9 f9 a10 r48 ac r72 r96 r100 az r104 r108 ab rE xE yE zE af ay am f26)[PIl.getD 11 0]? = some (AD h hm g a9 a10 r48 ac r72 r96 r100 az r104 r108 ab rE xE yE zE af ay am 11, .inl (cs 2, 24, .inr (.inr (.inr (.inr (fun i => some (r72 i))))))) := rfl
set_option maxRecDepth 100000 in
theorem EL_g12 (cs : Nat → ClassId) (h hm : Nat) (g : Nat → Nat) (a9 : Nat) (f9 : Nat → Int32) (a10 : Nat) (r48 : Nat → Nat) (ac r72 r96 r100 az r104 r108 : Nat → Nat) (ab : Nat) (rE xE yE zE af : Nat → Nat) (ay : Nat) (am : Nat → Nat) (f26 : Nat → Int32) : (EL cs h hm g a9 f9 a10 r48 ac r72 r96 r100 az r104 r108 ab rE xE yE zE af ay am f26)[PIl.getD 12 0]? = some (AD h hm g a9 a10 r48 ac r72 r96 r100 az r104 r108 ab rE xE yE zE af ay am 12, .inl (cs 2, 4, .inr (.inr (.inr (.inr (fun i => some (r96 i))))))) := rfl
set_option maxRecDepth 100000 in
theorem EL_g13 (cs : Nat → ClassId) (h hm : Nat) (g : Nat → Nat) (a9 : Nat) (f9 : Nat → Int32) (a10 : Nat) (r48 : Nat → Nat) (ac r72 r96 r100 az r104 r108 : Nat → Nat) (ab : Nat) (rE xE yE zE af : Nat → Nat) (ay : Nat) (am : Nat → Nat) (f26 : Nat → Int32) : (EL cs h hm g a9 f9 a10 r48 ac r72 r96 r100 az r104 r108 ab rE xE yE zE af ay am f26)[PIl.getD 13 0]? = some (AD h hm g a9 a10 r48 ac r72 r96 r100 az r104 r108 ab rE xE yE zE af ay am 13, .inl (cs 2, 4, .inr (.inr (.inr (.inr (fun i => some (r100 i))))))) := rfl
set_option maxRecDepth 100000 in
theorem EL_g16 (cs : Nat → ClassId) (h hm : Nat) (g : Nat → Nat) (a9 : Nat) (f9 : Nat → Int32) (a10 : Nat) (r48 : Nat → Nat) (ac r72 r96 r100 az r104 r108 : Nat → Nat) (ab : Nat) (rE xE yE zE af : Nat → Nat) (ay : Nat) (am : Nat → Nat) (f26 : Nat → Int32) : (EL cs h hm g a9 f9 a10 r48 ac r72 r96 r100 az r104 r108 ab rE xE yE zE af ay am f26)[PIl.getD 16 0]? = some (AD h hm g a9 a10 r48 ac r72 r96 r100 az r104 r108 ab rE xE yE zE af ay am 16, .inl (cs 2, 4, .inr (.inr (.inr (.inr (fun i => some (r104 i))))))) := rfl
set_option maxRecDepth 100000 in
theorem EL_g17 (cs : Nat → ClassId) (h hm : Nat) (g : Nat → Nat) (a9 : Nat) (f9 : Nat → Int32) (a10 : Nat) (r48 : Nat → Nat) (ac r72 r96 r100 az r104 r108 : Nat → Nat) (ab : Nat) (rE xE yE zE af : Nat → Nat) (ay : Nat) (am : Nat → Nat) (f26 : Nat → Int32) : (EL cs h hm g a9 f9 a10 r48 ac r72 r96 r100 az r104 r108 ab rE xE yE zE af ay am f26)[PIl.getD 17 0]? = some (AD h hm g a9 a10 r48 ac r72 r96 r100 az r104 r108 ab rE xE yE zE af ay am 17, .inl (cs 2, 16, .inr (.inr (.inr (.inr (fun i => some (r108 i))))))) := rfl
set_option maxRecDepth 100000 in
theorem EL_g19 (cs : Nat → ClassId) (h hm : Nat) (g : Nat → Nat) (a9 : Nat) (f9 : Nat → Int32) (a10 : Nat) (r48 : Nat → Nat) (ac r72 r96 r100 az r104 r108 : Nat → Nat) (ab : Nat) (rE xE yE zE af : Nat → Nat) (ay : Nat) (am : Nat → Nat) (f26 : Nat → Int32) : (EL cs h hm g a9 f9 a10 r48 ac r72 r96 r100 az r104 r108 ab rE xE yE zE af ay am f26)[PIl.getD 19 0]? = some (AD h hm g a9 a10 r48 ac r72 r96 r100 az r104 r108 ab rE xE yE zE af ay am 19, .inl (cs 3, 20, .inr (.inr (.inr (.inr (fun i => some (rE i))))))) := rfl
/-- every code has its place in the list, and the cell there is the one that the flat world asks for -/
theorem EL_any (D : va_G) (cs : Nat → ClassId) (h hm : Nat) (g : Nat → Nat) (a9 : Nat) (f9 : Nat → Int32) (a10 : Nat) (r48 : Nat → Nat) (ac r72 r96 r100 az r104 r108 : Nat → Nat) (ab : Nat) (rE xE yE zE af : Nat → Nat) (ay : Nat) (am : Nat → Nat) (f26 : Nat → Int32) (H : Heap) (c : Nat) (hc : c < 204) : ∃ e : va_E, (EL cs h hm g a9 f9 a10 r48 ac r72 r96 r100 az r104 r108 ab rE xE yE zE af ay am f26)[PIl.getD c 0]? = some (AD h hm g a9 a10 r48 ac r72 r96 r100 az r104 r108 ab rE xE yE zE af ay am c, e) ∧ (va_at D zcl (AD h hm g a9 a10 r48 ac r72 r96 r100 az r104 r108 ab rE xE yE zE af ay am c, e) H → va_at D zcl (AD h hm g a9 a10 r48 ac r72 r96 r100 az r104 r108 ab rE xE yE zE af ay am c, cel (D, cs, AD h hm g a9 a10 r48 ac r72 r96 r100 az r104 r108 ab rE xE yE zE af ay am) (S0f f9 f26) c) H) := by
  by_cases k3 : kd c = 3
  · have e19 : c = 19 := by
      unfold kd at k3
      split at k3
      · omega
      · split at k3
        · omega
        · split at k3
          · assumption
          · split at k3
            · omega
            · split at k3 <;> omega
    subst e19
    refine ⟨_, EL_g19 cs h hm g a9 f9 a10 r48 ac r72 r96 r100 az r104 r108 ab rE xE yE zE af ay am f26, fun q => ?_⟩
    have e1 : cel (D, cs, AD h hm g a9 a10 r48 ac r72 r96 r100 az r104 r108 ab rE xE yE zE af ay am) (S0f f9 f26) 19 = .inl (cs 3, 20, .inr (.inr (.inr (.inr (fun i => some (AD h hm g a9 a10 r48 ac r72 r96 r100 az r104 r108 ab rE xE yE zE af ay am (124 + i))))))) := rfl
    rw [e1]
    exact at_refs q (fun i hi => by rw [AD_124 h hm g a9 a10 r48 ac r72 r96 r100 az r104 r108 ab rE xE yE zE af ay am hi])
  by_cases k2 : kd c = 2
  · have e2 : c = 10 ∨ c = 11 ∨ c = 12 ∨ c = 13 ∨ c = 16 ∨ c = 17 := by
      unfold kd at k2
      split at k2
      · omega
      · split at k2
        · assumption
        · split at k2
          · omega
          · split at k2
            · omega
            · split at k2 <;> omega
    rcases e2 with rfl | rfl | rfl | rfl | rfl | rfl
    · refine ⟨_, EL_g10 cs h hm g a9 f9 a10 r48 ac r72 r96 r100 az r104 r108 ab rE xE yE zE af ay am f26, fun q => ?_⟩
      have e1 : cel (D, cs, AD h hm g a9 a10 r48 ac r72 r96 r100 az r104 r108 ab rE xE yE zE af ay am) (S0f f9 f26) 10 = .inl (cs 2, 24, .inr (.inr (.inr (.inr (fun i => some (AD h hm g a9 a10 r48 ac r72 r96 r100 az r104 r108 ab rE xE yE zE af ay am (48 + i))))))) := rfl
      rw [e1]
      exact at_refs q (fun i hi => by rw [AD_48 h hm g a9 a10 r48 ac r72 r96 r100 az r104 r108 ab rE xE yE zE af ay am hi])
    · refine ⟨_, EL_g11 cs h hm g a9 f9 a10 r48 ac r72 r96 r100 az r104 r108 ab rE xE yE zE af ay am f26, fun q => ?_⟩
      have e1 : cel (D, cs, AD h hm g a9 a10 r48 ac r72 r96 r100 az r104 r108 ab rE xE yE zE af ay am) (S0f f9 f26) 11 = .inl (cs 2, 24, .inr (.inr (.inr (.inr (fun i => some (AD h hm g a9 a10 r48 ac r72 r96 r100 az r104 r108 ab rE xE yE zE af ay am (72 + i))))))) := rfl
      rw [e1]
      exact at_refs q (fun i hi => by rw [AD_72 h hm g a9 a10 r48 ac r72 r96 r100 az r104 r108 ab rE xE yE zE af ay am hi])
    · refine ⟨_, EL_g12 cs h hm g a9 f9 a10 r48 ac r72 r96 r100 az r104 r108 ab rE xE yE zE af ay am f26, fun q => ?_⟩
      have e1 : cel (D, cs, AD h hm g a9 a10 r48 ac r72 r96 r100 az r104 r108 ab rE xE yE zE af ay am) (S0f f9 f26) 12 = .inl (cs 2, 4, .inr (.inr (.inr (.inr (fun i => some (AD h hm g a9 a10 r48 ac r72 r96 r100 az r104 r108 ab rE xE yE zE af ay am (96 + i))))))) := rfl
      rw [e1]
      exact at_refs q (fun i hi => by rw [AD_96 h hm g a9 a10 r48 ac r72 r96 r100 az r104 r108 ab rE xE yE zE af ay am hi])
    · refine ⟨_, EL_g13 cs h hm g a9 f9 a10 r48 ac r72 r96 r100 az r104 r108 ab rE xE yE zE af ay am f26, fun q => ?_⟩
      have e1 : cel (D, cs, AD h hm g a9 a10 r48 ac r72 r96 r100 az r104 r108 ab rE xE yE zE af ay am) (S0f f9 f26) 13 = .inl (cs 2, 4, .inr (.inr (.inr (.inr (fun i => some (AD h hm g a9 a10 r48 ac r72 r96 r100 az r104 r108 ab rE xE yE zE af ay am (100 + i))))))) := rfl
      rw [e1]
      exact at_refs q (fun i hi => by rw [AD_100 h hm g a9 a10 r48 ac r72 r96 r100 az r104 r108 ab rE xE yE zE af ay am hi])
    · refine ⟨_, EL_g16 cs h hm g a9 f9 a10 r48 ac r72 r96 r100 az r104 r108 ab rE xE yE zE af ay am f26, fun q => ?_⟩
      have e1 : cel (D, cs, AD h hm g a9 a10 r48 ac r72 r96 r100 az r104 r108 ab rE xE yE zE af ay am) (S0f f9 f26) 16 = .inl (cs 2, 4, .inr (.inr (.inr (.inr (fun i => some (AD h hm g a9 a10 r48 ac r72 r96 r100 az r104 r108 ab rE xE yE zE af ay am (104 + i))))))) := rfl
      rw [e1]
      exact at_refs q (fun i hi => by rw [AD_104 h hm g a9 a10 r48 ac r72 r96 r100 az r104 r108 ab rE xE yE zE af ay am hi])
    · refine ⟨_, EL_g17 cs h hm g a9 f9 a10 r48 ac r72 r96 r100 az r104 r108 ab rE xE yE zE af ay am f26, fun q => ?_⟩
      have e1 : cel (D, cs, AD h hm g a9 a10 r48 ac r72 r96 r100 az r104 r108 ab rE xE yE zE af ay am) (S0f f9 f26) 17 = .inl (cs 2, 16, .inr (.inr (.inr (.inr (fun i => some (AD h hm g a9 a10 r48 ac r72 r96 r100 az r104 r108 ab rE xE yE zE af ay am (108 + i))))))) := rfl
      rw [e1]
      exact at_refs q (fun i hi => by rw [AD_108 h hm g a9 a10 r48 ac r72 r96 r100 az r104 r108 ab rE xE yE zE af ay am hi])
  refine ⟨_, ?_, fun q => q⟩
  by_cases z1 : c < 34
  · exact EL_at0 D cs h hm g a9 f9 a10 r48 ac r72 r96 r100 az r104 r108 ab rE xE yE zE af ay am f26 c (Nat.zero_le _) z1 k2 k3
  by_cases z2 : c < 68
  · exact EL_at34 D cs h hm g a9 f9 a10 r48 ac r72 r96 r100 az r104 r108 ab rE xE yE zE af ay am f26 c (by omega) z2 k2 k3
  by_cases z3 : c < 102
  · exact EL_at68 D cs h hm g a9 f9 a10 r48 ac r72 r96 r100 az r104 r108 ab rE xE yE zE af ay am f26 c (by omega) z3 k2 k3
  by_cases z4 : c < 136
  · exact EL_at102 D cs h hm g a9 f9 a10 r48 ac r72 r96 r100 az r104 r108 ab rE xE yE zE af ay am f26 c (by omega) z4 k2 k3
  by_cases z5 : c < 170
  · exact EL_at136 D cs h hm g a9 f9 a10 r48 ac r72 r96 r100 az r104 r108 ab rE xE yE zE af ay am f26 c (by omega) z5 k2 k3
  · exact EL_at170 D cs h hm g a9 f9 a10 r48 ac r72 r96 r100 az r104 r108 ab rE xE yE zE af ay am f26 c (by omega) hc k2 k3
theorem S0_inv {f9 f26 : Nat → Int32} (h9 : ∀ k, k < 4 → f9 k = nI (k + 1)) (h26 : ∀ k, k < 4 → f26 k = nI (k + 1)) : Inv (S0f f9 f26) := by
  have hp : ∀ u, prM (S0f f9 f26) u = false := fun u => by
    unfold prM
    have e : (S0f f9 f26).1 30 u = 0 := rfl
    rw [e]
    decide
  refine ⟨fun k hk => ?_, ⟨0, by omega, rfl, rfl, fun i hi => absurd hi (by omega)⟩, ⟨0, rfl, ⟨rfl, rfl, (cntB_none hp 1000).symm, by omega, fun i hi => ?_, fun i j hi hj hij => ?_, fun _ => rfl⟩, fun q => absurd rfl q⟩, ⟨1, 0, 0, rfl, rfl, by omega, rfl, rfl, by omega, rfl, rfl, rfl, by omega, fun j hj => absurd hj (by omega)⟩, 0, fun _ => 0, rfl, rfl, by omega, fun p hp => ⟨rfl, rfl, Nat.zero_le _⟩⟩
  · show f9 k = f26 k ∧ okStep (f26 k)
    rw [h9 k hk, h26 k hk]
    exact ⟨rfl, k, hk, Or.inl rfl⟩
  · show 124 ≤ 124 + i ∧ 124 + i < 144
    omega
  · have : 124 + i = 124 + j := hij
    omega
theorem flat_world {D : va_G} {cs : Nat → ClassId} {A : Nat → Prop} {H : Heap} {h hm : Nat} {wq wm : va_W} (hP : va_P D zcl (wq ++ wm) H) (hD : va_D A (wq ++ wm)) (hq : P_q cs h wq) (hmm : P_m cs hm wm) : ∃ (ad : Nat → Nat) (S : St), okY (D, cs, ad) ∧ va_P D zcl (wsf (D, cs, ad) S) H ∧ ad 0 = h ∧ ad 8 = hm ∧ (∀ c, c < 204 → A (ad c)) ∧ Inv S := by
  obtain ⟨g, wt, ws, wc, wz, wb, wf, wy, ⟨a9, f9, rfl, h9⟩, ⟨a10, r48, rfl⟩, ⟨ac, r72, r96, r100, rfl⟩, ⟨az, r104, r108, rfl⟩, ⟨ab, rE, xE, yE, zE, rfl⟩, ⟨af, rfl⟩, ⟨ay, rfl⟩, rfl⟩ := hq
  obtain ⟨am, f26, rfl, h26⟩ := hmm
  rw [EL_eq cs h hm g a9 f9 a10 r48 ac r72 r96 r100 az r104 r108 ab rE xE yE zE af ay am f26] at hP hD
  have any := EL_any D cs h hm g a9 f9 a10 r48 ac r72 r96 r100 az r104 r108 ab rE xE yE zE af ay am f26 H
  refine ⟨AD h hm g a9 a10 r48 ac r72 r96 r100 az r104 r108 ab rE xE yE zE af ay am, S0f f9 f26, fun c d hc hd hcd => ?_, fun k q hk => ?_, rfl, rfl, fun c hc => ?_, S0_inv h9 h26⟩
  · obtain ⟨e1, q1, -⟩ := any c hc
    obtain ⟨e2, q2, -⟩ := any d hd
    have := hD.1 _ _ _ _ q1 q2 hcd
    rw [← PI_inv c hc, ← PI_inv d hd, this]
  · obtain ⟨h1, rfl⟩ := wsf_some hk
    obtain ⟨e1, q1, q2⟩ := any k h1
    exact q2 (hP _ _ q1)
  · obtain ⟨e1, q1, -⟩ := any c hc
    exact hD.2 _ _ q1
