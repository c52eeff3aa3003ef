/-- what a load does to the reference -/
def ML (S S' : St) (b : Nat → Nat) : Prop := S'.2 = S.2 ∧ (∀ a i, ¬ (a = 26 ∨ a = 28 ∨ a = 29 ∨ a = 30 ∨ a = 31 ∨ (a = 8 ∧ (i = 3 ∨ i = 4 ∨ i = 5 ∨ i = 6 ∨ i = 11))) → S'.1 a i = S.1 a i) ∧ S'.1 8 3 = nI 1 ∧ S'.1 8 4 = nI (b 2) ∧ S'.1 8 5 = nI (b 3) ∧ S'.1 8 6 = nI (b 4) ∧ S'.1 8 11 = nI (b 5) ∧ (∀ k, k < 4 → S'.1 26 k = stN b k) ∧ (∀ q, q < 4 * b 3 → S'.1 28 q = wdN b q) ∧ (∀ q, q < parts (nI (b 2)) * b 4 * msz (nI (b 2)) → S'.1 29 (wpos (b 4) (msz (nI (b 2))) q) = wdN b (b 3 * 4 + q)) ∧ (∀ u, u < 1000 → (S'.1 30 u = nI 0 ∨ S'.1 30 u = nI 1) ∧ (¬ S'.1 30 u = nI 0 ↔ ∃ i, i < b 5 ∧ prN b (esN b i) = u)) ∧ ∀ i, i < b 5 → ∀ k, k < 4 → S'.1 31 (4 * prN b (esN b i) + k) = cdN b i k
set_option maxRecDepth 100000 in
set_option maxHeartbeats 4000000 in
theorem c_m_load (S : St) (b : Nat → Nat) (hb : ∀ p, p < 250 → S.1 34 p = nI (b p) ∧ b p ≤ 255) (n : Nat) (hn : S.1 8 19 = nI n) (hn2 : n ≤ 250) : Ev M_m_load [.ref 8] S (fun v9 S' => v9 = some (.int (nI (faN b n))) ∧ (¬ faN b n = 0 → S' = S) ∧ (faN b n = 0 → ML S S' b)) := by
  refine Ev.of MF_m_load (all_cat rfl) (Nat.le_of_ble_eq_true rfl) ?_
  show Wp M_m_load 0 [.ref 8, .null, .null, .null, .null, .null, .null] [] _ _
  have hfl := faN_le b n
  have hb1 : ∀ S1 : St, (∀ a i, ¬ (a = 26 ∨ a = 28 ∨ a = 29 ∨ a = 30 ∨ a = 31 ∨ (a = 8 ∧ (i = 3 ∨ i = 4 ∨ i = 5 ∨ i = 6 ∨ i = 11))) → S1.1 a i = S.1 a i) → ∀ p, p < 250 → S1.1 34 p = nI (b p) ∧ b p ≤ 255 := fun S1 h p hp => by rw [h 34 p (by omega)]; exact hb p hp
  have hE : faN b n = 0 → ∀ i, i ≤ b 5 → ∀ (S1 : St) (x1 x2 x4 x5 x6 : Value), (S1.2 = S.2 ∧ (∀ a i, ¬ (a = 26 ∨ a = 28 ∨ a = 29 ∨ a = 30 ∨ a = 31 ∨ (a = 8 ∧ (i = 3 ∨ i = 4 ∨ i = 5 ∨ i = 6 ∨ i = 11))) → S1.1 a i = S.1 a i) ∧ S1.1 8 3 = nI 1 ∧ S1.1 8 4 = nI (b 2) ∧ S1.1 8 5 = nI (b 3) ∧ S1.1 8 6 = nI (b 4) ∧ S1.1 8 11 = nI (b 5)) → (∀ z, z < 4 → S1.1 26 z = stN b z) → (∀ z, z < 4 * b 3 → S1.1 28 z = wdN b z) → (∀ z, z < (parts (nI (b 2)) * b 4 * msz (nI (b 2))) → S1.1 29 (wpos (b 4) (msz (nI (b 2))) z) = wdN b (b 3 * 4 + z)) → (∀ u, u < 1000 → (S1.1 30 u = nI 0 ∨ S1.1 30 u = nI 1) ∧ (¬ S1.1 30 u = nI 0 ↔ ∃ j, j < i ∧ prN b (esN b j) = u)) → (∀ j, j < i → ∀ k, k < 4 → S1.1 31 (4 * prN b (esN b j) + k) = cdN b j k) → Wp M_m_load 252 [.ref 8, x1, x2, .int (nI i), x4, x5, x6] [] S1 (fun v9 S' => v9 = some (.int (nI (faN b n))) ∧ (¬ faN b n = 0 → S' = S) ∧ (faN b n = 0 → ML S S' b)) := by
    intro hf
    obtain ⟨f1, f2, f3, f4, f5, f6⟩ := faN_0 hf
    have hs := of_decide_eq_true f2
    have hwl := wcN_le f2
    obtain ⟨i1, i2⟩ := ids_ok f6
    have hs12 := msz_12 (nI (b 2))
    have hpl := parts_le (nI (b 2))
    have hps := pm_sz (nI (b 2)) (b 4)
    have hW0 : 0 < b 4 * msz (nI (b 2)) := Nat.mul_pos (by omega) hs12.1
    have hW8 : b 4 * msz (nI (b 2)) ≤ 8 := Nat.mul_le_mul (show b 4 ≤ 4 by omega) hs12.2
    have hbd := pw_bd (nI (b 2)) (show b 4 ≤ 4 by omega)
    refine loopUp _ (fun i hk9 hn9 => ?_)
    intro S1 x1 x2 x4 x5 x6 a0 at0 ac0 aw0 apr apt
    have hb2 := hb1 S1 a0.2.1
    have hei := es_i b i
    have hem : i < b 5 → esN b i + 6 ≤ 250 := fun hi => by have := f4; unfold esN at this ⊢; omega
    refine w_iload_n d_m_load_252 rfl ?_
    refine w_aload_n d_m_load_253 rfl ?_
    refine w_getIV (v := (nI (b 5))) d_m_load_254 FL_m_131 (by decide) (rfl) (rfl) (a0.2.2.2.2.2.2) ?_
    refine w_icmp_geN 335 d_m_load_257 (by decide) (by omega) (by omega) (fun h257 => ?_) (fun h257 => ?_)
    · refine w_iconst (v := nI 0) d_m_load_335 (by decide +kernel) ?_
      refine w_iret (st := []) rfl d_m_load_336 ?_
      have hib : i = b 5 := by omega
      subst hib
      exact ⟨by rw [hf], fun z => absurd hf z, fun _ => ⟨a0.1, a0.2.1, a0.2.2.1, a0.2.2.2.1, a0.2.2.2.2.1, a0.2.2.2.2.2.1, a0.2.2.2.2.2.2, at0, ac0, aw0, apr, apt⟩⟩
    · refine w_aload_n d_m_load_260 rfl ?_
      refine w_callV0 (N := M_m_head) d_m_load_261 LK_m_215 MF_m_head MV_m_head NP_m_head (by decide) (by decide) (rfl) rfl rfl (Nat.le_of_ble_eq_true rfl) ?_
      refine Ev.det (c_m_head S1 b hb2) ?_
      refine w_bipush (v := nI 6) d_m_load_264 (by decide +kernel) ?_
      refine w_iload_n d_m_load_266 rfl ?_
      refine w_imulN d_m_load_267 ?_
      refine w_iaddN d_m_load_268 ?_
      refine w_top (w := (nI (esN b i))) (congrArg nI hei.symm) ?_
      refine w_istore d_m_load_269 (Nat.le_of_ble_eq_true rfl) ?_
      refine w_aload_n d_m_load_271 rfl ?_
      refine w_iload d_m_load_272 rfl ?_
      refine w_callV1 (N := M_m_two) d_m_load_274 LK_m_218 MF_m_two MV_m_two NP_m_two (by decide) (by decide) (rfl) rfl rfl (Nat.le_of_ble_eq_true rfl) ?_
      have hem9 := hem h257
      refine Ev.det (c_m_two S1 b hb2 _ (by omega)) ?_
      have i19 := i1 i h257
      refine w_istore d_m_load_277 (Nat.le_of_ble_eq_true rfl) ?_
      show Wp _ 279 _ _ _ _
      refine w_aload_n d_m_load_279 rfl ?_
      refine w_getR d_m_load_280 FL_m_22 (by decide) (rfl) (rfl) ?_
      refine w_iload d_m_load_283 rfl ?_
      refine w_iconst (v := nI 1) d_m_load_285 (by decide +kernel) ?_
      refine w_bastNP d_m_load_286 (by decide) (rfl) (show prN b (esN b i) < 1000 from (by omega)) (by decide) ?_
      refine w_iconst (v := nI 0) d_m_load_287 (by decide +kernel) ?_
      refine w_istore d_m_load_288 (Nat.le_of_ble_eq_true rfl) ?_
      have hin : ∀ k, k ≤ 4 → ∀ (S2 : St), (S2.2 = S.2 ∧ (∀ a i, ¬ (a = 26 ∨ a = 28 ∨ a = 29 ∨ a = 30 ∨ a = 31 ∨ (a = 8 ∧ (i = 3 ∨ i = 4 ∨ i = 5 ∨ i = 6 ∨ i = 11))) → S2.1 a i = S.1 a i) ∧ S2.1 8 3 = nI 1 ∧ S2.1 8 4 = nI (b 2) ∧ S2.1 8 5 = nI (b 3) ∧ S2.1 8 6 = nI (b 4) ∧ S2.1 8 11 = nI (b 5)) → (∀ z, z < 4 → S2.1 26 z = stN b z) → (∀ z, z < 4 * b 3 → S2.1 28 z = wdN b z) → (∀ z, z < (parts (nI (b 2)) * b 4 * msz (nI (b 2))) → S2.1 29 (wpos (b 4) (msz (nI (b 2))) z) = wdN b (b 3 * 4 + z)) → (∀ u, u < 1000 → (S2.1 30 u = nI 0 ∨ S2.1 30 u = nI 1) ∧ (¬ S2.1 30 u = nI 0 ↔ ∃ j, j < (i + 1) ∧ prN b (esN b j) = u)) → (∀ j, j < i → ∀ k, k < 4 → S2.1 31 (4 * prN b (esN b j) + k) = cdN b j k) → (∀ z, z < k → S2.1 31 (4 * prN b (esN b i) + z) = cdN b i z) → Wp M_m_load 290 [.ref 8, x1, x2, .int (nI i), .int (nI (esN b i)), .int (nI (prN b (esN b i))), .int (nI k)] [] S2 (fun v9 S' => v9 = some (.int (nI (faN b n))) ∧ (¬ faN b n = 0 → S' = S) ∧ (faN b n = 0 → ML S S' b)) := by
        refine loopUp (4) (fun k hk8 hn8 => ?_)
        intro S2 c0 ct0 cc0 cw0 cpr cpt cpk
        refine w_iload d_m_load_290 rfl ?_
        refine w_iconst (v := nI 4) d_m_load_292 (by decide +kernel) ?_
        refine w_icmp_geN 329 d_m_load_293 (by decide) (by omega) (by omega) (fun h293 => ?_) (fun h293 => ?_)
        · refine w_iincN d_m_load_329 rfl ?_
          refine w_goto 252 d_m_load_332 (by decide) ?_
          obtain rfl : k = 4 := by omega
          exact hn9 h257 _ _ _ _ _ _ c0 ct0 cc0 cw0 cpr (lt_s cpt cpk)
        · refine w_aload_n d_m_load_296 rfl ?_
          refine w_getR d_m_load_297 FL_m_26 (by decide) (rfl) (rfl) ?_
          refine w_iconst (v := nI 4) d_m_load_300 (by decide +kernel) ?_
          refine w_iload d_m_load_301 rfl ?_
          refine w_imulN d_m_load_303 ?_
          refine w_iload d_m_load_304 rfl ?_
          refine w_iaddN d_m_load_306 ?_
          refine w_aload_n d_m_load_307 rfl ?_
          refine w_getR d_m_load_308 FL_m_35 (by decide) (rfl) (rfl) ?_
          refine w_iload d_m_load_311 rfl ?_
          refine w_iconst (v := nI 2) d_m_load_313 (by decide +kernel) ?_
          show Wp _ 314 _ _ _ _
          refine w_iaddN d_m_load_314 ?_
          refine w_iload d_m_load_315 rfl ?_
          refine w_iaddN d_m_load_317 ?_
          refine w_ialdNV (v := (nI (b (esN b i + 2 + k)))) d_m_load_318 (by decide) (rfl) (show ((esN b i) + 2) + k < 250 from (by omega)) ((hb1 S2 c0.2.1 _ (by omega)).1) ?_
          refine w_bipush (v := nI 100) d_m_load_319 (by decide +kernel) ?_
          refine w_isub d_m_load_321 ?_
          refine w_iastNP d_m_load_322 (by decide) (rfl) (show (4 * (prN b (esN b i))) + k < 4000 from (by omega)) ?_
          refine w_iincN d_m_load_323 rfl ?_
          refine w_goto 290 d_m_load_326 (by decide) ?_
          refine hn8 h293 _ ⟨c0.1, fun a j ha => by rw [put_ne (by omega)]; exact c0.2.1 a j ha, by rw [put_ne (by omega)]; exact c0.2.2.1, by rw [put_ne (by omega)]; exact c0.2.2.2.1, by rw [put_ne (by omega)]; exact c0.2.2.2.2.1, by rw [put_ne (by omega)]; exact c0.2.2.2.2.2.1, by rw [put_ne (by omega)]; exact c0.2.2.2.2.2.2⟩ (fun z hz => by rw [put_ne (by omega)]; exact ct0 z hz) (fun z hz => by rw [put_ne (by omega)]; exact cc0 z hz) (fun z hz => by rw [put_ne (by omega)]; exact cw0 z hz) (fun u hu => by rw [put_ne (by omega)]; exact cpr u hu) (fun j hj z hz => ?_) (fun z hz => ?_)
          · have := i2 j i hj h257
            rw [put_ne (by omega)]
            exact cpt j hj z hz
          · by_cases hzk : z = k
            · rw [hzk, put_at]
              rfl
            · rw [put_ne (by omega)]
              exact cpk z (by omega)
      refine hin 0 (by omega) _ ⟨a0.1, fun a j ha => by rw [put_ne (by omega)]; exact a0.2.1 a j ha, by rw [put_ne (by omega)]; exact a0.2.2.1, by rw [put_ne (by omega)]; exact a0.2.2.2.1, by rw [put_ne (by omega)]; exact a0.2.2.2.2.1, by rw [put_ne (by omega)]; exact a0.2.2.2.2.2.1, by rw [put_ne (by omega)]; exact a0.2.2.2.2.2.2⟩ (fun z hz => by rw [put_ne (by omega)]; exact at0 z hz) (fun z hz => by rw [put_ne (by omega)]; exact ac0 z hz) (fun z hz => by rw [put_ne (by omega)]; exact aw0 z hz) (fun u hu => ?_) (fun j hj z hz => by rw [put_ne (by omega)]; exact apt j hj z hz) lt_0
      by_cases hup : u = prN b (esN b i)
      · rw [hup, put_at]
        exact ⟨Or.inr rfl, ⟨fun _ => ⟨i, by omega, rfl⟩, fun _ => by decide⟩⟩
      · rw [put_ne (by omega)]
        refine ⟨(apr u hu).1, (apr u hu).2.trans ⟨fun ⟨j, hj, hq⟩ => ⟨j, by omega, hq⟩, fun ⟨j, hj, hq⟩ => ⟨j, ?_, hq⟩⟩⟩
        have : j ≠ i := fun z => hup (by rw [← hq, z])
        omega
  have hP : faN b n = 0 → ∀ u, u ≤ 1000 → ∀ (S1 : St) (x1 x2 x4 x5 x6 : Value), (S1.2 = S.2 ∧ (∀ a i, ¬ (a = 26 ∨ a = 28 ∨ a = 29 ∨ a = 30 ∨ a = 31 ∨ (a = 8 ∧ (i = 3 ∨ i = 4 ∨ i = 5 ∨ i = 6 ∨ i = 11))) → S1.1 a i = S.1 a i) ∧ S1.1 8 3 = nI 1 ∧ S1.1 8 4 = nI (b 2) ∧ S1.1 8 5 = nI (b 3) ∧ S1.1 8 6 = nI (b 4) ∧ S1.1 8 11 = nI (b 5)) → (∀ z, z < 4 → S1.1 26 z = stN b z) → (∀ z, z < 4 * b 3 → S1.1 28 z = wdN b z) → (∀ z, z < (parts (nI (b 2)) * b 4 * msz (nI (b 2))) → S1.1 29 (wpos (b 4) (msz (nI (b 2))) z) = wdN b (b 3 * 4 + z)) → (∀ z, z < u → S1.1 30 z = nI 0) → Wp M_m_load 230 [.ref 8, x1, x2, .int (nI u), x4, x5, x6] [] S1 (fun v9 S' => v9 = some (.int (nI (faN b n))) ∧ (¬ faN b n = 0 → S' = S) ∧ (faN b n = 0 → ML S S' b)) := by
    intro hf
    refine loopUp _ (fun u hk9 hn9 => ?_)
    intro S1 x1 x2 x4 x5 x6 a0 at0 ac0 aw0 apr
    refine w_iload_n d_m_load_230 rfl ?_
    refine w_sipush (v := nI 1000) d_m_load_231 (by decide +kernel) ?_
    refine w_icmp_geN 250 d_m_load_234 (by decide) (by omega) (by omega) (fun h234 => ?_) (fun h234 => ?_)
    · refine w_iconst (v := nI 0) d_m_load_250 (by decide +kernel) ?_
      refine w_istore_n d_m_load_251 (Nat.le_of_ble_eq_true rfl) ?_
      exact hE hf 0 (by omega) _ _ _ _ _ _ a0 at0 ac0 aw0 (fun z hz => ⟨Or.inl (apr z (by omega)), ⟨fun w => absurd (apr z (by omega)) w, fun ⟨j, hj, _⟩ => absurd hj (by omega)⟩⟩) lt_0
    · refine w_aload_n d_m_load_237 rfl ?_
      refine w_getR d_m_load_238 FL_m_22 (by decide) (rfl) (rfl) ?_
      refine w_iload_n d_m_load_241 rfl ?_
      refine w_iconst (v := nI 0) d_m_load_242 (by decide +kernel) ?_
      refine w_bastNP d_m_load_243 (by decide) (rfl) (show u < 1000 from (by omega)) (by decide) ?_
      refine w_iincN d_m_load_244 rfl ?_
      refine w_goto 230 d_m_load_247 (by decide) ?_
      refine hn9 h234 _ _ _ _ _ _ ⟨a0.1, fun a j ha => by rw [put_ne (by omega)]; exact a0.2.1 a j ha, by rw [put_ne (by omega)]; exact a0.2.2.1, by rw [put_ne (by omega)]; exact a0.2.2.2.1, by rw [put_ne (by omega)]; exact a0.2.2.2.2.1, by rw [put_ne (by omega)]; exact a0.2.2.2.2.2.1, by rw [put_ne (by omega)]; exact a0.2.2.2.2.2.2⟩ (fun z hz => by rw [put_ne (by omega)]; exact at0 z hz) (fun z hz => by rw [put_ne (by omega)]; exact ac0 z hz) (fun z hz => by rw [put_ne (by omega)]; exact aw0 z hz) (fun z hz => ?_)
      by_cases hzu : z = u
      · rw [hzu, put_at]
      · rw [put_ne (by omega)]
        exact apr z (by omega)
  have hW : faN b n = 0 → ∀ q, q ≤ (parts (nI (b 2)) * b 4 * msz (nI (b 2))) → ∀ (S1 : St) (x1 x4 x5 x6 : Value), (S1.2 = S.2 ∧ (∀ a i, ¬ (a = 26 ∨ a = 28 ∨ a = 29 ∨ a = 30 ∨ a = 31 ∨ (a = 8 ∧ (i = 3 ∨ i = 4 ∨ i = 5 ∨ i = 6 ∨ i = 11))) → S1.1 a i = S.1 a i) ∧ S1.1 8 3 = nI 1 ∧ S1.1 8 4 = nI (b 2) ∧ S1.1 8 5 = nI (b 3) ∧ S1.1 8 6 = nI (b 4) ∧ S1.1 8 11 = nI (b 5)) → (∀ z, z < 4 → S1.1 26 z = stN b z) → (∀ z, z < 4 * b 3 → S1.1 28 z = wdN b z) → (∀ z, z < q → S1.1 29 (wpos (b 4) (msz (nI (b 2))) z) = wdN b (b 3 * 4 + z)) → Wp M_m_load 137 [.ref 8, x1, .int (nI (10 + 8 * b 3)), .int (nI q), x4, x5, x6] [] S1 (fun v9 S' => v9 = some (.int (nI (faN b n))) ∧ (¬ faN b n = 0 → S' = S) ∧ (faN b n = 0 → ML S S' b)) := by
    intro hf
    obtain ⟨f1, f2, f3, f4, f5, f6⟩ := faN_0 hf
    have hs := of_decide_eq_true f2
    have hwl := wcN_le f2
    obtain ⟨i1, i2⟩ := ids_ok f6
    have hs12 := msz_12 (nI (b 2))
    have hpl := parts_le (nI (b 2))
    have hps := pm_sz (nI (b 2)) (b 4)
    have hW0 : 0 < b 4 * msz (nI (b 2)) := Nat.mul_pos (by omega) hs12.1
    have hW8 : b 4 * msz (nI (b 2)) ≤ 8 := Nat.mul_le_mul (show b 4 ≤ 4 by omega) hs12.2
    have hbd := pw_bd (nI (b 2)) (show b 4 ≤ 4 by omega)
    refine loopUp _ (fun q hk9 hn9 => ?_)
    intro S1 x1 x4 x5 x6 a0 at0 ac0 aw0
    have hb2 := hb1 S1 a0.2.1
    refine w_iload_n d_m_load_137 rfl ?_
    refine w_aload_n d_m_load_138 rfl ?_
    refine w_callV0 (N := M_m_parts) d_m_load_139 LK_m_144 MF_m_parts MV_m_parts NP_m_parts (by decide) (by decide) (rfl) rfl rfl (Nat.le_of_ble_eq_true rfl) ?_
    refine Ev.det (c_m_parts S1 (nI (b 2)) a0.2.2.2.1) ?_
    refine w_aload_n d_m_load_142 rfl ?_
    refine w_getIV (v := (nI (b 4))) d_m_load_143 FL_m_137 (by decide) (rfl) (rfl) (a0.2.2.2.2.2.1) ?_
    refine w_imulN d_m_load_146 ?_
    refine w_aload_n d_m_load_147 rfl ?_
    refine w_callV0 (N := M_m_size) d_m_load_148 LK_m_164 MF_m_size MV_m_size NP_m_size (by decide) (by decide) (rfl) rfl rfl (Nat.le_of_ble_eq_true rfl) ?_
    refine Ev.det (c_m_size S1 (nI (b 2)) a0.2.2.2.1) ?_
    refine w_imulN d_m_load_151 ?_
    refine w_icmp_geN 228 d_m_load_152 (by decide) (by omega) (by omega) (fun h152 => ?_) (fun h152 => ?_)
    · refine w_iconst (v := nI 0) d_m_load_228 (by decide +kernel) ?_
      refine w_istore_n d_m_load_229 (Nat.le_of_ble_eq_true rfl) ?_
      exact hP hf 0 (by omega) _ _ _ _ _ _ a0 at0 ac0 (fun z hz => aw0 z (by omega)) lt_0
    · obtain ⟨b1, b2, b3⟩ := wq_lt hs12.1 (show 0 < b 4 by omega) h152
      have hmod := Nat.mod_lt q hW0
      refine w_iload_n d_m_load_155 rfl ?_
      refine w_aload_n d_m_load_156 rfl ?_
      refine w_getIV (v := (nI (b 4))) d_m_load_157 FL_m_137 (by decide) (rfl) (rfl) (a0.2.2.2.2.2.1) ?_
      refine w_aload_n d_m_load_160 rfl ?_
      refine w_callV0 (N := M_m_size) d_m_load_161 LK_m_164 MF_m_size MV_m_size NP_m_size (by decide) (by decide) (rfl) rfl rfl (Nat.le_of_ble_eq_true rfl) ?_
      refine Ev.det (c_m_size S1 (nI (b 2)) a0.2.2.2.1) ?_
      refine w_imulN d_m_load_164 ?_
      refine w_idivN d_m_load_165 (by omega) (by omega) (by omega) ?_
      refine w_istore d_m_load_166 (Nat.le_of_ble_eq_true rfl) ?_
      refine w_iload_n d_m_load_168 rfl ?_
      refine w_aload_n d_m_load_169 rfl ?_
      refine w_getIV (v := (nI (b 4))) d_m_load_170 FL_m_137 (by decide) (rfl) (rfl) (a0.2.2.2.2.2.1) ?_
      show Wp _ 173 _ _ _ _
      refine w_aload_n d_m_load_173 rfl ?_
      refine w_callV0 (N := M_m_size) d_m_load_174 LK_m_164 MF_m_size MV_m_size NP_m_size (by decide) (by decide) (rfl) rfl rfl (Nat.le_of_ble_eq_true rfl) ?_
      refine Ev.det (c_m_size S1 (nI (b 2)) a0.2.2.2.1) ?_
      refine w_imulN d_m_load_177 ?_
      refine w_iremN d_m_load_178 (by omega) (by omega) (by omega) ?_
      refine w_istore d_m_load_179 (Nat.le_of_ble_eq_true rfl) ?_
      refine w_aload_n d_m_load_181 rfl ?_
      refine w_getR d_m_load_182 FL_m_19 (by decide) (rfl) (rfl) ?_
      refine w_bipush (v := nI 8) d_m_load_185 (by decide +kernel) ?_
      refine w_iload d_m_load_187 rfl ?_
      refine w_imulN d_m_load_189 ?_
      refine w_iconst (v := nI 2) d_m_load_190 (by decide +kernel) ?_
      refine w_iload d_m_load_191 rfl ?_
      show Wp _ 193 _ _ _ _
      refine w_aload_n d_m_load_193 rfl ?_
      refine w_callV0 (N := M_m_size) d_m_load_194 LK_m_164 MF_m_size MV_m_size NP_m_size (by decide) (by decide) (rfl) rfl rfl (Nat.le_of_ble_eq_true rfl) ?_
      refine Ev.det (c_m_size S1 (nI (b 2)) a0.2.2.2.1) ?_
      refine w_idivN d_m_load_197 (by omega) (by omega) (by omega) ?_
      refine w_imulN d_m_load_198 ?_
      refine w_iaddN d_m_load_199 ?_
      refine w_iload d_m_load_200 rfl ?_
      refine w_aload_n d_m_load_202 rfl ?_
      refine w_callV0 (N := M_m_size) d_m_load_203 LK_m_164 MF_m_size MV_m_size NP_m_size (by decide) (by decide) (rfl) rfl rfl (Nat.le_of_ble_eq_true rfl) ?_
      refine Ev.det (c_m_size S1 (nI (b 2)) a0.2.2.2.1) ?_
      refine w_iremN d_m_load_206 (by omega) (by omega) (by omega) ?_
      refine w_iaddN d_m_load_207 ?_
      refine w_aload_n d_m_load_208 rfl ?_
      refine w_iload_n d_m_load_209 rfl ?_
      show Wp _ 210 _ _ _ _
      refine w_iconst (v := nI 2) d_m_load_210 (by decide +kernel) ?_
      refine w_iload_n d_m_load_211 rfl ?_
      refine w_imulN d_m_load_212 ?_
      refine w_iaddN d_m_load_213 ?_
      refine w_callV1 (N := M_m_two) d_m_load_214 LK_m_218 MF_m_two MV_m_two NP_m_two (by decide) (by decide) (rfl) rfl rfl (Nat.le_of_ble_eq_true rfl) ?_
      refine Ev.det (c_m_two S1 b hb2 _ (by omega)) ?_
      refine w_sipush (v := nI 300) d_m_load_217 (by decide +kernel) ?_
      refine w_isub d_m_load_220 ?_
      refine w_iastNP d_m_load_221 (by decide) (rfl) (show ((8 * (q / ((b 4) * ((msz (nI (b 2))))))) + (2 * ((q % ((b 4) * ((msz (nI (b 2)))))) / ((msz (nI (b 2))))))) + ((q % ((b 4) * ((msz (nI (b 2)))))) % ((msz (nI (b 2))))) < 32 from (by omega)) ?_
      refine w_iincN d_m_load_222 rfl ?_
      refine w_goto 137 d_m_load_225 (by decide) ?_
      refine hn9 h152 _ _ _ _ _ ⟨a0.1, fun a j ha => by rw [put_ne (by omega)]; exact a0.2.1 a j ha, by rw [put_ne (by omega)]; exact a0.2.2.1, by rw [put_ne (by omega)]; exact a0.2.2.2.1, by rw [put_ne (by omega)]; exact a0.2.2.2.2.1, by rw [put_ne (by omega)]; exact a0.2.2.2.2.2.1, by rw [put_ne (by omega)]; exact a0.2.2.2.2.2.2⟩ (fun z hz => by rw [put_ne (by omega)]; exact at0 z hz) (fun z hz => by rw [put_ne (by omega)]; exact ac0 z hz) (fun z hz => ?_)
      show (put S1 29 (wpos (b 4) (msz (nI (b 2))) q) _).1 29 _ = _
      by_cases hzq : z = q
      · rw [hzq, put_at]
        show _ = nI (prN b (10 + 2 * (b 3 * 4 + q))) - nI 300
        rw [show 10 + 2 * (b 3 * 4 + q) = 10 + 8 * b 3 + 2 * q by omega]
      · rw [put_ne (fun w => hzq (wpos_inj hs12.1 hs12.2 (by omega) (by omega) (show z < (parts (nI (b 2)) * b 4 * msz (nI (b 2))) by omega) h152 w.2))]
        exact aw0 z (by omega)
  have hC : faN b n = 0 → ∀ q, q ≤ 4 * b 3 → ∀ (S1 : St) (x1 x3 x4 x5 x6 : Value), (S1.2 = S.2 ∧ (∀ a i, ¬ (a = 26 ∨ a = 28 ∨ a = 29 ∨ a = 30 ∨ a = 31 ∨ (a = 8 ∧ (i = 3 ∨ i = 4 ∨ i = 5 ∨ i = 6 ∨ i = 11))) → S1.1 a i = S.1 a i) ∧ S1.1 8 3 = nI 1 ∧ S1.1 8 4 = nI (b 2) ∧ S1.1 8 5 = nI (b 3) ∧ S1.1 8 6 = nI (b 4) ∧ S1.1 8 11 = nI (b 5)) → (∀ z, z < 4 → S1.1 26 z = stN b z) → (∀ z, z < q → S1.1 28 z = wdN b z) → Wp M_m_load 88 [.ref 8, x1, .int (nI q), x3, x4, x5, x6] [] S1 (fun v9 S' => v9 = some (.int (nI (faN b n))) ∧ (¬ faN b n = 0 → S' = S) ∧ (faN b n = 0 → ML S S' b)) := by
    intro hf
    obtain ⟨f1, f2, f3, f4, f5, f6⟩ := faN_0 hf
    have hs := of_decide_eq_true f2
    have hwl := wcN_le f2
    obtain ⟨i1, i2⟩ := ids_ok f6
    have hs12 := msz_12 (nI (b 2))
    have hpl := parts_le (nI (b 2))
    have hps := pm_sz (nI (b 2)) (b 4)
    have hW0 : 0 < b 4 * msz (nI (b 2)) := Nat.mul_pos (by omega) hs12.1
    have hW8 : b 4 * msz (nI (b 2)) ≤ 8 := Nat.mul_le_mul (show b 4 ≤ 4 by omega) hs12.2
    have hbd := pw_bd (nI (b 2)) (show b 4 ≤ 4 by omega)
    refine loopUp _ (fun q hk9 hn9 => ?_)
    intro S1 x1 x3 x4 x5 x6 a0 at0 ac0
    have hb2 := hb1 S1 a0.2.1
    refine w_iload_n d_m_load_88 rfl ?_
    refine w_iconst (v := nI 4) d_m_load_89 (by decide +kernel) ?_
    refine w_aload_n d_m_load_90 rfl ?_
    refine w_getIV (v := (nI (b 3))) d_m_load_91 FL_m_134 (by decide) (rfl) (rfl) (a0.2.2.2.2.1) ?_
    refine w_imulN d_m_load_94 ?_
    refine w_icmp_geN 124 d_m_load_95 (by decide) (by omega) (by omega) (fun h95 => ?_) (fun h95 => ?_)
    · refine w_bipush (v := nI 10) d_m_load_124 (by decide +kernel) ?_
      refine w_bipush (v := nI 8) d_m_load_126 (by decide +kernel) ?_
      refine w_aload_n d_m_load_128 rfl ?_
      refine w_getIV (v := (nI (b 3))) d_m_load_129 FL_m_134 (by decide) (rfl) (rfl) (a0.2.2.2.2.1) ?_
      refine w_imulN d_m_load_132 ?_
      refine w_iaddN d_m_load_133 ?_
      refine w_istore_n d_m_load_134 (Nat.le_of_ble_eq_true rfl) ?_
      refine w_iconst (v := nI 0) d_m_load_135 (by decide +kernel) ?_
      refine w_istore_n d_m_load_136 (Nat.le_of_ble_eq_true rfl) ?_
      exact hW hf 0 (by omega) _ _ _ _ _ a0 at0 (fun z hz => ac0 z (by omega)) lt_0
    · refine w_aload_n d_m_load_98 rfl ?_
      refine w_getR d_m_load_99 FL_m_16 (by decide) (rfl) (rfl) ?_
      refine w_iload_n d_m_load_102 rfl ?_
      refine w_aload_n d_m_load_103 rfl ?_
      refine w_bipush (v := nI 10) d_m_load_104 (by decide +kernel) ?_
      refine w_iconst (v := nI 2) d_m_load_106 (by decide +kernel) ?_
      refine w_iload_n d_m_load_107 rfl ?_
      refine w_imulN d_m_load_108 ?_
      refine w_iaddN d_m_load_109 ?_
      refine w_callV1 (N := M_m_two) d_m_load_110 LK_m_218 MF_m_two MV_m_two NP_m_two (by decide) (by decide) (rfl) rfl rfl (Nat.le_of_ble_eq_true rfl) ?_
      refine Ev.det (c_m_two S1 b hb2 _ (by omega)) ?_
      refine w_sipush (v := nI 300) d_m_load_113 (by decide +kernel) ?_
      show Wp _ 116 _ _ _ _
      refine w_isub d_m_load_116 ?_
      refine w_iastNP d_m_load_117 (by decide) (rfl) (show q < 16 from (by omega)) ?_
      refine w_iincN d_m_load_118 rfl ?_
      refine w_goto 88 d_m_load_121 (by decide) ?_
      refine hn9 h95 _ _ _ _ _ _ ⟨a0.1, fun a j ha => by rw [put_ne (by omega)]; exact a0.2.1 a j ha, by rw [put_ne (by omega)]; exact a0.2.2.1, by rw [put_ne (by omega)]; exact a0.2.2.2.1, by rw [put_ne (by omega)]; exact a0.2.2.2.2.1, by rw [put_ne (by omega)]; exact a0.2.2.2.2.2.1, by rw [put_ne (by omega)]; exact a0.2.2.2.2.2.2⟩ (fun z hz => by rw [put_ne (by omega)]; exact at0 z hz) (fun z hz => ?_)
      by_cases hzq : z = q
      · rw [hzq, put_at]
        rfl
      · rw [put_ne (by omega)]
        exact ac0 z (by omega)
  have hT0 : faN b n = 0 → ∀ k, k ≤ 4 → ∀ (S1 : St) (x1 x3 x4 x5 x6 : Value), (S1.2 = S.2 ∧ (∀ a i, ¬ (a = 26 ∨ a = 28 ∨ a = 29 ∨ a = 30 ∨ a = 31 ∨ (a = 8 ∧ (i = 3 ∨ i = 4 ∨ i = 5 ∨ i = 6 ∨ i = 11))) → S1.1 a i = S.1 a i) ∧ S1.1 8 3 = nI 1 ∧ S1.1 8 4 = nI (b 2) ∧ S1.1 8 5 = nI (b 3) ∧ S1.1 8 6 = nI (b 4) ∧ S1.1 8 11 = nI (b 5)) → (∀ z, z < k → S1.1 26 z = stN b z) → Wp M_m_load 58 [.ref 8, x1, .int (nI k), x3, x4, x5, x6] [] S1 (fun v9 S' => v9 = some (.int (nI (faN b n))) ∧ (¬ faN b n = 0 → S' = S) ∧ (faN b n = 0 → ML S S' b)) := by
    intro hf
    refine loopUp _ (fun k hk9 hn9 => ?_)
    intro S1 x1 x3 x4 x5 x6 a0 at0
    have hb2 := hb1 S1 a0.2.1
    refine w_iload_n d_m_load_58 rfl ?_
    refine w_iconst (v := nI 4) d_m_load_59 (by decide +kernel) ?_
    refine w_icmp_geN 86 d_m_load_60 (by decide) (by omega) (by omega) (fun h60 => ?_) (fun h60 => ?_)
    · refine w_iconst (v := nI 0) d_m_load_86 (by decide +kernel) ?_
      refine w_istore_n d_m_load_87 (Nat.le_of_ble_eq_true rfl) ?_
      exact hC hf 0 (by omega) _ _ _ _ _ _ a0 (fun z hz => at0 z (by omega)) lt_0
    · refine w_aload_n d_m_load_63 rfl ?_
      refine w_getR d_m_load_64 FL_m_7 (by decide) (rfl) (rfl) ?_
      refine w_iload_n d_m_load_67 rfl ?_
      refine w_aload_n d_m_load_68 rfl ?_
      refine w_getR d_m_load_69 FL_m_35 (by decide) (rfl) (rfl) ?_
      refine w_bipush (v := nI 6) d_m_load_72 (by decide +kernel) ?_
      refine w_iload_n d_m_load_74 rfl ?_
      refine w_iaddN d_m_load_75 ?_
      refine w_ialdNV (v := (nI (b (6 + k)))) d_m_load_76 (by decide) (rfl) (show 6 + k < 250 from (by omega)) ((hb2 _ (by omega)).1) ?_
      refine w_iconst (v := nI 4) d_m_load_77 (by decide +kernel) ?_
      refine w_isub d_m_load_78 ?_
      show Wp _ 79 _ _ _ _
      refine w_iastNP d_m_load_79 (by decide) (rfl) (show k < 4 from (by omega)) ?_
      refine w_iincN d_m_load_80 rfl ?_
      refine w_goto 58 d_m_load_83 (by decide) ?_
      refine hn9 h60 _ _ _ _ _ _ ⟨a0.1, fun a j ha => by rw [put_ne (by omega)]; exact a0.2.1 a j ha, by rw [put_ne (by omega)]; exact a0.2.2.1, by rw [put_ne (by omega)]; exact a0.2.2.2.1, by rw [put_ne (by omega)]; exact a0.2.2.2.2.1, by rw [put_ne (by omega)]; exact a0.2.2.2.2.2.1, by rw [put_ne (by omega)]; exact a0.2.2.2.2.2.2⟩ (fun z hz => ?_)
      by_cases hzq : z = k
      · rw [hzq, put_at]
        rfl
      · rw [put_ne (by omega)]
        exact at0 z (by omega)
  refine w_aload_n d_m_load_0 rfl ?_
  refine w_callV0 (N := M_m_fault) d_m_load_1 LK_m_221 MF_m_fault MV_m_fault NP_m_fault (by decide) (by decide) (rfl) rfl rfl (Nat.le_of_ble_eq_true rfl) ?_
  refine Ev.det (c_m_fault S b hb n hn hn2) ?_
  refine w_istore_n d_m_load_4 (Nat.le_of_ble_eq_true rfl) ?_
  refine w_iload_n d_m_load_5 rfl ?_
  refine w_if_leN 11 d_m_load_6 (by decide) (by omega) (fun h6 => ?_) (fun h6 => ?_)
  · refine w_aload_n d_m_load_11 rfl ?_
    refine w_iconst (v := nI 1) d_m_load_12 (by decide +kernel) ?_
    refine w_putZP d_m_load_13 FL_m_92 FW_8_3 (by decide) (rfl) (rfl) (by decide) ?_
    refine w_aload_n d_m_load_16 rfl ?_
    refine w_aload_n d_m_load_17 rfl ?_
    refine w_getR d_m_load_18 FL_m_35 (by decide) (rfl) (rfl) ?_
    refine w_iconst (v := nI 2) d_m_load_21 (by decide +kernel) ?_
    refine w_ialdNV (v := (nI (b 2))) d_m_load_22 (by decide) (rfl) (show 2 < 250 from (by omega)) (by rw [put_ne (by decide)]; exact (hb 2 (by decide)).1) ?_
    refine w_putIP d_m_load_23 FL_m_128 FW_8_4 (by decide) (rfl) (rfl) ?_
    refine w_aload_n d_m_load_26 rfl ?_
    refine w_aload_n d_m_load_27 rfl ?_
    show Wp _ 28 _ _ _ _
    refine w_getR d_m_load_28 FL_m_35 (by decide) (rfl) (rfl) ?_
    refine w_iconst (v := nI 3) d_m_load_31 (by decide +kernel) ?_
    refine w_ialdNV (v := (nI (b 3))) d_m_load_32 (by decide) (rfl) (show 3 < 250 from (by omega)) (by rw [put_ne (by decide), put_ne (by decide)]; exact (hb 3 (by decide)).1) ?_
    refine w_putIP d_m_load_33 FL_m_134 FW_8_5 (by decide) (rfl) (rfl) ?_
    refine w_aload_n d_m_load_36 rfl ?_
    refine w_aload_n d_m_load_37 rfl ?_
    refine w_getR d_m_load_38 FL_m_35 (by decide) (rfl) (rfl) ?_
    refine w_iconst (v := nI 4) d_m_load_41 (by decide +kernel) ?_
    refine w_ialdNV (v := (nI (b 4))) d_m_load_42 (by decide) (rfl) (show 4 < 250 from (by omega)) (by rw [put_ne (by decide), put_ne (by decide), put_ne (by decide)]; exact (hb 4 (by decide)).1) ?_
    refine w_putIP d_m_load_43 FL_m_137 FW_8_6 (by decide) (rfl) (rfl) ?_
    refine w_aload_n d_m_load_46 rfl ?_
    refine w_aload_n d_m_load_47 rfl ?_
    show Wp _ 48 _ _ _ _
    refine w_getR d_m_load_48 FL_m_35 (by decide) (rfl) (rfl) ?_
    refine w_iconst (v := nI 5) d_m_load_51 (by decide +kernel) ?_
    refine w_ialdNV (v := (nI (b 5))) d_m_load_52 (by decide) (rfl) (show 5 < 250 from (by omega)) (by rw [put_ne (by decide), put_ne (by decide), put_ne (by decide), put_ne (by decide)]; exact (hb 5 (by decide)).1) ?_
    refine w_putIP d_m_load_53 FL_m_131 FW_8_11 (by decide) (rfl) (rfl) ?_
    refine w_iconst (v := nI 0) d_m_load_56 (by decide +kernel) ?_
    refine w_istore_n d_m_load_57 (Nat.le_of_ble_eq_true rfl) ?_
    refine hT0 (by omega) 0 (by omega) _ _ _ _ _ _ ⟨rfl, fun a i ha => by rw [put_ne (by omega), put_ne (by omega), put_ne (by omega), put_ne (by omega), put_ne (by omega)], by rw [put_ne (by omega), put_ne (by omega), put_ne (by omega), put_ne (by omega), put_at], by rw [put_ne (by omega), put_ne (by omega), put_ne (by omega), put_at], by rw [put_ne (by omega), put_ne (by omega), put_at], by rw [put_ne (by omega), put_at], put_at⟩ lt_0
  · refine w_iload_n d_m_load_9 rfl ?_
    refine w_iret (st := []) rfl d_m_load_10 ?_
    exact ⟨rfl, fun _ => rfl, fun z => absurd z (by omega)⟩
