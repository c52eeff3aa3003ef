/-! The reference's faults and load. -/
theorem w3 {v : Nat} (hv : v ≤ 255) {lo hi : Nat} (hlo : lo ≤ 255) (hhi : hi ≤ 255) : (nI lo ≤ nI v ∧ nI v ≤ nI hi) ↔ (lo ≤ v ∧ v ≤ hi) := by rw [nI_leI (by omega) (by omega), nI_leI (by omega) (by omega)]
theorem es_i (b : Nat → Nat) (i : Nat) : esN b i = esN b 0 + 6 * i := by unfold esN; omega
set_option maxRecDepth 100000 in
set_option maxHeartbeats 4000000 in
theorem c_m_fault (S : St) (b : Nat → Nat) (hb : ∀ p, p < 250 → S.1 34 p = nI (b p) ∧ b p ≤ 255) (n : Nat) (hn : S.1 8 19 = nI n) (hn2 : n ≤ 250) : Ev M_m_fault [.ref 8] S (fun v9 S' => v9 = some (.int (nI (faN b n))) ∧ S' = S) := by
  refine Ev.of MF_m_fault (all_cat rfl) (Nat.le_of_ble_eq_true rfl) ?_
  show Wp M_m_fault 0 [.ref 8, .null, .null, .null, .null, .null, .null] [] _ _
  have b2 := (hb 2 (by decide)).2
  have b3 := (hb 3 (by decide)).2
  have b4 := (hb 4 (by decide)).2
  have b5 := (hb 5 (by decide)).2
  have b0 := (hb 0 (by decide)).2
  have b1 := (hb 1 (by decide)).2
  have hE : 11 ≤ n → b 0 = 86 → b 1 = 1 → szB b = true → turnOK (stN b 0) (stN b 1) (stN b 2) (stN b 3) = true → n = esN b (b 5) + 1 → b (n - 1) = csN b (n - 1) % 251 → wdB b = true → ∀ i, i ≤ b 5 → ∀ (x4 x5 x6 : Value), (∀ j, j < i → idB b j = true) → Wp M_m_fault 231 [.ref 8, .int (nI (esN b 0)), .int (nI (b 5)), .int (nI i), x4, x5, x6] [] S (fun v9 S' => v9 = some (.int (nI (faN b n))) ∧ S' = S) := by
    intro h6 q0 q1 hsz h139 hn6 hn7 hwd
    have hs := of_decide_eq_true hsz
    refine loopUp _ (fun i hk9 hn9 => ?_)
    intro x4 x5 x6 h1
    have pv : ∀ i, i < b 5 → prN b (esN b i) ≤ 65535 := fun i hi => by have h1 := (hb (esN b i) (by have := hn6; unfold esN at this ⊢; omega)).2; have h2 := (hb (esN b i + 1) (by have := hn6; unfold esN at this ⊢; omega)).2; unfold prN; omega
    have hei := es_i b i
    have hem : i < b 5 → esN b i + 6 ≤ 250 := fun hi => by have := hn6; unfold esN at this ⊢; omega
    refine w_iload_n d_m_fault_231 rfl ?_
    refine w_iload_n d_m_fault_232 rfl ?_
    refine w_icmp_geN 367 d_m_fault_233 (by decide) (by omega) (by omega) (fun h233 => ?_) (fun h233 => ?_)
    · refine w_iconst (v := nI 0) d_m_fault_367 (by decide +kernel) ?_
      refine w_iret (st := []) rfl d_m_fault_368 ?_
      have hib : i = b 5 := by omega
      have hal : allB (idB b) (b 5) = true := allB_iff.mpr (by rw [← hib]; exact h1)
      exact ⟨by unfold faN; rw [if_neg (show ¬ n < 11 by omega), if_neg (show ¬ b 0 ≠ 86 by omega), if_neg (show ¬ b 1 ≠ 1 by omega), if_neg (show ¬ szB b = false by rw [hsz]; decide), if_neg (show ¬ turnOK (stN b 0) (stN b 1) (stN b 2) (stN b 3) = false by rw [h139]; decide), if_neg (show ¬ n ≠ esN b (b 5) + 1 by omega), if_neg (show ¬ b (n - 1) ≠ csN b (n - 1) % 251 by omega), if_neg (show ¬ wdB b = false by rw [hwd]; decide), if_neg (show ¬ allB (idB b) (b 5) = false by rw [hal]; decide)], rfl⟩
    · refine w_iload_n d_m_fault_236 rfl ?_
      refine w_bipush (v := nI 6) d_m_fault_237 (by decide +kernel) ?_
      refine w_iload_n d_m_fault_239 rfl ?_
      refine w_imulN d_m_fault_240 ?_
      refine w_iaddN d_m_fault_241 ?_
      refine w_top (w := (nI (esN b i))) (congrArg nI hei.symm) ?_
      refine w_istore d_m_fault_242 (Nat.le_of_ble_eq_true rfl) ?_
      refine w_iload_n d_m_fault_244 rfl ?_
      refine w_if_neN 252 d_m_fault_245 (by decide) (by omega) (fun h245 => ?_) (fun h245 => ?_)
      · refine w_aload_n d_m_fault_252 rfl ?_
        refine w_iload d_m_fault_253 rfl ?_
        refine w_bipush (v := nI 6) d_m_fault_255 (by decide +kernel) ?_
        refine w_isubN d_m_fault_257 (by omega) ?_
        refine w_callV1 (N := M_m_two) d_m_fault_258 LK_m_218 MF_m_two MV_m_two NP_m_two (by decide) (by decide) (rfl) rfl rfl (Nat.le_of_ble_eq_true rfl) ?_
        have hpm := pv (i - 1) (by omega)
        refine Ev.det (c_m_two S b hb _ (by have := hem h233; omega)) ?_
        rw [show esN b i - 6 = esN b (i - 1) from by have := es_i b (i - 1); omega]
        refine w_istore d_m_fault_261 (Nat.le_of_ble_eq_true rfl) ?_
        refine w_aload_n d_m_fault_263 rfl ?_
        refine w_iload d_m_fault_264 rfl ?_
        refine w_callV1 (N := M_m_two) d_m_fault_266 LK_m_218 MF_m_two MV_m_two NP_m_two (by decide) (by decide) (rfl) rfl rfl (Nat.le_of_ble_eq_true rfl) ?_
        have hpi := pv i h233
        have hem9 := hem h233
        refine Ev.det (c_m_two S b hb _ (by omega)) ?_
        refine w_sipush (v := nI 999) d_m_fault_269 (by decide +kernel) ?_
        refine w_icmp_gtN 286 d_m_fault_272 (by decide) (by omega) (by omega) (fun h272 => ?_) (fun h272 => ?_)
        · refine w_iconst (v := nI 1) d_m_fault_286 (by decide +kernel) ?_
          refine w_goto 291 d_m_fault_287 (by decide) ?_
          refine w_istore d_m_fault_291 (Nat.le_of_ble_eq_true rfl) ?_
          refine w_iload d_m_fault_293 rfl ?_
          refine w_if_neN 358 d_m_fault_295 (by decide) (by omega) (fun h295 => ?_) (fun h295 => ?_)
          · refine w_bipush (v := nI 9) d_m_fault_358 (by decide +kernel) ?_
            refine w_iret (st := []) rfl d_m_fault_360 ?_
            have hal : allB (idB b) (b 5) = false := allB_f h233 (by unfold idB; rw [decide_eq_false (fun z => absurd z.1 (by omega))]; rfl)
            exact ⟨by unfold faN; rw [if_neg (show ¬ n < 11 by omega), if_neg (show ¬ b 0 ≠ 86 by omega), if_neg (show ¬ b 1 ≠ 1 by omega), if_neg (show ¬ szB b = false by rw [hsz]; decide), if_neg (show ¬ turnOK (stN b 0) (stN b 1) (stN b 2) (stN b 3) = false by rw [h139]; decide), if_neg (show ¬ n ≠ esN b (b 5) + 1 by omega), if_neg (show ¬ b (n - 1) ≠ csN b (n - 1) % 251 by omega), if_neg (show ¬ wdB b = false by rw [hwd]; decide), if_pos hal], rfl⟩
          · exact absurd h295 (by decide)
        · refine w_aload_n d_m_fault_275 rfl ?_
          refine w_iload d_m_fault_276 rfl ?_
          refine w_callV1 (N := M_m_two) d_m_fault_278 LK_m_218 MF_m_two MV_m_two NP_m_two (by decide) (by decide) (rfl) rfl rfl (Nat.le_of_ble_eq_true rfl) ?_
          have hpi := pv i h233
          have hem9 := hem h233
          refine Ev.det (c_m_two S b hb _ (by omega)) ?_
          refine w_iload d_m_fault_281 rfl ?_
          refine w_icmp_gtN 290 d_m_fault_283 (by decide) (by omega) (by omega) (fun h283 => ?_) (fun h283 => ?_)
          · refine w_iconst (v := nI 0) d_m_fault_290 (by decide +kernel) ?_
            refine w_istore d_m_fault_291 (Nat.le_of_ble_eq_true rfl) ?_
            refine w_iload d_m_fault_293 rfl ?_
            refine w_if_neN 358 d_m_fault_295 (by decide) (by omega) (fun h295 => ?_) (fun h295 => ?_)
            · exact absurd h295 (by decide)
            · have z2 := (hb (esN b i + 2) (by omega)).2
              have z3 := (hb (esN b i + 3) (by omega)).2
              have z4 := (hb (esN b i + 4) (by omega)).2
              have z5 := (hb (esN b i + 5) (by omega)).2
              refine w_aload_n d_m_fault_298 rfl ?_
              refine w_getR d_m_fault_299 FL_m_35 (by decide) (rfl) (rfl) ?_
              refine w_iload d_m_fault_302 rfl ?_
              refine w_iconst (v := nI 2) d_m_fault_304 (by decide +kernel) ?_
              refine w_iaddN d_m_fault_305 ?_
              refine w_ialdNV (v := (nI (b (esN b i + 2)))) d_m_fault_306 (by decide) (rfl) (show (esN b i) + 2 < 250 from (by omega)) ((hb _ (by omega)).1) ?_
              refine w_sipush (v := nI 200) d_m_fault_307 (by decide +kernel) ?_
              refine w_icmp_gtN 358 d_m_fault_310 (by decide) (by omega) (by omega) (fun h310 => ?_) (fun h310 => ?_)
              · refine w_bipush (v := nI 9) d_m_fault_358 (by decide +kernel) ?_
                refine w_iret (st := []) rfl d_m_fault_360 ?_
                have hal : allB (idB b) (b 5) = false := allB_f h233 (by unfold idB; rw [show ptB b i = false from allB_f (show 0 < 4 by decide) (decide_eq_false (show ¬ b (esN b i + 2) ≤ 200 by omega)), Bool.and_false])
                exact ⟨by unfold faN; rw [if_neg (show ¬ n < 11 by omega), if_neg (show ¬ b 0 ≠ 86 by omega), if_neg (show ¬ b 1 ≠ 1 by omega), if_neg (show ¬ szB b = false by rw [hsz]; decide), if_neg (show ¬ turnOK (stN b 0) (stN b 1) (stN b 2) (stN b 3) = false by rw [h139]; decide), if_neg (show ¬ n ≠ esN b (b 5) + 1 by omega), if_neg (show ¬ b (n - 1) ≠ csN b (n - 1) % 251 by omega), if_neg (show ¬ wdB b = false by rw [hwd]; decide), if_pos hal], rfl⟩
              · refine w_aload_n d_m_fault_313 rfl ?_
                refine w_getR d_m_fault_314 FL_m_35 (by decide) (rfl) (rfl) ?_
                refine w_iload d_m_fault_317 rfl ?_
                refine w_iconst (v := nI 3) d_m_fault_319 (by decide +kernel) ?_
                refine w_iaddN d_m_fault_320 ?_
                refine w_ialdNV (v := (nI (b (esN b i + 3)))) d_m_fault_321 (by decide) (rfl) (show (esN b i) + 3 < 250 from (by omega)) ((hb _ (by omega)).1) ?_
                refine w_sipush (v := nI 200) d_m_fault_322 (by decide +kernel) ?_
                refine w_icmp_gtN 358 d_m_fault_325 (by decide) (by omega) (by omega) (fun h325 => ?_) (fun h325 => ?_)
                · refine w_bipush (v := nI 9) d_m_fault_358 (by decide +kernel) ?_
                  refine w_iret (st := []) rfl d_m_fault_360 ?_
                  have hal : allB (idB b) (b 5) = false := allB_f h233 (by unfold idB; rw [show ptB b i = false from allB_f (show 1 < 4 by decide) (decide_eq_false (show ¬ b (esN b i + 3) ≤ 200 by omega)), Bool.and_false])
                  exact ⟨by unfold faN; rw [if_neg (show ¬ n < 11 by omega), if_neg (show ¬ b 0 ≠ 86 by omega), if_neg (show ¬ b 1 ≠ 1 by omega), if_neg (show ¬ szB b = false by rw [hsz]; decide), if_neg (show ¬ turnOK (stN b 0) (stN b 1) (stN b 2) (stN b 3) = false by rw [h139]; decide), if_neg (show ¬ n ≠ esN b (b 5) + 1 by omega), if_neg (show ¬ b (n - 1) ≠ csN b (n - 1) % 251 by omega), if_neg (show ¬ wdB b = false by rw [hwd]; decide), if_pos hal], rfl⟩
                · refine w_aload_n d_m_fault_328 rfl ?_
                  refine w_getR d_m_fault_329 FL_m_35 (by decide) (rfl) (rfl) ?_
                  refine w_iload d_m_fault_332 rfl ?_
                  refine w_iconst (v := nI 4) d_m_fault_334 (by decide +kernel) ?_
                  refine w_iaddN d_m_fault_335 ?_
                  refine w_ialdNV (v := (nI (b (esN b i + 4)))) d_m_fault_336 (by decide) (rfl) (show (esN b i) + 4 < 250 from (by omega)) ((hb _ (by omega)).1) ?_
                  refine w_sipush (v := nI 200) d_m_fault_337 (by decide +kernel) ?_
                  refine w_icmp_gtN 358 d_m_fault_340 (by decide) (by omega) (by omega) (fun h340 => ?_) (fun h340 => ?_)
                  · refine w_bipush (v := nI 9) d_m_fault_358 (by decide +kernel) ?_
                    refine w_iret (st := []) rfl d_m_fault_360 ?_
                    have hal : allB (idB b) (b 5) = false := allB_f h233 (by unfold idB; rw [show ptB b i = false from allB_f (show 2 < 4 by decide) (decide_eq_false (show ¬ b (esN b i + 4) ≤ 200 by omega)), Bool.and_false])
                    exact ⟨by unfold faN; rw [if_neg (show ¬ n < 11 by omega), if_neg (show ¬ b 0 ≠ 86 by omega), if_neg (show ¬ b 1 ≠ 1 by omega), if_neg (show ¬ szB b = false by rw [hsz]; decide), if_neg (show ¬ turnOK (stN b 0) (stN b 1) (stN b 2) (stN b 3) = false by rw [h139]; decide), if_neg (show ¬ n ≠ esN b (b 5) + 1 by omega), if_neg (show ¬ b (n - 1) ≠ csN b (n - 1) % 251 by omega), if_neg (show ¬ wdB b = false by rw [hwd]; decide), if_pos hal], rfl⟩
                  · refine w_aload_n d_m_fault_343 rfl ?_
                    refine w_getR d_m_fault_344 FL_m_35 (by decide) (rfl) (rfl) ?_
                    refine w_iload d_m_fault_347 rfl ?_
                    refine w_iconst (v := nI 5) d_m_fault_349 (by decide +kernel) ?_
                    refine w_iaddN d_m_fault_350 ?_
                    refine w_ialdNV (v := (nI (b (esN b i + 5)))) d_m_fault_351 (by decide) (rfl) (show (esN b i) + 5 < 250 from (by omega)) ((hb _ (by omega)).1) ?_
                    refine w_sipush (v := nI 200) d_m_fault_352 (by decide +kernel) ?_
                    refine w_icmp_leN 361 d_m_fault_355 (by decide) (by omega) (by omega) (fun h355 => ?_) (fun h355 => ?_)
                    · refine w_iincN d_m_fault_361 rfl ?_
                      refine w_goto 231 d_m_fault_364 (by decide) ?_
                      refine hn9 h233 _ _ _ (lt_s h1 ?_)
                      unfold idB
                      refine bI_and_true (decide_eq_true ⟨by omega, fun h0 => by omega⟩) (allB_iff.mpr (fun k hk => decide_eq_true ?_))
                      match k, hk with
                      | 0, _ => exact h310
                      | 1, _ => exact h325
                      | 2, _ => exact h340
                      | 3, _ => exact h355
                    · refine w_bipush (v := nI 9) d_m_fault_358 (by decide +kernel) ?_
                      refine w_iret (st := []) rfl d_m_fault_360 ?_
                      have hal : allB (idB b) (b 5) = false := allB_f h233 (by unfold idB; rw [show ptB b i = false from allB_f (show 3 < 4 by decide) (decide_eq_false (show ¬ b (esN b i + 5) ≤ 200 by omega)), Bool.and_false])
                      exact ⟨by unfold faN; rw [if_neg (show ¬ n < 11 by omega), if_neg (show ¬ b 0 ≠ 86 by omega), if_neg (show ¬ b 1 ≠ 1 by omega), if_neg (show ¬ szB b = false by rw [hsz]; decide), if_neg (show ¬ turnOK (stN b 0) (stN b 1) (stN b 2) (stN b 3) = false by rw [h139]; decide), if_neg (show ¬ n ≠ esN b (b 5) + 1 by omega), if_neg (show ¬ b (n - 1) ≠ csN b (n - 1) % 251 by omega), if_neg (show ¬ wdB b = false by rw [hwd]; decide), if_pos hal], rfl⟩
          · refine w_iconst (v := nI 1) d_m_fault_286 (by decide +kernel) ?_
            refine w_goto 291 d_m_fault_287 (by decide) ?_
            refine w_istore d_m_fault_291 (Nat.le_of_ble_eq_true rfl) ?_
            refine w_iload d_m_fault_293 rfl ?_
            refine w_if_neN 358 d_m_fault_295 (by decide) (by omega) (fun h295 => ?_) (fun h295 => ?_)
            · refine w_bipush (v := nI 9) d_m_fault_358 (by decide +kernel) ?_
              refine w_iret (st := []) rfl d_m_fault_360 ?_
              have hal : allB (idB b) (b 5) = false := allB_f h233 (by unfold idB; rw [decide_eq_false (fun z => absurd (z.2 (by omega)) (by omega))]; rfl)
              exact ⟨by unfold faN; rw [if_neg (show ¬ n < 11 by omega), if_neg (show ¬ b 0 ≠ 86 by omega), if_neg (show ¬ b 1 ≠ 1 by omega), if_neg (show ¬ szB b = false by rw [hsz]; decide), if_neg (show ¬ turnOK (stN b 0) (stN b 1) (stN b 2) (stN b 3) = false by rw [h139]; decide), if_neg (show ¬ n ≠ esN b (b 5) + 1 by omega), if_neg (show ¬ b (n - 1) ≠ csN b (n - 1) % 251 by omega), if_neg (show ¬ wdB b = false by rw [hwd]; decide), if_pos hal], rfl⟩
            · exact absurd h295 (by decide)
      · refine w_iconst (v := -1) d_m_fault_248 (by decide +kernel) ?_
        refine w_goto 261 d_m_fault_249 (by decide) ?_
        refine w_istore d_m_fault_261 (Nat.le_of_ble_eq_true rfl) ?_
        refine w_aload_n d_m_fault_263 rfl ?_
        refine w_iload d_m_fault_264 rfl ?_
        refine w_callV1 (N := M_m_two) d_m_fault_266 LK_m_218 MF_m_two MV_m_two NP_m_two (by decide) (by decide) (rfl) rfl rfl (Nat.le_of_ble_eq_true rfl) ?_
        have hpi := pv i h233
        have hem9 := hem h233
        refine Ev.det (c_m_two S b hb _ (by omega)) ?_
        refine w_sipush (v := nI 999) d_m_fault_269 (by decide +kernel) ?_
        refine w_icmp_gtN 286 d_m_fault_272 (by decide) (by omega) (by omega) (fun h272 => ?_) (fun h272 => ?_)
        · refine w_iconst (v := nI 1) d_m_fault_286 (by decide +kernel) ?_
          refine w_goto 291 d_m_fault_287 (by decide) ?_
          refine w_istore d_m_fault_291 (Nat.le_of_ble_eq_true rfl) ?_
          refine w_iload d_m_fault_293 rfl ?_
          refine w_if_neN 358 d_m_fault_295 (by decide) (by omega) (fun h295 => ?_) (fun h295 => ?_)
          · refine w_bipush (v := nI 9) d_m_fault_358 (by decide +kernel) ?_
            refine w_iret (st := []) rfl d_m_fault_360 ?_
            have hal : allB (idB b) (b 5) = false := allB_f h233 (by unfold idB; rw [decide_eq_false (fun z => absurd z.1 (by omega))]; rfl)
            exact ⟨by unfold faN; rw [if_neg (show ¬ n < 11 by omega), if_neg (show ¬ b 0 ≠ 86 by omega), if_neg (show ¬ b 1 ≠ 1 by omega), if_neg (show ¬ szB b = false by rw [hsz]; decide), if_neg (show ¬ turnOK (stN b 0) (stN b 1) (stN b 2) (stN b 3) = false by rw [h139]; decide), if_neg (show ¬ n ≠ esN b (b 5) + 1 by omega), if_neg (show ¬ b (n - 1) ≠ csN b (n - 1) % 251 by omega), if_neg (show ¬ wdB b = false by rw [hwd]; decide), if_pos hal], rfl⟩
          · exact absurd h295 (by decide)
        · refine w_aload_n d_m_fault_275 rfl ?_
          refine w_iload d_m_fault_276 rfl ?_
          refine w_callV1 (N := M_m_two) d_m_fault_278 LK_m_218 MF_m_two MV_m_two NP_m_two (by decide) (by decide) (rfl) rfl rfl (Nat.le_of_ble_eq_true rfl) ?_
          have hpi := pv i h233
          have hem9 := hem h233
          refine Ev.det (c_m_two S b hb _ (by omega)) ?_
          refine w_iload d_m_fault_281 rfl ?_
          refine w_icmp_gt 290 d_m_fault_283 (by decide) (fun h283 => ?_) (fun h283 => ?_)
          · refine w_iconst (v := nI 0) d_m_fault_290 (by decide +kernel) ?_
            refine w_istore d_m_fault_291 (Nat.le_of_ble_eq_true rfl) ?_
            refine w_iload d_m_fault_293 rfl ?_
            refine w_if_neN 358 d_m_fault_295 (by decide) (by omega) (fun h295 => ?_) (fun h295 => ?_)
            · exact absurd h295 (by decide)
            · have z2 := (hb (esN b i + 2) (by omega)).2
              have z3 := (hb (esN b i + 3) (by omega)).2
              have z4 := (hb (esN b i + 4) (by omega)).2
              have z5 := (hb (esN b i + 5) (by omega)).2
              refine w_aload_n d_m_fault_298 rfl ?_
              refine w_getR d_m_fault_299 FL_m_35 (by decide) (rfl) (rfl) ?_
              refine w_iload d_m_fault_302 rfl ?_
              refine w_iconst (v := nI 2) d_m_fault_304 (by decide +kernel) ?_
              refine w_iaddN d_m_fault_305 ?_
              refine w_ialdNV (v := (nI (b (esN b i + 2)))) d_m_fault_306 (by decide) (rfl) (show (esN b i) + 2 < 250 from (by omega)) ((hb _ (by omega)).1) ?_
              refine w_sipush (v := nI 200) d_m_fault_307 (by decide +kernel) ?_
              refine w_icmp_gtN 358 d_m_fault_310 (by decide) (by omega) (by omega) (fun h310 => ?_) (fun h310 => ?_)
              · refine w_bipush (v := nI 9) d_m_fault_358 (by decide +kernel) ?_
                refine w_iret (st := []) rfl d_m_fault_360 ?_
                have hal : allB (idB b) (b 5) = false := allB_f h233 (by unfold idB; rw [show ptB b i = false from allB_f (show 0 < 4 by decide) (decide_eq_false (show ¬ b (esN b i + 2) ≤ 200 by omega)), Bool.and_false])
                exact ⟨by unfold faN; rw [if_neg (show ¬ n < 11 by omega), if_neg (show ¬ b 0 ≠ 86 by omega), if_neg (show ¬ b 1 ≠ 1 by omega), if_neg (show ¬ szB b = false by rw [hsz]; decide), if_neg (show ¬ turnOK (stN b 0) (stN b 1) (stN b 2) (stN b 3) = false by rw [h139]; decide), if_neg (show ¬ n ≠ esN b (b 5) + 1 by omega), if_neg (show ¬ b (n - 1) ≠ csN b (n - 1) % 251 by omega), if_neg (show ¬ wdB b = false by rw [hwd]; decide), if_pos hal], rfl⟩
              · refine w_aload_n d_m_fault_313 rfl ?_
                refine w_getR d_m_fault_314 FL_m_35 (by decide) (rfl) (rfl) ?_
                refine w_iload d_m_fault_317 rfl ?_
                refine w_iconst (v := nI 3) d_m_fault_319 (by decide +kernel) ?_
                refine w_iaddN d_m_fault_320 ?_
                refine w_ialdNV (v := (nI (b (esN b i + 3)))) d_m_fault_321 (by decide) (rfl) (show (esN b i) + 3 < 250 from (by omega)) ((hb _ (by omega)).1) ?_
                refine w_sipush (v := nI 200) d_m_fault_322 (by decide +kernel) ?_
                refine w_icmp_gtN 358 d_m_fault_325 (by decide) (by omega) (by omega) (fun h325 => ?_) (fun h325 => ?_)
                · refine w_bipush (v := nI 9) d_m_fault_358 (by decide +kernel) ?_
                  refine w_iret (st := []) rfl d_m_fault_360 ?_
                  have hal : allB (idB b) (b 5) = false := allB_f h233 (by unfold idB; rw [show ptB b i = false from allB_f (show 1 < 4 by decide) (decide_eq_false (show ¬ b (esN b i + 3) ≤ 200 by omega)), Bool.and_false])
                  exact ⟨by unfold faN; rw [if_neg (show ¬ n < 11 by omega), if_neg (show ¬ b 0 ≠ 86 by omega), if_neg (show ¬ b 1 ≠ 1 by omega), if_neg (show ¬ szB b = false by rw [hsz]; decide), if_neg (show ¬ turnOK (stN b 0) (stN b 1) (stN b 2) (stN b 3) = false by rw [h139]; decide), if_neg (show ¬ n ≠ esN b (b 5) + 1 by omega), if_neg (show ¬ b (n - 1) ≠ csN b (n - 1) % 251 by omega), if_neg (show ¬ wdB b = false by rw [hwd]; decide), if_pos hal], rfl⟩
                · refine w_aload_n d_m_fault_328 rfl ?_
                  refine w_getR d_m_fault_329 FL_m_35 (by decide) (rfl) (rfl) ?_
                  refine w_iload d_m_fault_332 rfl ?_
                  refine w_iconst (v := nI 4) d_m_fault_334 (by decide +kernel) ?_
                  refine w_iaddN d_m_fault_335 ?_
                  refine w_ialdNV (v := (nI (b (esN b i + 4)))) d_m_fault_336 (by decide) (rfl) (show (esN b i) + 4 < 250 from (by omega)) ((hb _ (by omega)).1) ?_
                  refine w_sipush (v := nI 200) d_m_fault_337 (by decide +kernel) ?_
                  refine w_icmp_gtN 358 d_m_fault_340 (by decide) (by omega) (by omega) (fun h340 => ?_) (fun h340 => ?_)
                  · refine w_bipush (v := nI 9) d_m_fault_358 (by decide +kernel) ?_
                    refine w_iret (st := []) rfl d_m_fault_360 ?_
                    have hal : allB (idB b) (b 5) = false := allB_f h233 (by unfold idB; rw [show ptB b i = false from allB_f (show 2 < 4 by decide) (decide_eq_false (show ¬ b (esN b i + 4) ≤ 200 by omega)), Bool.and_false])
                    exact ⟨by unfold faN; rw [if_neg (show ¬ n < 11 by omega), if_neg (show ¬ b 0 ≠ 86 by omega), if_neg (show ¬ b 1 ≠ 1 by omega), if_neg (show ¬ szB b = false by rw [hsz]; decide), if_neg (show ¬ turnOK (stN b 0) (stN b 1) (stN b 2) (stN b 3) = false by rw [h139]; decide), if_neg (show ¬ n ≠ esN b (b 5) + 1 by omega), if_neg (show ¬ b (n - 1) ≠ csN b (n - 1) % 251 by omega), if_neg (show ¬ wdB b = false by rw [hwd]; decide), if_pos hal], rfl⟩
                  · refine w_aload_n d_m_fault_343 rfl ?_
                    refine w_getR d_m_fault_344 FL_m_35 (by decide) (rfl) (rfl) ?_
                    refine w_iload d_m_fault_347 rfl ?_
                    refine w_iconst (v := nI 5) d_m_fault_349 (by decide +kernel) ?_
                    refine w_iaddN d_m_fault_350 ?_
                    refine w_ialdNV (v := (nI (b (esN b i + 5)))) d_m_fault_351 (by decide) (rfl) (show (esN b i) + 5 < 250 from (by omega)) ((hb _ (by omega)).1) ?_
                    refine w_sipush (v := nI 200) d_m_fault_352 (by decide +kernel) ?_
                    refine w_icmp_leN 361 d_m_fault_355 (by decide) (by omega) (by omega) (fun h355 => ?_) (fun h355 => ?_)
                    · refine w_iincN d_m_fault_361 rfl ?_
                      refine w_goto 231 d_m_fault_364 (by decide) ?_
                      refine hn9 h233 _ _ _ (lt_s h1 ?_)
                      unfold idB
                      refine bI_and_true (decide_eq_true ⟨by omega, fun h0 => by omega⟩) (allB_iff.mpr (fun k hk => decide_eq_true ?_))
                      match k, hk with
                      | 0, _ => exact h310
                      | 1, _ => exact h325
                      | 2, _ => exact h340
                      | 3, _ => exact h355
                    · refine w_bipush (v := nI 9) d_m_fault_358 (by decide +kernel) ?_
                      refine w_iret (st := []) rfl d_m_fault_360 ?_
                      have hal : allB (idB b) (b 5) = false := allB_f h233 (by unfold idB; rw [show ptB b i = false from allB_f (show 3 < 4 by decide) (decide_eq_false (show ¬ b (esN b i + 5) ≤ 200 by omega)), Bool.and_false])
                      exact ⟨by unfold faN; rw [if_neg (show ¬ n < 11 by omega), if_neg (show ¬ b 0 ≠ 86 by omega), if_neg (show ¬ b 1 ≠ 1 by omega), if_neg (show ¬ szB b = false by rw [hsz]; decide), if_neg (show ¬ turnOK (stN b 0) (stN b 1) (stN b 2) (stN b 3) = false by rw [h139]; decide), if_neg (show ¬ n ≠ esN b (b 5) + 1 by omega), if_neg (show ¬ b (n - 1) ≠ csN b (n - 1) % 251 by omega), if_neg (show ¬ wdB b = false by rw [hwd]; decide), if_pos hal], rfl⟩
          · refine w_iconst (v := nI 1) d_m_fault_286 (by decide +kernel) ?_
            refine w_goto 291 d_m_fault_287 (by decide) ?_
            refine w_istore d_m_fault_291 (Nat.le_of_ble_eq_true rfl) ?_
            refine w_iload d_m_fault_293 rfl ?_
            refine w_if_neN 358 d_m_fault_295 (by decide) (by omega) (fun h295 => ?_) (fun h295 => ?_)
            · refine w_bipush (v := nI 9) d_m_fault_358 (by decide +kernel) ?_
              refine w_iret (st := []) rfl d_m_fault_360 ?_
              refine absurd ?_ h283
              rw [Int32.lt_iff_toInt_lt, nI_toInt (by omega)]
              exact Int.lt_of_lt_of_le (by decide) (Int.natCast_nonneg _)
            · exact absurd h295 (by decide)
  have hW : 11 ≤ n → b 0 = 86 → b 1 = 1 → szB b = true → turnOK (stN b 0) (stN b 1) (stN b 2) (stN b 3) = true → n = esN b (b 5) + 1 → b (n - 1) = csN b (n - 1) % 251 → ∀ q, q ≤ wcN b → ∀ (p : Nat) (x4 x5 x6 : Value), p = 10 + 2 * q → (∀ j, j < q → decide (prN b (10 + 2 * j) ≤ 600) = true) → Wp M_m_fault 204 [.ref 8, .int (nI (esN b 0)), .int (nI (b 5)), .int (nI p), x4, x5, x6] [] S (fun v9 S' => v9 = some (.int (nI (faN b n))) ∧ S' = S) := by
    intro h6 q0 q1 hsz h139 hn6 hn7
    have hs := of_decide_eq_true hsz
    have hwl := wcN_le hsz
    have he0 : esN b 0 = 10 + 2 * wcN b := by unfold esN; omega
    refine loopUp _ (fun q hk9 hn9 => ?_)
    intro p x4 x5 x6 hp h1
    refine w_iload_n d_m_fault_204 rfl ?_
    refine w_iload_n d_m_fault_205 rfl ?_
    refine w_icmp_geN 229 d_m_fault_206 (by decide) (by omega) (by omega) (fun h206 => ?_) (fun h206 => ?_)
    · refine w_iconst (v := nI 0) d_m_fault_229 (by decide +kernel) ?_
      refine w_istore_n d_m_fault_230 (Nat.le_of_ble_eq_true rfl) ?_
      exact hE h6 q0 q1 hsz h139 hn6 hn7 (allB_iff.mpr (fun j hj => h1 j (by omega))) 0 (by omega) _ _ _ lt_0
    · refine w_aload_n d_m_fault_209 rfl ?_
      refine w_iload_n d_m_fault_210 rfl ?_
      refine w_callV1 (N := M_m_two) d_m_fault_211 LK_m_218 MF_m_two MV_m_two NP_m_two (by decide) (by decide) (rfl) rfl rfl (Nat.le_of_ble_eq_true rfl) ?_
      refine Ev.det (c_m_two S b hb _ (by omega)) ?_
      have z1 := (hb p (by omega)).2
      have z2 := (hb (p + 1) (by omega)).2
      have hpr : prN b p ≤ 65535 := by unfold prN; omega
      refine w_sipush (v := nI 600) d_m_fault_214 (by decide +kernel) ?_
      refine w_icmp_leN 223 d_m_fault_217 (by decide) (by omega) (by omega) (fun h217 => ?_) (fun h217 => ?_)
      · refine w_iincN2 d_m_fault_223 rfl ?_
        refine w_goto 204 d_m_fault_226 (by decide) ?_
        exact hn9 (by omega) _ _ _ _ (by omega) (lt_s h1 (decide_eq_true (by rw [← hp]; omega)))
      · refine w_bipush (v := nI 8) d_m_fault_220 (by decide +kernel) ?_
        refine w_iret (st := []) rfl d_m_fault_222 ?_
        have hwd : wdB b = false := allB_f (show q < wcN b by omega) (decide_eq_false (by rw [← hp]; omega))
        exact ⟨by unfold faN; rw [if_neg (show ¬ n < 11 by omega), if_neg (show ¬ b 0 ≠ 86 by omega), if_neg (show ¬ b 1 ≠ 1 by omega), if_neg (show ¬ szB b = false by rw [hsz]; decide), if_neg (show ¬ turnOK (stN b 0) (stN b 1) (stN b 2) (stN b 3) = false by rw [h139]; decide), if_neg (show ¬ n ≠ esN b (b 5) + 1 by omega), if_neg (show ¬ b (n - 1) ≠ csN b (n - 1) % 251 by omega), if_pos hwd], rfl⟩
  refine w_aload_n d_m_fault_0 rfl ?_
  refine w_getIV (v := (nI n)) d_m_fault_1 FL_m_203 (by decide) (rfl) (rfl) (hn) ?_
  refine w_bipush (v := nI 11) d_m_fault_4 (by decide +kernel) ?_
  refine w_icmp_geN 11 d_m_fault_6 (by decide) (by omega) (by omega) (fun h6 => ?_) (fun h6 => ?_)
  · refine w_aload_n d_m_fault_11 rfl ?_
    refine w_getR d_m_fault_12 FL_m_35 (by decide) (rfl) (rfl) ?_
    refine w_iconst (v := nI 0) d_m_fault_15 (by decide +kernel) ?_
    refine w_ialdNV (v := (nI (b 0))) d_m_fault_16 (by decide) (rfl) (show 0 < 250 from (by omega)) ((hb _ (by decide)).1) ?_
    refine w_bipush (v := nI 86) d_m_fault_17 (by decide +kernel) ?_
    refine w_icmp_neN 32 d_m_fault_19 (by decide) (by omega) (by omega) (fun h19 => ?_) (fun h19 => ?_)
    · refine w_aload_n d_m_fault_32 rfl ?_
      refine w_getR d_m_fault_33 FL_m_35 (by decide) (rfl) (rfl) ?_
      refine w_iconst (v := nI 0) d_m_fault_36 (by decide +kernel) ?_
      refine w_ialdNV (v := (nI (b 0))) d_m_fault_37 (by decide) (rfl) (show 0 < 250 from (by omega)) ((hb _ (by decide)).1) ?_
      refine w_bipush (v := nI 86) d_m_fault_38 (by decide +kernel) ?_
      refine w_icmp_eqN 47 d_m_fault_40 (by decide) (by omega) (by omega) (fun h40 => ?_) (fun h40 => ?_)
      · refine w_iconst (v := nI 3) d_m_fault_47 (by decide +kernel) ?_
        refine w_iret (st := []) rfl d_m_fault_48 ?_
        exact absurd h40 (by omega)
      · refine w_iconst (v := nI 2) d_m_fault_43 (by decide +kernel) ?_
        refine w_goto 48 d_m_fault_44 (by decide) ?_
        refine w_iret (st := []) rfl d_m_fault_48 ?_
        exact ⟨by unfold faN; rw [if_neg (show ¬ n < 11 by omega), if_pos (by omega)], rfl⟩
    · refine w_aload_n d_m_fault_22 rfl ?_
      refine w_getR d_m_fault_23 FL_m_35 (by decide) (rfl) (rfl) ?_
      refine w_iconst (v := nI 1) d_m_fault_26 (by decide +kernel) ?_
      refine w_ialdNV (v := (nI (b 1))) d_m_fault_27 (by decide) (rfl) (show 1 < 250 from (by omega)) ((hb _ (by decide)).1) ?_
      refine w_iconst (v := nI 1) d_m_fault_28 (by decide +kernel) ?_
      refine w_icmp_eqN 49 d_m_fault_29 (by decide) (by omega) (by omega) (fun h29 => ?_) (fun h29 => ?_)
      · refine w_aload_n d_m_fault_49 rfl ?_
        refine w_getR d_m_fault_50 FL_m_35 (by decide) (rfl) (rfl) ?_
        refine w_iconst (v := nI 2) d_m_fault_53 (by decide +kernel) ?_
        refine w_ialdNV (v := (nI (b 2))) d_m_fault_54 (by decide) (rfl) (show 2 < 250 from (by omega)) ((hb _ (by decide)).1) ?_
        refine w_iconst (v := nI 2) d_m_fault_55 (by decide +kernel) ?_
        refine w_icmp_gtN 98 d_m_fault_56 (by decide) (by omega) (by omega) (fun h56 => ?_) (fun h56 => ?_)
        · refine w_iconst (v := nI 4) d_m_fault_98 (by decide +kernel) ?_
          refine w_iret (st := []) rfl d_m_fault_99 ?_
          exact ⟨by unfold faN; rw [if_neg (show ¬ n < 11 by omega), if_neg (show ¬ b 0 ≠ 86 by omega), if_neg (show ¬ b 1 ≠ 1 by omega), if_pos (show szB b = false from decide_eq_false (by omega))], rfl⟩
        · refine w_aload_n d_m_fault_59 rfl ?_
          refine w_getR d_m_fault_60 FL_m_35 (by decide) (rfl) (rfl) ?_
          refine w_iconst (v := nI 3) d_m_fault_63 (by decide +kernel) ?_
          refine w_ialdNV (v := (nI (b 3))) d_m_fault_64 (by decide) (rfl) (show 3 < 250 from (by omega)) ((hb _ (by decide)).1) ?_
          refine w_iconst (v := nI 1) d_m_fault_65 (by decide +kernel) ?_
          refine w_iconst (v := nI 4) d_m_fault_66 (by decide +kernel) ?_
          refine w_callS3 (N := M_m_within) d_m_fault_67 LK_m_85 MF_m_within MS_m_within NP_m_within (by decide) rfl (Nat.le_of_ble_eq_true rfl) ?_
          refine Ev.det (c_m_within _ _ _ _) ?_
          refine w_if_eqB 98 d_m_fault_70 (by decide) (fun h70 => ?_) (fun h70 => ?_)
          · refine w_iconst (v := nI 4) d_m_fault_98 (by decide +kernel) ?_
            refine w_iret (st := []) rfl d_m_fault_99 ?_
            exact ⟨by unfold faN; rw [if_neg (show ¬ n < 11 by omega), if_neg (show ¬ b 0 ≠ 86 by omega), if_neg (show ¬ b 1 ≠ 1 by omega), if_pos (show szB b = false from decide_eq_false (fun z => of_decide_eq_false h70 ((w3 b3 (by decide) (by decide)).mpr z.2.1)))], rfl⟩
          · refine w_aload_n d_m_fault_73 rfl ?_
            refine w_getR d_m_fault_74 FL_m_35 (by decide) (rfl) (rfl) ?_
            refine w_iconst (v := nI 4) d_m_fault_77 (by decide +kernel) ?_
            refine w_ialdNV (v := (nI (b 4))) d_m_fault_78 (by decide) (rfl) (show 4 < 250 from (by omega)) ((hb _ (by decide)).1) ?_
            refine w_iconst (v := nI 1) d_m_fault_79 (by decide +kernel) ?_
            refine w_iconst (v := nI 4) d_m_fault_80 (by decide +kernel) ?_
            refine w_callS3 (N := M_m_within) d_m_fault_81 LK_m_85 MF_m_within MS_m_within NP_m_within (by decide) rfl (Nat.le_of_ble_eq_true rfl) ?_
            refine Ev.det (c_m_within _ _ _ _) ?_
            refine w_if_eqB 98 d_m_fault_84 (by decide) (fun h84 => ?_) (fun h84 => ?_)
            · refine w_iconst (v := nI 4) d_m_fault_98 (by decide +kernel) ?_
              refine w_iret (st := []) rfl d_m_fault_99 ?_
              exact ⟨by unfold faN; rw [if_neg (show ¬ n < 11 by omega), if_neg (show ¬ b 0 ≠ 86 by omega), if_neg (show ¬ b 1 ≠ 1 by omega), if_pos (show szB b = false from decide_eq_false (fun z => of_decide_eq_false h84 ((w3 b4 (by decide) (by decide)).mpr z.2.2.1)))], rfl⟩
            · refine w_aload_n d_m_fault_87 rfl ?_
              refine w_getR d_m_fault_88 FL_m_35 (by decide) (rfl) (rfl) ?_
              refine w_iconst (v := nI 5) d_m_fault_91 (by decide +kernel) ?_
              refine w_ialdNV (v := (nI (b 5))) d_m_fault_92 (by decide) (rfl) (show 5 < 250 from (by omega)) ((hb _ (by decide)).1) ?_
              refine w_bipush (v := nI 20) d_m_fault_93 (by decide +kernel) ?_
              refine w_icmp_leN 100 d_m_fault_95 (by decide) (by omega) (by omega) (fun h95 => ?_) (fun h95 => ?_)
              · refine w_aload_n d_m_fault_100 rfl ?_
                refine w_getR d_m_fault_101 FL_m_35 (by decide) (rfl) (rfl) ?_
                refine w_bipush (v := nI 6) d_m_fault_104 (by decide +kernel) ?_
                refine w_ialdNV (v := (nI (b 6))) d_m_fault_106 (by decide) (rfl) (show 6 < 250 from (by omega)) ((hb _ (by decide)).1) ?_
                refine w_iconst (v := nI 4) d_m_fault_107 (by decide +kernel) ?_
                refine w_isub d_m_fault_108 ?_
                refine w_aload_n d_m_fault_109 rfl ?_
                refine w_getR d_m_fault_110 FL_m_35 (by decide) (rfl) (rfl) ?_
                refine w_bipush (v := nI 7) d_m_fault_113 (by decide +kernel) ?_
                refine w_ialdNV (v := (nI (b 7))) d_m_fault_115 (by decide) (rfl) (show 7 < 250 from (by omega)) ((hb _ (by decide)).1) ?_
                refine w_iconst (v := nI 4) d_m_fault_116 (by decide +kernel) ?_
                show Wp _ 117 _ _ _ _
                refine w_isub d_m_fault_117 ?_
                refine w_aload_n d_m_fault_118 rfl ?_
                refine w_getR d_m_fault_119 FL_m_35 (by decide) (rfl) (rfl) ?_
                refine w_bipush (v := nI 8) d_m_fault_122 (by decide +kernel) ?_
                refine w_ialdNV (v := (nI (b 8))) d_m_fault_124 (by decide) (rfl) (show 8 < 250 from (by omega)) ((hb _ (by decide)).1) ?_
                refine w_iconst (v := nI 4) d_m_fault_125 (by decide +kernel) ?_
                refine w_isub d_m_fault_126 ?_
                refine w_aload_n d_m_fault_127 rfl ?_
                refine w_getR d_m_fault_128 FL_m_35 (by decide) (rfl) (rfl) ?_
                refine w_bipush (v := nI 9) d_m_fault_131 (by decide +kernel) ?_
                refine w_ialdNV (v := (nI (b 9))) d_m_fault_133 (by decide) (rfl) (show 9 < 250 from (by omega)) ((hb _ (by decide)).1) ?_
                refine w_iconst (v := nI 4) d_m_fault_134 (by decide +kernel) ?_
                show Wp _ 135 _ _ _ _
                refine w_isub d_m_fault_135 ?_
                refine w_callS4 (N := M_m_isTurn) d_m_fault_136 LK_m_96 MF_m_isTurn MS_m_isTurn NP_m_isTurn (by decide) rfl (Nat.le_of_ble_eq_true rfl) ?_
                refine Ev.det (c_m_isTurn S _ _ _ _) ?_
                show Wp _ _ _ (.int (bI (turnOK (stN b 0) (stN b 1) (stN b 2) (stN b 3))) :: _) _ _
                refine w_if_neB 144 d_m_fault_139 (by decide) (fun h139 => ?_) (fun h139 => ?_)
                · have hsz : szB b = true := decide_eq_true ⟨by omega, (w3 b3 (by decide) (by decide)).mp (of_decide_eq_true h70), (w3 b4 (by decide) (by decide)).mp (of_decide_eq_true h84), by omega⟩
                  have hs := of_decide_eq_true hsz
                  have hwl := wcN_le hsz
                  have he0 : esN b 0 = 10 + 2 * wcN b := by unfold esN; omega
                  have he5 := es_i b (b 5)
                  refine w_aload_n d_m_fault_144 rfl ?_
                  refine w_callV0 (N := M_m_head) d_m_fault_145 LK_m_215 MF_m_head MV_m_head NP_m_head (by decide) (by decide) (rfl) rfl rfl (Nat.le_of_ble_eq_true rfl) ?_
                  refine Ev.det (c_m_head S b hb) ?_
                  refine w_istore_n d_m_fault_148 (Nat.le_of_ble_eq_true rfl) ?_
                  refine w_aload_n d_m_fault_149 rfl ?_
                  refine w_getR d_m_fault_150 FL_m_35 (by decide) (rfl) (rfl) ?_
                  refine w_iconst (v := nI 5) d_m_fault_153 (by decide +kernel) ?_
                  refine w_ialdNV (v := (nI (b 5))) d_m_fault_154 (by decide) (rfl) (show 5 < 250 from (by omega)) ((hb _ (by decide)).1) ?_
                  refine w_istore_n d_m_fault_155 (Nat.le_of_ble_eq_true rfl) ?_
                  refine w_aload_n d_m_fault_156 rfl ?_
                  refine w_getIV (v := (nI n)) d_m_fault_157 FL_m_203 (by decide) (rfl) (rfl) (hn) ?_
                  refine w_iload_n d_m_fault_160 rfl ?_
                  show Wp _ 161 _ _ _ _
                  refine w_bipush (v := nI 6) d_m_fault_161 (by decide +kernel) ?_
                  refine w_iload_n d_m_fault_163 rfl ?_
                  refine w_imulN d_m_fault_164 ?_
                  refine w_iaddN d_m_fault_165 ?_
                  refine w_iconst (v := nI 1) d_m_fault_166 (by decide +kernel) ?_
                  refine w_iaddN d_m_fault_167 ?_
                  refine w_icmp_eqN 174 d_m_fault_168 (by decide) (by omega) (by omega) (fun h168 => ?_) (fun h168 => ?_)
                  · refine w_aload_n d_m_fault_174 rfl ?_
                    refine w_getR d_m_fault_175 FL_m_35 (by decide) (rfl) (rfl) ?_
                    refine w_aload_n d_m_fault_178 rfl ?_
                    refine w_getIV (v := (nI n)) d_m_fault_179 FL_m_203 (by decide) (rfl) (rfl) (hn) ?_
                    refine w_iconst (v := nI 1) d_m_fault_182 (by decide +kernel) ?_
                    refine w_isubN d_m_fault_183 (by omega) ?_
                    refine w_ialdNV (v := (nI (b (n - 1)))) d_m_fault_184 (by decide) (rfl) (show n - 1 < 250 from (by omega)) ((hb _ (by omega)).1) ?_
                    refine w_aload_n d_m_fault_185 rfl ?_
                    refine w_aload_n d_m_fault_186 rfl ?_
                    refine w_getIV (v := (nI n)) d_m_fault_187 FL_m_203 (by decide) (rfl) (rfl) (hn) ?_
                    refine w_iconst (v := nI 1) d_m_fault_190 (by decide +kernel) ?_
                    show Wp _ 191 _ _ _ _
                    refine w_isubN d_m_fault_191 (by omega) ?_
                    refine w_callV1 (N := M_m_sum) d_m_fault_192 LK_m_212 MF_m_sum MV_m_sum NP_m_sum (by decide) (by decide) (rfl) rfl rfl (Nat.le_of_ble_eq_true rfl) ?_
                    refine Ev.det (c_m_sum S b hb (n - 1) (by omega)) ?_
                    have hm9 := Nat.mod_lt (csN b (n - 1)) (show 251 > 0 by decide)
                    have bn9 := (hb (n - 1) (by omega)).2
                    refine w_icmp_eqN 201 d_m_fault_195 (by decide) (by omega) (by omega) (fun h195 => ?_) (fun h195 => ?_)
                    · refine w_bipush (v := nI 10) d_m_fault_201 (by decide +kernel) ?_
                      refine w_istore_n d_m_fault_203 (Nat.le_of_ble_eq_true rfl) ?_
                      exact hW h6 h19 h29 hsz h139 (by omega) (by omega) 0 (by omega) _ _ _ _ rfl lt_0
                    · refine w_bipush (v := nI 7) d_m_fault_198 (by decide +kernel) ?_
                      refine w_iret (st := []) rfl d_m_fault_200 ?_
                      exact ⟨by unfold faN; rw [if_neg (show ¬ n < 11 by omega), if_neg (show ¬ b 0 ≠ 86 by omega), if_neg (show ¬ b 1 ≠ 1 by omega), if_neg (show ¬ szB b = false by rw [hsz]; decide), if_neg (show ¬ turnOK (stN b 0) (stN b 1) (stN b 2) (stN b 3) = false by rw [h139]; decide), if_neg (show ¬ n ≠ esN b (b 5) + 1 by omega), if_pos (by omega)], rfl⟩
                  · refine w_bipush (v := nI 6) d_m_fault_171 (by decide +kernel) ?_
                    refine w_iret (st := []) rfl d_m_fault_173 ?_
                    exact ⟨by unfold faN; rw [if_neg (show ¬ n < 11 by omega), if_neg (show ¬ b 0 ≠ 86 by omega), if_neg (show ¬ b 1 ≠ 1 by omega), if_neg (show ¬ szB b = false by rw [hsz]; decide), if_neg (show ¬ turnOK (stN b 0) (stN b 1) (stN b 2) (stN b 3) = false by rw [h139]; decide), if_pos (by omega)], rfl⟩
                · refine w_iconst (v := nI 5) d_m_fault_142 (by decide +kernel) ?_
                  refine w_iret (st := []) rfl d_m_fault_143 ?_
                  have hsz : szB b = true := decide_eq_true ⟨by omega, (w3 b3 (by decide) (by decide)).mp (of_decide_eq_true h70), (w3 b4 (by decide) (by decide)).mp (of_decide_eq_true h84), by omega⟩
                  exact ⟨by unfold faN; rw [if_neg (show ¬ n < 11 by omega), if_neg (show ¬ b 0 ≠ 86 by omega), if_neg (show ¬ b 1 ≠ 1 by omega), if_neg (show ¬ szB b = false by rw [hsz]; decide), if_pos h139], rfl⟩
              · refine w_iconst (v := nI 4) d_m_fault_98 (by decide +kernel) ?_
                refine w_iret (st := []) rfl d_m_fault_99 ?_
                exact ⟨by unfold faN; rw [if_neg (show ¬ n < 11 by omega), if_neg (show ¬ b 0 ≠ 86 by omega), if_neg (show ¬ b 1 ≠ 1 by omega), if_pos (show szB b = false from decide_eq_false (by omega))], rfl⟩
      · refine w_aload_n d_m_fault_32 rfl ?_
        refine w_getR d_m_fault_33 FL_m_35 (by decide) (rfl) (rfl) ?_
        refine w_iconst (v := nI 0) d_m_fault_36 (by decide +kernel) ?_
        refine w_ialdNV (v := (nI (b 0))) d_m_fault_37 (by decide) (rfl) (show 0 < 250 from (by omega)) ((hb _ (by decide)).1) ?_
        refine w_bipush (v := nI 86) d_m_fault_38 (by decide +kernel) ?_
        refine w_icmp_eqN 47 d_m_fault_40 (by decide) (by omega) (by omega) (fun h40 => ?_) (fun h40 => ?_)
        · refine w_iconst (v := nI 3) d_m_fault_47 (by decide +kernel) ?_
          refine w_iret (st := []) rfl d_m_fault_48 ?_
          exact ⟨by unfold faN; rw [if_neg (show ¬ n < 11 by omega), if_neg (show ¬ b 0 ≠ 86 by omega), if_pos (by omega)], rfl⟩
        · refine w_iconst (v := nI 2) d_m_fault_43 (by decide +kernel) ?_
          refine w_goto 48 d_m_fault_44 (by decide) ?_
          refine w_iret (st := []) rfl d_m_fault_48 ?_
          exact ⟨by unfold faN; rw [if_neg (show ¬ n < 11 by omega), if_pos (by omega)], rfl⟩
  · refine w_iconst (v := nI 1) d_m_fault_9 (by decide +kernel) ?_
    refine w_iret (st := []) rfl d_m_fault_10 ?_
    exact ⟨by unfold faN; rw [if_pos h6], rfl⟩
