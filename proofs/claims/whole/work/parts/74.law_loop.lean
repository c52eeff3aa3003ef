section LAWL
variable {p : Program} {l : Launch} {e : Env} {s : State} {m : MethodId} {below : List Frame} {meth : Method} {c : Code} {b L : Nat} {xs : Nat → Int32} {Y : Lay} {S : St} {pc : Nat} {Lo st : List Value}
theorem and31 (v : Int32) : ∃ k, k < 32 ∧ v &&& 31 = nI k := by
  refine ⟨(v &&& 31).toBitVec.toNat, ?_, ?_⟩
  · rw [Int32.toBitVec_and, BitVec.toNat_and]
    exact Nat.lt_of_le_of_lt Nat.and_le_right (by decide)
  · apply Int32.toBitVec_inj.mp
    show _ = (Int32.ofNat _).toBitVec
    rw [Int32.toBitVec_ofNat']
    simp
theorem l_end (X : LX Y p s m meth c b L xs) : Lp Y p l e s m below meth c b 784 Lo [] S := by
  intro ls H locs hL hP hS
  refine lv_iconst X.1.1 X.1.2.1 d_l_784 (v := 1) rfl ?_
  refine va_forget (fun q hq => hS.2.2 q hq) ?_
  refine W.widen (k := 600000) (n := 7302250) (by decide) (by decide) ?_
  exact lw_ret X.1.1 X.1.2.1 X.1.2.2.2.2.2.2 X.1.2.2.2.2.2.1 d_l_785
theorem l_head (X : LX Y p s m meth c b L xs) {i : Nat} (hi : i ≤ 3078) (hgo : i + 6 ≤ L → Lp Y p l e s m below meth c b 27 (Lc Y b i) [] S) : Lp Y p l e s m below meth c b 18 (Lc Y b i) [] S := by
  intro ls H locs hL hP hS
  have hL3 := X.2.2.2.1
  have e6 : (nI L - 6).toInt = (L : Int) - 6 := by
    rw [Int32.toInt_sub, nI_toInt (by omega), show (6 : Int32).toInt = 6 from rfl, bm (by omega) (by omega)]
  refine lv_iload_n X.1.1 X.1.2.1 d_l_18 rfl (hL.2.2.2.1 3 _ rfl) ?_
  refine lv_aload_n X.1.1 X.1.2.1 d_l_19 rfl (hL.2.2.2.2 0 _ rfl) ?_
  refine va_slen X.1.1 X.1.2.1 X.2.1 X.2.2.1 (l_bA X) hS d_l_20 ?_
  refine lv_bipush X.1.1 X.1.2.1 d_l_21 (v := 6) rfl ?_
  refine lv_isub X.1.1 X.1.2.1 d_l_23 ?_
  refine lv_icmp_gt X.1.1 X.1.2.1 d_l_24 (tgt := 784) (by decide) (fun q => ?_) (fun q => ?_)
  · exact l_end X ls H locs hL hP hS
  · refine hgo ?_ ls H locs hL hP hS
    have q' : ¬ (nI L - 6) < nI i := q
    rw [Int32.lt_iff_toInt_lt, e6, nI_toInt (by omega)] at q'
    omega
theorem l_next (X : LX Y p s m meth c b L xs) {i : Nat} (h : Lp Y p l e s m below meth c b 18 (Lc Y b (i + 6)) [] S) : Lp Y p l e s m below meth c b 778 (Lc Y b i) [] S := by
  intro ls H locs hL hP hS
  refine c_iinc (M := M_l_law) (v := nI (i + 6)) X.1 hL rfl (nI_add i 6) d_l_778 (fun ls' hL' => ?_)
  exact lv_goto X.1.1 X.1.2.1 d_l_781 (tgt := 18) (by decide) (h ls' H locs hL' hP hS)
theorem l_body (X : LX Y p s m meth c b L xs) {i : Nat} (hi : i + 6 ≤ L) (hI : Inv S) (hk : ∀ S2, Inv S2 → Lp Y p l e s m below meth c b 778 (Lc Y b i) [] S2) : Lp Y p l e s m below meth c b 27 (Lc Y b i) [] S := by
  intro ls H locs hL hP hS
  have hL3 := X.2.2.2.1
  refine lv_aload_n X.1.1 X.1.2.1 d_l_27 rfl (hL.2.2.2.2 0 _ rfl) ?_
  refine lv_iload_n X.1.1 X.1.2.1 d_l_28 rfl (hL.2.2.2.1 3 _ rfl) ?_
  refine va_sld X.1.1 X.1.2.1 X.2.1 X.2.2.1 (l_bA X) hS (nI_in (by omega) (by omega)) d_l_29 ?_
  rw [nI_clamp (by omega)]
  refine lv_bipush X.1.1 X.1.2.1 d_l_30 (v := 31) rfl ?_
  refine lv_iand X.1.1 X.1.2.1 d_l_32 ?_
  obtain ⟨k, hk32, ek⟩ := and31 (xs i)
  rw [ek]
  by_cases hk20 : 20 ≤ k
  · exact lv_tableOut X.1.1 X.1.2.1 d_l_33 (tgt := 778) (Or.inr (by rw [nI_toInt (by omega)]; omega)) (by decide) (hk S hI ls H locs hL hP hS)
  have hcase : k = 0 ∨ k = 1 ∨ k = 2 ∨ k = 3 ∨ k = 4 ∨ k = 5 ∨ k = 6 ∨ k = 7 ∨ k = 8 ∨ k = 9 ∨ k = 10 ∨ k = 11 ∨ k = 12 ∨ k = 13 ∨ k = 14 ∨ k = 15 ∨ k = 16 ∨ k = 17 ∨ k = 18 ∨ k = 19 := by omega
  rcases hcase with rfl | rfl | rfl | rfl | rfl | rfl | rfl | rfl | rfl | rfl | rfl | rfl | rfl | rfl | rfl | rfl | rfl | rfl | rfl | rfl
  · exact lv_tableIn X.1.1 X.1.2.1 d_l_33 (off := 95) (tgt := 128) (by decide) (by decide) (by decide) (by decide) (l_c0 X hi hI hk ls H locs hL hP hS)
  · exact lv_tableIn X.1.1 X.1.2.1 d_l_33 (off := 148) (tgt := 181) (by decide) (by decide) (by decide) (by decide) (l_c1 X hi hI hk ls H locs hL hP hS)
  · exact lv_tableIn X.1.1 X.1.2.1 d_l_33 (off := 201) (tgt := 234) (by decide) (by decide) (by decide) (by decide) (l_c2 X hi hI hk ls H locs hL hP hS)
  · exact lv_tableIn X.1.1 X.1.2.1 d_l_33 (off := 254) (tgt := 287) (by decide) (by decide) (by decide) (by decide) (l_c3 X hi hI hk ls H locs hL hP hS)
  · exact lv_tableIn X.1.1 X.1.2.1 d_l_33 (off := 287) (tgt := 320) (by decide) (by decide) (by decide) (by decide) (l_c4 X hi hI hk ls H locs hL hP hS)
  · exact lv_tableIn X.1.1 X.1.2.1 d_l_33 (off := 330) (tgt := 363) (by decide) (by decide) (by decide) (by decide) (l_c5 X hi hI hk ls H locs hL hP hS)
  · exact lv_tableIn X.1.1 X.1.2.1 d_l_33 (off := 393) (tgt := 426) (by decide) (by decide) (by decide) (by decide) (l_c6 X hi hI hk ls H locs hL hP hS)
  · exact lv_tableIn X.1.1 X.1.2.1 d_l_33 (off := 416) (tgt := 449) (by decide) (by decide) (by decide) (by decide) (l_c7 X hi hI hk ls H locs hL hP hS)
  · exact lv_tableIn X.1.1 X.1.2.1 d_l_33 (off := 439) (tgt := 472) (by decide) (by decide) (by decide) (by decide) (l_c8 X hi hI hk ls H locs hL hP hS)
  · exact lv_tableIn X.1.1 X.1.2.1 d_l_33 (off := 462) (tgt := 495) (by decide) (by decide) (by decide) (by decide) (l_c9 X hi hI hk ls H locs hL hP hS)
  · exact lv_tableIn X.1.1 X.1.2.1 d_l_33 (off := 485) (tgt := 518) (by decide) (by decide) (by decide) (by decide) (l_c10 X hi hI hk ls H locs hL hP hS)
  · exact lv_tableIn X.1.1 X.1.2.1 d_l_33 (off := 518) (tgt := 551) (by decide) (by decide) (by decide) (by decide) (l_c11 X hi hI hk ls H locs hL hP hS)
  · exact lv_tableIn X.1.1 X.1.2.1 d_l_33 (off := 581) (tgt := 614) (by decide) (by decide) (by decide) (by decide) (l_c12 X hi hI hk ls H locs hL hP hS)
  · exact lv_tableIn X.1.1 X.1.2.1 d_l_33 (off := 604) (tgt := 637) (by decide) (by decide) (by decide) (by decide) (l_c13 X hi hI hk ls H locs hL hP hS)
  · exact lv_tableIn X.1.1 X.1.2.1 d_l_33 (off := 627) (tgt := 660) (by decide) (by decide) (by decide) (by decide) (l_c14 X hi hI hk ls H locs hL hP hS)
  · exact lv_tableIn X.1.1 X.1.2.1 d_l_33 (off := 640) (tgt := 673) (by decide) (by decide) (by decide) (by decide) (l_c15 X hi hI hk ls H locs hL hP hS)
  · exact lv_tableIn X.1.1 X.1.2.1 d_l_33 (off := 653) (tgt := 686) (by decide) (by decide) (by decide) (by decide) (l_c16 X hi hI hk ls H locs hL hP hS)
  · exact lv_tableIn X.1.1 X.1.2.1 d_l_33 (off := 686) (tgt := 719) (by decide) (by decide) (by decide) (by decide) (l_c17 X hi hI hk ls H locs hL hP hS)
  · exact lv_tableIn X.1.1 X.1.2.1 d_l_33 (off := 709) (tgt := 742) (by decide) (by decide) (by decide) (by decide) (l_c18 X hi hI hk ls H locs hL hP hS)
  · exact lv_tableIn X.1.1 X.1.2.1 d_l_33 (off := 732) (tgt := 765) (by decide) (by decide) (by decide) (by decide) (l_c19 X hi hI hk ls H locs hL hP hS)
theorem l_loop (X : LX Y p s m meth c b L xs) : ∀ (n i : Nat) (S : St), L < i + n → i ≤ 3078 → Inv S → Lp Y p l e s m below meth c b 18 (Lc Y b i) [] S
  | 0, i, S, hn, hi, hI => l_head X hi (fun q => absurd hn (by omega))
  | n + 1, i, S, hn, hi, hI => l_head X hi (fun q => l_body X q hI (fun S2 hI2 => l_next X (l_loop X n (i + 6) S2 (by omega) (by have := X.2.2.2.1; omega) hI2)))
end LAWL
