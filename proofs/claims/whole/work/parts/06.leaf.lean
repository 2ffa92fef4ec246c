set_option maxRecDepth 20000 in
set_option maxHeartbeats 2000000 in
theorem c_Arrow_set {G : zG} {h : zH} {k : Nat} {a1 a2 a3 : Int32} {x y z : Int32} (hk : h[k]? = some (.inr (0, [.int a1, .int a2, .int a3]))) {h2 : zH} (e2 : h2 = h.set k (.inr (0, [.int x, .int y, .int z]))) : PW G M_Arrow_set (zroom 0 0 0) false (zr none h2) 0 (zentry 4 [.ref k, .int (x), .int (y), .int (z)]) [] h 0 0 := by
  subst e2
  show PW G M_Arrow_set (zroom 0 0 0) false _ 0 [some (.ref k), some (.int (x)), some (.int (y)), some (.int (z))] [] h 0 0
  refine pw_aload_n d_Arrow_set_0 rfl rfl ?_
  refine pw_iload_n d_Arrow_set_1 rfl rfl ?_
  obtain ⟨h_1, eh_1⟩ : ∃ x_9, x_9 = List.set h (k) (.inr (0, [.int (x), .int (a2), .int (a3)])) := ⟨_, rfl⟩
  refine pw_put rfl d_Arrow_set_2 (fp_Arrow_7 _ _) hk (Nat.le_of_ble_eq_true rfl) (fun _ => ⟨rfl, rfl⟩) eh_1.symm ?_
  refine pw_aload_n d_Arrow_set_5 rfl rfl ?_
  refine pw_iload_n d_Arrow_set_6 rfl rfl ?_
  obtain ⟨h_2, eh_2⟩ : ∃ x_9, x_9 = List.set h_1 (k) (.inr (0, [.int (x), .int (y), .int (a3)])) := ⟨_, rfl⟩
  refine pw_put rfl d_Arrow_set_7 (fp_Arrow_13 _ _) (zg_eq eh_1 hk) (Nat.le_of_ble_eq_true rfl) (fun _ => ⟨rfl, rfl⟩) eh_2.symm ?_
  refine pw_aload_n d_Arrow_set_10 rfl rfl ?_
  refine pw_iload_n d_Arrow_set_11 rfl rfl ?_
  obtain ⟨h_3, eh_3⟩ : ∃ x_9, x_9 = List.set h_2 (k) (.inr (0, [.int (x), .int (y), .int (z)])) := ⟨_, rfl⟩
  refine pw_put rfl d_Arrow_set_12 (fp_Arrow_16 _ _) (zg_eq eh_2 (zg_eq eh_1 hk)) (Nat.le_of_ble_eq_true rfl) (fun _ => ⟨rfl, rfl⟩) eh_3.symm ?_
  refine pw_return d_Arrow_set_15 rfl (by decide) (by decide) ?_
  exact ⟨rfl, by rw [eh_3, eh_2, eh_1, List.set_set, List.set_set]⟩
set_option maxRecDepth 20000 in
set_option maxHeartbeats 2000000 in
theorem c_Arrow_times {G : zG} {h : zH} {k j : Nat} {a1 a2 a3 : Int32} {b1 b2 b3 : Int32} (hk : h[k]? = some (.inr (0, [.int a1, .int a2, .int a3]))) (hj : h[j]? = some (.inr (0, [.int b1, .int b2, .int b3]))) : PW G M_Arrow_times (zroom 0 0 0) true (zr (some (.int (a1 * b1 + a2 * b2 + a3 * b3))) h) 0 (zentry 2 [.ref k, .ref j]) [] h 0 0 := by
  show PW G M_Arrow_times (zroom 0 0 0) true _ 0 [some (.ref k), some (.ref j)] [] h 0 0
  refine pw_aload_n d_Arrow_times_0 rfl rfl ?_
  refine pw_get d_Arrow_times_1 fl_Arrow_7 hk rfl ?_
  refine pw_aload_n d_Arrow_times_4 rfl rfl ?_
  refine pw_get d_Arrow_times_5 fl_Arrow_7 hj rfl ?_
  refine pw_imul d_Arrow_times_8 ?_
  refine pw_aload_n d_Arrow_times_9 rfl rfl ?_
  refine pw_get d_Arrow_times_10 fl_Arrow_13 hk rfl ?_
  refine pw_aload_n d_Arrow_times_13 rfl rfl ?_
  refine pw_get d_Arrow_times_14 fl_Arrow_13 hj rfl ?_
  refine pw_imul d_Arrow_times_17 ?_
  refine pw_iadd d_Arrow_times_18 ?_
  refine pw_aload_n d_Arrow_times_19 rfl rfl ?_
  refine pw_get d_Arrow_times_20 fl_Arrow_16 hk rfl ?_
  refine pw_aload_n d_Arrow_times_23 rfl rfl ?_
  refine pw_get d_Arrow_times_24 fl_Arrow_16 hj rfl ?_
  refine pw_imul d_Arrow_times_27 ?_
  refine pw_iadd d_Arrow_times_28 ?_
  refine pw_ireturn d_Arrow_times_29 rfl (by decide) (by decide) ?_
  exact ⟨rfl, rfl⟩
set_option maxRecDepth 20000 in
set_option maxHeartbeats 2000000 in
theorem c_Arrow_setScaled {G : zG} {h : zH} {k j : Nat} {a1 a2 a3 : Int32} {b1 b2 b3 : Int32} {t : Int32} (hk : h[k]? = some (.inr (0, [.int a1, .int a2, .int a3]))) (hj : h[j]? = some (.inr (0, [.int b1, .int b2, .int b3]))) {h2 : zH} (e2 : h2 = h.set k (.inr (0, [.int (b1 * t), .int (b2 * t), .int (b3 * t)]))) : PW G M_Arrow_setScaled (zroom 1 0 0) false (zr none h2) 0 (zentry 3 [.ref k, .ref j, .int (t)]) [] h 0 0 := by
  subst e2
  show PW G M_Arrow_setScaled (zroom 1 0 0) false _ 0 [some (.ref k), some (.ref j), some (.int (t))] [] h 0 0
  refine pw_aload_n d_Arrow_setScaled_0 rfl rfl ?_
  refine pw_aload_n d_Arrow_setScaled_1 rfl rfl ?_
  refine pw_get d_Arrow_setScaled_2 fl_Arrow_7 hj rfl ?_
  refine pw_iload_n d_Arrow_setScaled_5 rfl rfl ?_
  refine pw_imul d_Arrow_setScaled_6 ?_
  refine pw_aload_n d_Arrow_setScaled_7 rfl rfl ?_
  refine pw_get d_Arrow_setScaled_8 fl_Arrow_13 hj rfl ?_
  refine pw_iload_n d_Arrow_setScaled_11 rfl rfl ?_
  refine pw_imul d_Arrow_setScaled_12 ?_
  refine pw_aload_n d_Arrow_setScaled_13 rfl rfl ?_
  refine pw_get d_Arrow_setScaled_14 fl_Arrow_16 hj rfl ?_
  refine pw_iload_n d_Arrow_setScaled_17 rfl rfl ?_
  refine pw_imul d_Arrow_setScaled_18 ?_
  obtain ⟨h_1, eh_1⟩ : ∃ x_9, x_9 = List.set h (k) (.inr (0, [.int ((b1 * t)), .int ((b2 * t)), .int ((b3 * t))])) := ⟨_, rfl⟩
  refine pw_callV0 (R' := (zroom 0 0 0)) (h2 := h_1) [.int ((b1 * t)), .int ((b2 * t)), .int ((b3 * t))] (fun q => nomatch q) d_Arrow_setScaled_19 lk_Arrow_19 hk rfl rfl rfl (c_Arrow_set hk eh_1) ?_
  refine pw_return d_Arrow_setScaled_22 rfl (by decide) (by decide) ?_
  exact ⟨rfl, by rw [eh_1]⟩
set_option maxRecDepth 20000 in
set_option maxHeartbeats 2000000 in
theorem c_Arrow_setCross {G : zG} {h : zH} {k i j : Nat} {a1 a2 a3 : Int32} {b1 b2 b3 : Int32} {c1 c2 c3 : Int32} (hk : h[k]? = some (.inr (0, [.int a1, .int a2, .int a3]))) (hi : h[i]? = some (.inr (0, [.int b1, .int b2, .int b3]))) (hj : h[j]? = some (.inr (0, [.int c1, .int c2, .int c3]))) {h2 : zH} (e2 : h2 = h.set k (.inr (0, [.int (b2 * c3 - b3 * c2), .int (b3 * c1 - b1 * c3), .int (b1 * c2 - b2 * c1)]))) : PW G M_Arrow_setCross (zroom 1 0 0) false (zr none h2) 0 (zentry 3 [.ref k, .ref i, .ref j]) [] h 0 0 := by
  subst e2
  show PW G M_Arrow_setCross (zroom 1 0 0) false _ 0 [some (.ref k), some (.ref i), some (.ref j)] [] h 0 0
  refine pw_aload_n d_Arrow_setCross_0 rfl rfl ?_
  refine pw_aload_n d_Arrow_setCross_1 rfl rfl ?_
  refine pw_get d_Arrow_setCross_2 fl_Arrow_13 hi rfl ?_
  refine pw_aload_n d_Arrow_setCross_5 rfl rfl ?_
  refine pw_get d_Arrow_setCross_6 fl_Arrow_16 hj rfl ?_
  refine pw_imul d_Arrow_setCross_9 ?_
  refine pw_aload_n d_Arrow_setCross_10 rfl rfl ?_
  refine pw_get d_Arrow_setCross_11 fl_Arrow_16 hi rfl ?_
  refine pw_aload_n d_Arrow_setCross_14 rfl rfl ?_
  refine pw_get d_Arrow_setCross_15 fl_Arrow_13 hj rfl ?_
  refine pw_imul d_Arrow_setCross_18 ?_
  refine pw_isub d_Arrow_setCross_19 ?_
  refine pw_aload_n d_Arrow_setCross_20 rfl rfl ?_
  refine pw_get d_Arrow_setCross_21 fl_Arrow_16 hi rfl ?_
  refine pw_aload_n d_Arrow_setCross_24 rfl rfl ?_
  refine pw_get d_Arrow_setCross_25 fl_Arrow_7 hj rfl ?_
  refine pw_imul d_Arrow_setCross_28 ?_
  refine pw_aload_n d_Arrow_setCross_29 rfl rfl ?_
  refine pw_get d_Arrow_setCross_30 fl_Arrow_7 hi rfl ?_
  refine pw_aload_n d_Arrow_setCross_33 rfl rfl ?_
  refine pw_get d_Arrow_setCross_34 fl_Arrow_16 hj rfl ?_
  refine pw_imul d_Arrow_setCross_37 ?_
  refine pw_isub d_Arrow_setCross_38 ?_
  refine pw_aload_n d_Arrow_setCross_39 rfl rfl ?_
  refine pw_get d_Arrow_setCross_40 fl_Arrow_7 hi rfl ?_
  refine pw_aload_n d_Arrow_setCross_43 rfl rfl ?_
  refine pw_get d_Arrow_setCross_44 fl_Arrow_13 hj rfl ?_
  refine pw_imul d_Arrow_setCross_47 ?_
  refine pw_aload_n d_Arrow_setCross_48 rfl rfl ?_
  refine pw_get d_Arrow_setCross_49 fl_Arrow_13 hi rfl ?_
  refine pw_aload_n d_Arrow_setCross_52 rfl rfl ?_
  refine pw_get d_Arrow_setCross_53 fl_Arrow_7 hj rfl ?_
  refine pw_imul d_Arrow_setCross_56 ?_
  refine pw_isub d_Arrow_setCross_57 ?_
  obtain ⟨h_1, eh_1⟩ : ∃ x_9, x_9 = List.set h (k) (.inr (0, [.int (((b2 * c3) - (b3 * c2))), .int (((b3 * c1) - (b1 * c3))), .int (((b1 * c2) - (b2 * c1)))])) := ⟨_, rfl⟩
  refine pw_callV0 (R' := (zroom 0 0 0)) (h2 := h_1) [.int (((b2 * c3) - (b3 * c2))), .int (((b3 * c1) - (b1 * c3))), .int (((b1 * c2) - (b2 * c1)))] (fun q => nomatch q) d_Arrow_setCross_58 lk_Arrow_19 hk rfl rfl rfl (c_Arrow_set hk eh_1) ?_
  refine pw_return d_Arrow_setCross_61 rfl (by decide) (by decide) ?_
  exact ⟨rfl, by rw [eh_1]⟩
set_option maxRecDepth 20000 in
set_option maxHeartbeats 2000000 in
theorem c_Arrow_setSlide {G : zG} {h : zH} {k i j : Nat} {a1 a2 a3 : Int32} {b1 b2 b3 : Int32} {c1 c2 c3 : Int32} (hk : h[k]? = some (.inr (0, [.int a1, .int a2, .int a3]))) (hi : h[i]? = some (.inr (0, [.int b1, .int b2, .int b3]))) (hj : h[j]? = some (.inr (0, [.int c1, .int c2, .int c3]))) {h2 : zH} (e2 : h2 = h.set k (.inr (0, [.int (b1 * (c1 * c1 + c2 * c2 + c3 * c3) - c1 * (b1 * c1 + b2 * c2 + b3 * c3)), .int (b2 * (c1 * c1 + c2 * c2 + c3 * c3) - c2 * (b1 * c1 + b2 * c2 + b3 * c3)), .int (b3 * (c1 * c1 + c2 * c2 + c3 * c3) - c3 * (b1 * c1 + b2 * c2 + b3 * c3))]))) : PW G M_Arrow_setSlide (zroom 1 0 0) false (zr none h2) 0 (zentry 5 [.ref k, .ref i, .ref j]) [] h 0 0 := by
  subst e2
  show PW G M_Arrow_setSlide (zroom 1 0 0) false _ 0 [some (.ref k), some (.ref i), some (.ref j), none, none] [] h 0 0
  refine pw_aload_n d_Arrow_setSlide_0 rfl rfl ?_
  refine pw_aload_n d_Arrow_setSlide_1 rfl rfl ?_
  refine pw_callV1 (R' := (zroom 0 0 0)) (h2 := h) [.ref j] (fun q => nomatch q) d_Arrow_setSlide_2 lk_Arrow_23 hj rfl rfl rfl (c_Arrow_times hj hj) ?_
  refine pw_istore_n d_Arrow_setSlide_5 rfl (by decide) (pl' := [some (.ref k), some (.ref i), some (.ref j), some (.int ((c1 * c1 + c2 * c2 + c3 * c3))), none]) rfl ?_
  refine pw_aload_n d_Arrow_setSlide_6 rfl rfl ?_
  refine pw_aload_n d_Arrow_setSlide_7 rfl rfl ?_
  refine pw_callV1 (R' := (zroom 0 0 0)) (h2 := h) [.ref j] (fun q => nomatch q) d_Arrow_setSlide_8 lk_Arrow_23 hi rfl rfl rfl (c_Arrow_times hi hj) ?_
  refine pw_istore d_Arrow_setSlide_11 (by decide) (pl' := [some (.ref k), some (.ref i), some (.ref j), some (.int ((c1 * c1 + c2 * c2 + c3 * c3))), some (.int ((b1 * c1 + b2 * c2 + b3 * c3)))]) rfl ?_
  refine pw_aload_n d_Arrow_setSlide_13 rfl rfl ?_
  refine pw_aload_n d_Arrow_setSlide_14 rfl rfl ?_
  refine pw_get d_Arrow_setSlide_15 fl_Arrow_7 hi rfl ?_
  refine pw_iload_n d_Arrow_setSlide_18 rfl rfl ?_
  refine pw_imul d_Arrow_setSlide_19 ?_
  refine pw_aload_n d_Arrow_setSlide_20 rfl rfl ?_
  refine pw_get d_Arrow_setSlide_21 fl_Arrow_7 hj rfl ?_
  refine pw_iload d_Arrow_setSlide_24 rfl ?_
  refine pw_imul d_Arrow_setSlide_26 ?_
  refine pw_isub d_Arrow_setSlide_27 ?_
  refine pw_aload_n d_Arrow_setSlide_28 rfl rfl ?_
  refine pw_get d_Arrow_setSlide_29 fl_Arrow_13 hi rfl ?_
  refine pw_iload_n d_Arrow_setSlide_32 rfl rfl ?_
  refine pw_imul d_Arrow_setSlide_33 ?_
  refine pw_aload_n d_Arrow_setSlide_34 rfl rfl ?_
  refine pw_get d_Arrow_setSlide_35 fl_Arrow_13 hj rfl ?_
  refine pw_iload d_Arrow_setSlide_38 rfl ?_
  refine pw_imul d_Arrow_setSlide_40 ?_
  refine pw_isub d_Arrow_setSlide_41 ?_
  refine pw_aload_n d_Arrow_setSlide_42 rfl rfl ?_
  refine pw_get d_Arrow_setSlide_43 fl_Arrow_16 hi rfl ?_
  refine pw_iload_n d_Arrow_setSlide_46 rfl rfl ?_
  refine pw_imul d_Arrow_setSlide_47 ?_
  refine pw_aload_n d_Arrow_setSlide_48 rfl rfl ?_
  refine pw_get d_Arrow_setSlide_49 fl_Arrow_16 hj rfl ?_
  refine pw_iload d_Arrow_setSlide_52 rfl ?_
  refine pw_imul d_Arrow_setSlide_54 ?_
  refine pw_isub d_Arrow_setSlide_55 ?_
  obtain ⟨h_1, eh_1⟩ : ∃ x_9, x_9 = List.set h (k) (.inr (0, [.int (((b1 * (c1 * c1 + c2 * c2 + c3 * c3)) - (c1 * (b1 * c1 + b2 * c2 + b3 * c3)))), .int (((b2 * (c1 * c1 + c2 * c2 + c3 * c3)) - (c2 * (b1 * c1 + b2 * c2 + b3 * c3)))), .int (((b3 * (c1 * c1 + c2 * c2 + c3 * c3)) - (c3 * (b1 * c1 + b2 * c2 + b3 * c3))))])) := ⟨_, rfl⟩
  refine pw_callV0 (R' := (zroom 0 0 0)) (h2 := h_1) [.int (((b1 * (c1 * c1 + c2 * c2 + c3 * c3)) - (c1 * (b1 * c1 + b2 * c2 + b3 * c3)))), .int (((b2 * (c1 * c1 + c2 * c2 + c3 * c3)) - (c2 * (b1 * c1 + b2 * c2 + b3 * c3)))), .int (((b3 * (c1 * c1 + c2 * c2 + c3 * c3)) - (c3 * (b1 * c1 + b2 * c2 + b3 * c3))))] (fun q => nomatch q) d_Arrow_setSlide_56 lk_Arrow_19 hk rfl rfl rfl (c_Arrow_set hk eh_1) ?_
  refine pw_return d_Arrow_setSlide_59 rfl (by decide) (by decide) ?_
  exact ⟨rfl, by rw [eh_1]⟩
set_option maxRecDepth 20000 in
set_option maxHeartbeats 2000000 in
theorem c_Arrow_isZero {G : zG} {h : zH} {k : Nat} {a1 a2 a3 : Int32} (hk : h[k]? = some (.inr (0, [.int a1, .int a2, .int a3]))) : PW G M_Arrow_isZero (zroom 0 0 0) true (zr (some (.int (if a1 = 0 ∧ a2 = 0 ∧ a3 = 0 then 1 else 0))) h) 0 (zentry 1 [.ref k]) [] h 0 0 := by
  show PW G M_Arrow_isZero (zroom 0 0 0) true _ 0 [some (.ref k)] [] h 0 0
  refine pw_aload_n d_Arrow_isZero_0 rfl rfl ?_
  refine pw_get d_Arrow_isZero_1 fl_Arrow_7 hk rfl ?_
  refine pw_if_ne 25 d_Arrow_isZero_4 (by decide) (fun q_1 => ?_) (fun q_1 => ?_)
  · refine pw_iconst (x := 0) d_Arrow_isZero_25 (by decide) ?_
    refine pw_zreturn d_Arrow_isZero_26 rfl (by decide) (by decide) (by decide) ?_
    exact ⟨by simp_all, rfl⟩
  · refine pw_aload_n d_Arrow_isZero_7 rfl rfl ?_
    refine pw_get d_Arrow_isZero_8 fl_Arrow_13 hk rfl ?_
    refine pw_if_ne 25 d_Arrow_isZero_11 (by decide) (fun q_2 => ?_) (fun q_2 => ?_)
    · refine pw_iconst (x := 0) d_Arrow_isZero_25 (by decide) ?_
      refine pw_zreturn d_Arrow_isZero_26 rfl (by decide) (by decide) (by decide) ?_
      exact ⟨by simp_all, rfl⟩
    · refine pw_aload_n d_Arrow_isZero_14 rfl rfl ?_
      refine pw_get d_Arrow_isZero_15 fl_Arrow_16 hk rfl ?_
      refine pw_if_ne 25 d_Arrow_isZero_18 (by decide) (fun q_3 => ?_) (fun q_3 => ?_)
      · refine pw_iconst (x := 0) d_Arrow_isZero_25 (by decide) ?_
        refine pw_zreturn d_Arrow_isZero_26 rfl (by decide) (by decide) (by decide) ?_
        exact ⟨by simp_all, rfl⟩
      · refine pw_iconst (x := 1) d_Arrow_isZero_21 (by decide) ?_
        refine pw_goto 26 d_Arrow_isZero_22 (by decide) ?_
        refine pw_zreturn d_Arrow_isZero_26 rfl (by decide) (by decide) (by decide) ?_
        exact ⟨by simp_all, rfl⟩
