set_option maxRecDepth 20000 in
set_option maxHeartbeats 2000000 in
theorem c_Points_init {G : zG} {h : zH} (hl : h.length = 37) (hk : h[36]? = some (.inr (3, [.null, .null, .null, .null, .null, .null, .int 0]))) : PW G M_Points_init (zroom 1 6 1320) false (fun r h' => r = .inl none ∧ zlow 36 h h' ∧ h'.length = 43 ∧ zPt h' 0 (fun _ => 0) (fun _ => 0) (fun _ => 0) (fun _ => 0) (fun _ => 0) (fun _ => 0)) 0 (zentry 1 [.ref 36]) [] h 0 0 := by
  show PW G M_Points_init (zroom 1 6 1320) false _ 0 [some (.ref 36)] [] h 0 0
  refine pw_aload_n d_Points_init_0 rfl rfl ?_
  refine pw_objInit d_Points_init_1 lk_Points_1 (by decide) (by decide) ?_
  refine pw_aload_n d_Points_init_4 rfl rfl ?_
  refine pw_sipush (x := 220) d_Points_init_5 (by decide) ?_
  obtain ⟨h_1, eph_1⟩ : ∃ x_9, x_9 = h ++ [(.inl (0, 220, .inl (fun _ => 0)) : zE)] := ⟨_, rfl⟩
  refine pw_newi (N := 220) rfl d_Points_init_8 (by decide) (by decide) (by decide) (by decide) (by decide) hl eph_1 ?_
  obtain ⟨h_2, eh_2⟩ : ∃ x_9, x_9 = List.set h_1 (36) (.inr (3, [.ref 37, .null, .null, .null, .null, .null, .int (0)])) := ⟨_, rfl⟩
  refine pw_put rfl d_Points_init_10 (fp_Points_9 _) (zp_ne eph_1 hk) (Nat.le_of_ble_eq_true rfl) (fun _ => ⟨rfl, rfl⟩) eh_2.symm ?_
  refine pw_aload_n d_Points_init_13 rfl rfl ?_
  refine pw_sipush (x := 220) d_Points_init_14 (by decide) ?_
  obtain ⟨h_3, eph_3⟩ : ∃ x_9, x_9 = h_2 ++ [(.inl (0, 220, .inl (fun _ => 0)) : zE)] := ⟨_, rfl⟩
  refine pw_newi (N := 220) rfl d_Points_init_17 (by decide) (by decide) (by decide) (by decide) (by decide) (zs_ln eh_2 (zp_ln eph_1 hl)) eph_3 ?_
  obtain ⟨h_4, eh_4⟩ : ∃ x_9, x_9 = List.set h_3 (36) (.inr (3, [.ref 37, .ref 38, .null, .null, .null, .null, .int (0)])) := ⟨_, rfl⟩
  refine pw_put rfl d_Points_init_19 (fp_Points_13 _) (zp_ne eph_3 (zg_eq eh_2 (zp_ne eph_1 hk))) (Nat.le_of_ble_eq_true rfl) (fun _ => ⟨rfl, rfl⟩) eh_4.symm ?_
  refine pw_aload_n d_Points_init_22 rfl rfl ?_
  refine pw_sipush (x := 220) d_Points_init_23 (by decide) ?_
  obtain ⟨h_5, eph_5⟩ : ∃ x_9, x_9 = h_4 ++ [(.inl (0, 220, .inl (fun _ => 0)) : zE)] := ⟨_, rfl⟩
  refine pw_newi (N := 220) rfl d_Points_init_26 (by decide) (by decide) (by decide) (by decide) (by decide) (zs_ln eh_4 (zp_ln eph_3 (zs_ln eh_2 (zp_ln eph_1 hl)))) eph_5 ?_
  obtain ⟨h_6, eh_6⟩ : ∃ x_9, x_9 = List.set h_5 (36) (.inr (3, [.ref 37, .ref 38, .ref 39, .null, .null, .null, .int (0)])) := ⟨_, rfl⟩
  refine pw_put rfl d_Points_init_28 (fp_Points_16 _) (zp_ne eph_5 (zg_eq eh_4 (zp_ne eph_3 (zg_eq eh_2 (zp_ne eph_1 hk))))) (Nat.le_of_ble_eq_true rfl) (fun _ => ⟨rfl, rfl⟩) eh_6.symm ?_
  refine pw_aload_n d_Points_init_31 rfl rfl ?_
  refine pw_sipush (x := 220) d_Points_init_32 (by decide) ?_
  obtain ⟨h_7, eph_7⟩ : ∃ x_9, x_9 = h_6 ++ [(.inl (0, 220, .inl (fun _ => 0)) : zE)] := ⟨_, rfl⟩
  refine pw_newi (N := 220) rfl d_Points_init_35 (by decide) (by decide) (by decide) (by decide) (by decide) (zs_ln eh_6 (zp_ln eph_5 (zs_ln eh_4 (zp_ln eph_3 (zs_ln eh_2 (zp_ln eph_1 hl)))))) eph_7 ?_
  obtain ⟨h_8, eh_8⟩ : ∃ x_9, x_9 = List.set h_7 (36) (.inr (3, [.ref 37, .ref 38, .ref 39, .ref 40, .null, .null, .int (0)])) := ⟨_, rfl⟩
  refine pw_put rfl d_Points_init_37 (fp_Points_19 _) (zp_ne eph_7 (zg_eq eh_6 (zp_ne eph_5 (zg_eq eh_4 (zp_ne eph_3 (zg_eq eh_2 (zp_ne eph_1 hk))))))) (Nat.le_of_ble_eq_true rfl) (fun _ => ⟨rfl, rfl⟩) eh_8.symm ?_
  refine pw_aload_n d_Points_init_40 rfl rfl ?_
  refine pw_sipush (x := 220) d_Points_init_41 (by decide) ?_
  obtain ⟨h_9, eph_9⟩ : ∃ x_9, x_9 = h_8 ++ [(.inl (0, 220, .inl (fun _ => 0)) : zE)] := ⟨_, rfl⟩
  refine pw_newi (N := 220) rfl d_Points_init_44 (by decide) (by decide) (by decide) (by decide) (by decide) (zs_ln eh_8 (zp_ln eph_7 (zs_ln eh_6 (zp_ln eph_5 (zs_ln eh_4 (zp_ln eph_3 (zs_ln eh_2 (zp_ln eph_1 hl)))))))) eph_9 ?_
  obtain ⟨h_10, eh_10⟩ : ∃ x_9, x_9 = List.set h_9 (36) (.inr (3, [.ref 37, .ref 38, .ref 39, .ref 40, .ref 41, .null, .int (0)])) := ⟨_, rfl⟩
  refine pw_put rfl d_Points_init_46 (fp_Points_22 _) (zp_ne eph_9 (zg_eq eh_8 (zp_ne eph_7 (zg_eq eh_6 (zp_ne eph_5 (zg_eq eh_4 (zp_ne eph_3 (zg_eq eh_2 (zp_ne eph_1 hk))))))))) (Nat.le_of_ble_eq_true rfl) (fun _ => ⟨rfl, rfl⟩) eh_10.symm ?_
  refine pw_aload_n d_Points_init_49 rfl rfl ?_
  refine pw_sipush (x := 220) d_Points_init_50 (by decide) ?_
  obtain ⟨h_11, eph_11⟩ : ∃ x_9, x_9 = h_10 ++ [(.inl (0, 220, .inl (fun _ => 0)) : zE)] := ⟨_, rfl⟩
  refine pw_newi (N := 220) rfl d_Points_init_53 (by decide) (by decide) (by decide) (by decide) (by decide) (zs_ln eh_10 (zp_ln eph_9 (zs_ln eh_8 (zp_ln eph_7 (zs_ln eh_6 (zp_ln eph_5 (zs_ln eh_4 (zp_ln eph_3 (zs_ln eh_2 (zp_ln eph_1 hl)))))))))) eph_11 ?_
  obtain ⟨h_12, eh_12⟩ : ∃ x_9, x_9 = List.set h_11 (36) (.inr (3, [.ref 37, .ref 38, .ref 39, .ref 40, .ref 41, .ref 42, .int (0)])) := ⟨_, rfl⟩
  refine pw_put rfl d_Points_init_55 (fp_Points_25 _) (zp_ne eph_11 (zg_eq eh_10 (zp_ne eph_9 (zg_eq eh_8 (zp_ne eph_7 (zg_eq eh_6 (zp_ne eph_5 (zg_eq eh_4 (zp_ne eph_3 (zg_eq eh_2 (zp_ne eph_1 hk))))))))))) (Nat.le_of_ble_eq_true rfl) (fun _ => ⟨rfl, rfl⟩) eh_12.symm ?_
  refine pw_aload_n d_Points_init_58 rfl rfl ?_
  refine pw_iconst (x := 0) d_Points_init_59 (by decide) ?_
  obtain ⟨h_13, eh_13⟩ : ∃ x_9, x_9 = List.set h_12 (36) (.inr (3, [.ref 37, .ref 38, .ref 39, .ref 40, .ref 41, .ref 42, .int (0)])) := ⟨_, rfl⟩
  refine pw_put rfl d_Points_init_60 (fp_Points_28 _ _) (zg_eq eh_12 (zp_ne eph_11 (zg_eq eh_10 (zp_ne eph_9 (zg_eq eh_8 (zp_ne eph_7 (zg_eq eh_6 (zp_ne eph_5 (zg_eq eh_4 (zp_ne eph_3 (zg_eq eh_2 (zp_ne eph_1 hk)))))))))))) (Nat.le_of_ble_eq_true rfl) (fun _ => ⟨rfl, rfl⟩) eh_13.symm ?_
  refine pw_return d_Points_init_63 rfl (by decide) (by decide) ?_
  exact ⟨rfl, (zlow_s (zlow_s (zlow_p (zlow_s (zlow_p (zlow_s (zlow_p (zlow_s (zlow_p (zlow_s (zlow_p (zlow_s (zlow_p zlow_rf eph_1 hl (by omega)) eh_2 (by omega)) eph_3 (zs_ln eh_2 (zp_ln eph_1 hl)) (by omega)) eh_4 (by omega)) eph_5 (zs_ln eh_4 (zp_ln eph_3 (zs_ln eh_2 (zp_ln eph_1 hl)))) (by omega)) eh_6 (by omega)) eph_7 (zs_ln eh_6 (zp_ln eph_5 (zs_ln eh_4 (zp_ln eph_3 (zs_ln eh_2 (zp_ln eph_1 hl)))))) (by omega)) eh_8 (by omega)) eph_9 (zs_ln eh_8 (zp_ln eph_7 (zs_ln eh_6 (zp_ln eph_5 (zs_ln eh_4 (zp_ln eph_3 (zs_ln eh_2 (zp_ln eph_1 hl)))))))) (by omega)) eh_10 (by omega)) eph_11 (zs_ln eh_10 (zp_ln eph_9 (zs_ln eh_8 (zp_ln eph_7 (zs_ln eh_6 (zp_ln eph_5 (zs_ln eh_4 (zp_ln eph_3 (zs_ln eh_2 (zp_ln eph_1 hl)))))))))) (by omega)) eh_12 (by omega)) eh_13 (by omega)), (zs_ln eh_13 (zs_ln eh_12 (zp_ln eph_11 (zs_ln eh_10 (zp_ln eph_9 (zs_ln eh_8 (zp_ln eph_7 (zs_ln eh_6 (zp_ln eph_5 (zs_ln eh_4 (zp_ln eph_3 (zs_ln eh_2 (zp_ln eph_1 hl))))))))))))), ⟨(zg_eq eh_13 (zg_eq eh_12 (zp_ne eph_11 (zg_eq eh_10 (zp_ne eph_9 (zg_eq eh_8 (zp_ne eph_7 (zg_eq eh_6 (zp_ne eph_5 (zg_eq eh_4 (zp_ne eph_3 (zg_eq eh_2 (zp_ne eph_1 hk))))))))))))), (zg_ne eh_13 (by decide) (zg_ne eh_12 (by decide) (zp_ne eph_11 (zg_ne eh_10 (by decide) (zp_ne eph_9 (zg_ne eh_8 (by decide) (zp_ne eph_7 (zg_ne eh_6 (by decide) (zp_ne eph_5 (zg_ne eh_4 (by decide) (zp_ne eph_3 (zg_ne eh_2 (by decide) (zp_eq eph_1 hl))))))))))))), (zg_ne eh_13 (by decide) (zg_ne eh_12 (by decide) (zp_ne eph_11 (zg_ne eh_10 (by decide) (zp_ne eph_9 (zg_ne eh_8 (by decide) (zp_ne eph_7 (zg_ne eh_6 (by decide) (zp_ne eph_5 (zg_ne eh_4 (by decide) (zp_eq eph_3 (zs_ln eh_2 (zp_ln eph_1 hl))))))))))))), (zg_ne eh_13 (by decide) (zg_ne eh_12 (by decide) (zp_ne eph_11 (zg_ne eh_10 (by decide) (zp_ne eph_9 (zg_ne eh_8 (by decide) (zp_ne eph_7 (zg_ne eh_6 (by decide) (zp_eq eph_5 (zs_ln eh_4 (zp_ln eph_3 (zs_ln eh_2 (zp_ln eph_1 hl))))))))))))), (zg_ne eh_13 (by decide) (zg_ne eh_12 (by decide) (zp_ne eph_11 (zg_ne eh_10 (by decide) (zp_ne eph_9 (zg_ne eh_8 (by decide) (zp_eq eph_7 (zs_ln eh_6 (zp_ln eph_5 (zs_ln eh_4 (zp_ln eph_3 (zs_ln eh_2 (zp_ln eph_1 hl))))))))))))), (zg_ne eh_13 (by decide) (zg_ne eh_12 (by decide) (zp_ne eph_11 (zg_ne eh_10 (by decide) (zp_eq eph_9 (zs_ln eh_8 (zp_ln eph_7 (zs_ln eh_6 (zp_ln eph_5 (zs_ln eh_4 (zp_ln eph_3 (zs_ln eh_2 (zp_ln eph_1 hl))))))))))))), (zg_ne eh_13 (by decide) (zg_ne eh_12 (by decide) (zp_eq eph_11 (zs_ln eh_10 (zp_ln eph_9 (zs_ln eh_8 (zp_ln eph_7 (zs_ln eh_6 (zp_ln eph_5 (zs_ln eh_4 (zp_ln eph_3 (zs_ln eh_2 (zp_ln eph_1 hl)))))))))))))⟩⟩
set_option maxRecDepth 20000 in
set_option maxHeartbeats 2000000 in
theorem c_Plane_init {G : zG} {h : zH} {n : Nat} (hl : h.length = n + 1) (hk : h[n]? = some (.inr (2, [.null, .int 0]))) : PW G M_Plane_init (zroom 2 1 3) false (fun r h' => r = .inl none ∧ zlow n h h' ∧ h'.length = n + 1 + 1 ∧ h'[n]? = some (.inr (2, [.ref (n + 1), .int 0])) ∧ zAr h' (n + 1) 0 0 0) 0 (zentry 1 [.ref n]) [] h 0 0 := by
  show PW G M_Plane_init (zroom 2 1 3) false _ 0 [some (.ref n)] [] h 0 0
  refine pw_aload_n d_Plane_init_0 rfl rfl ?_
  refine pw_objInit d_Plane_init_1 lk_Plane_1 (by decide) (by decide) ?_
  refine pw_aload_n d_Plane_init_4 rfl rfl ?_
  obtain ⟨h_1, eph_1⟩ : ∃ x_9, x_9 = h ++ [(.inr (0, [.int (0), .int (0), .int (0)]) : zE)] := ⟨_, rfl⟩
  refine pw_arrow (n := (n + 1)) rfl d_Plane_init_5 d_Plane_init_8 d_Plane_init_9 nw_Plane_7 lk_Plane_9 (by decide) (by decide) (by decide) (by decide) (Nat.le_of_ble_eq_true rfl) hl eph_1 ?_
  obtain ⟨h_2, eh_2⟩ : ∃ x_9, x_9 = List.set h_1 (n) (.inr (2, [.ref ((n + 1)), .int (0)])) := ⟨_, rfl⟩
  refine pw_put rfl d_Plane_init_12 (fp_Plane_10 _) (zp_ne eph_1 hk) (Nat.le_of_ble_eq_true rfl) (fun _ => ⟨rfl, rfl⟩) eh_2.symm ?_
  refine pw_aload_n d_Plane_init_15 rfl rfl ?_
  refine pw_iconst (x := 0) d_Plane_init_16 (by decide) ?_
  obtain ⟨h_3, eh_3⟩ : ∃ x_9, x_9 = List.set h_2 (n) (.inr (2, [.ref ((n + 1)), .int (0)])) := ⟨_, rfl⟩
  refine pw_put rfl d_Plane_init_17 (fp_Plane_16 _ _) (zg_eq eh_2 (zp_ne eph_1 hk)) (Nat.le_of_ble_eq_true rfl) (fun _ => ⟨rfl, rfl⟩) eh_3.symm ?_
  refine pw_return d_Plane_init_20 rfl (by decide) (by decide) ?_
  exact ⟨rfl, (zlow_s (zlow_s (zlow_p zlow_rf eph_1 hl (by omega)) eh_2 (by omega)) eh_3 (by omega)), (zs_ln eh_3 (zs_ln eh_2 (zp_ln eph_1 hl))), (zg_eq eh_3 (zg_eq eh_2 (zp_ne eph_1 hk))), (zg_ne eh_3 (by omega) (zg_ne eh_2 (by omega) (zp_eq eph_1 hl)))⟩
set_option maxRecDepth 20000 in
set_option maxHeartbeats 2000000 in
theorem l_hini {G : zG} {h0 : zH} : ∀ (n i : Nat) (h : zH), 12 - i < n → i ≤ 12 → h.length = 5 + 2 * i → h[1]? = some (.inr (1, [.ref 2, .ref 3, .ref 4, .int (0)])) → h[2]? = some (.inl (3, 12, .inr (.inr (.inr (.inr (zUp 5 i)))))) → h[3]? = some (.inl (3, 12, .inr (.inr (.inr (.inr (zUp 6 i)))))) → zAr h 4 0 0 0 → (∀ j, j < i → zAr h (5 + 2 * j) 0 0 0) → (∀ j, j < i → zAr h (6 + 2 * j) 0 0 0) → zlow 1 h0 h → PW G M_Hold_init (zroom 2 27 99) false (fun r h' => r = .inl none ∧ zlow 1 h0 h' ∧ h'.length = 29 ∧ zHo h' 0 (fun _ => 0) (fun _ => 0) (fun _ => 0) (fun _ => 0) (fun _ => 0) (fun _ => 0) 0 0 0) 40 [some (.ref 1), some (.int (nI i))] [] h (3 + 2 * i) (27 + 6 * i) := by
  intro n
  induction n with
  | zero => intro i h hn; exact absurd hn (Nat.not_lt_zero _)
  | succ n ih =>
    intro i h hn hi12 hl h1 h2 h3 h4 h5 h6 hz
    refine pw_iload_n d_Hold_init_40 rfl rfl ?_
    refine pw_bipush (x := 12) d_Hold_init_41 (by decide) ?_
    refine pw_icmp_ge 78 d_Hold_init_43 (by decide) (fun q_i => ?_) (fun q_i => ?_)
    · refine pw_return d_Hold_init_78 rfl (by simp only [zroom]; omega) (by simp only [zroom]; omega) ?_
      have hi : i = 12 := by have := (nI_leI (a := 12) (b := i) (by decide) (by omega)).mp q_i; omega
      subst hi
      exact ⟨rfl, hz, hl, h1, h2, h3, h4, h5, h6⟩
    · have hi : i < 12 := by have := mt (nI_leI (a := 12) (b := i) (by decide) (by omega)).mpr q_i; omega
      refine pw_aload_n d_Hold_init_46 rfl rfl ?_
      refine pw_get d_Hold_init_47 fl_Hold_11 h1 rfl ?_
      refine pw_iload_n d_Hold_init_50 rfl rfl ?_
      obtain ⟨h_1, eph_1⟩ : ∃ x_9, x_9 = h ++ [(.inr (0, [.int (0), .int (0), .int (0)]) : zE)] := ⟨_, rfl⟩
      refine pw_arrow (n := (5 + 2 * i)) rfl d_Hold_init_51 d_Hold_init_54 d_Hold_init_55 nw_Hold_9 lk_Hold_20 (by decide) (by decide) (by simp only [zroom]; omega) (by simp only [zroom]; omega) (Nat.le_of_ble_eq_true rfl) hl eph_1 ?_
      obtain ⟨h_2, eh_2⟩ : ∃ x_9, x_9 = List.set h_1 (2) (.inl (3, 12, .inr (.inr (.inr (.inr (zUp 5 (i + 1))))))) := ⟨_, rfl⟩
      refine pw_aast (h2 := h_2) rfl d_Hold_init_58 (zp_ne eph_1 h2) (zp_eq eph_1 hl) rfl rfl rfl (by omega) (by decide) (by rw [zUp_s rfl]; exact eh_2.symm) ?_
      refine pw_aload_n d_Hold_init_59 rfl rfl ?_
      refine pw_get d_Hold_init_60 fl_Hold_17 (zg_ne eh_2 (by decide) (zp_ne eph_1 h1)) rfl ?_
      refine pw_iload_n d_Hold_init_63 rfl rfl ?_
      obtain ⟨h_3, eph_3⟩ : ∃ x_9, x_9 = h_2 ++ [(.inr (0, [.int (0), .int (0), .int (0)]) : zE)] := ⟨_, rfl⟩
      refine pw_arrow (n := (6 + 2 * i)) rfl d_Hold_init_64 d_Hold_init_67 d_Hold_init_68 nw_Hold_9 lk_Hold_20 (by decide) (by decide) (by simp only [zroom]; omega) (by simp only [zroom]; omega) (Nat.le_of_ble_eq_true rfl) ((zs_ln eh_2 (zp_ln eph_1 hl)).trans (by omega)) eph_3 ?_
      obtain ⟨h_4, eh_4⟩ : ∃ x_9, x_9 = List.set h_3 (3) (.inl (3, 12, .inr (.inr (.inr (.inr (zUp 6 (i + 1))))))) := ⟨_, rfl⟩
      refine pw_aast (h2 := h_4) rfl d_Hold_init_71 (zp_ne eph_3 (zg_ne eh_2 (by decide) (zp_ne eph_1 h3))) (zp_eq eph_3 ((zs_ln eh_2 (zp_ln eph_1 hl)).trans (by omega))) rfl rfl rfl (by omega) (by decide) (by rw [zUp_s rfl]; exact eh_4.symm) ?_
      refine pw_iinc (y := nI (i + 1)) d_Hold_init_72 rfl (nI_1 i) (by decide) (pl' := [some (.ref 1), some (.int (nI (i + 1)))]) rfl ?_
      refine pw_goto 40 d_Hold_init_75 (by decide) ?_
      refine pw_widen (nc' := 3 + 2 * (i + 1)) (ns' := 27 + 6 * (i + 1)) (by omega) (by omega) (ih (i + 1) h_4 (by omega) (by omega) ((zs_ln eh_4 (zp_ln eph_3 (zs_ln eh_2 (zp_ln eph_1 hl)))).trans (by omega)) (zg_ne eh_4 (by decide) (zp_ne eph_3 (zg_ne eh_2 (by decide) (zp_ne eph_1 h1)))) (zg_ne eh_4 (by decide) (zp_ne eph_3 (zg_eq eh_2 (zp_ne eph_1 h2)))) (zg_eq eh_4 (zp_ne eph_3 (zg_ne eh_2 (by decide) (zp_ne eph_1 h3)))) (zg_ne eh_4 (by decide) (zp_ne eph_3 (zg_ne eh_2 (by decide) (zp_ne eph_1 h4)))) (fun j hj => ?_) (fun j hj => ?_) (zlow_tr hz (zlow_s (zlow_p (zlow_s (zlow_p zlow_rf eph_1 hl (by omega)) eh_2 (by omega)) eph_3 (zs_ln eh_2 (zp_ln eph_1 hl)) (by omega)) eh_4 (by omega))))
      · rcases Nat.lt_succ_iff_lt_or_eq.mp hj with q | rfl
        · exact zg_ne eh_4 (by omega) (zp_ne eph_3 (zg_ne eh_2 (by omega) (zp_ne eph_1 (h5 j q))))
        · exact zg_ne eh_4 (by omega) (zp_ne eph_3 (zg_ne eh_2 (by omega) (zp_eq eph_1 hl)))
      · rcases Nat.lt_succ_iff_lt_or_eq.mp hj with q | rfl
        · exact zg_ne eh_4 (by omega) (zp_ne eph_3 (zg_ne eh_2 (by omega) (zp_ne eph_1 (h6 j q))))
        · exact zg_ne eh_4 (by omega) (zp_eq eph_3 ((zs_ln eh_2 (zp_ln eph_1 hl)).trans (by omega)))
set_option maxRecDepth 20000 in
set_option maxHeartbeats 2000000 in
theorem c_Hold_init {G : zG} {h : zH} (hl : h.length = 2) (hk : h[1]? = some (.inr (1, [.null, .null, .null, .int 0]))) : PW G M_Hold_init (zroom 2 27 99) false (fun r h' => r = .inl none ∧ zlow 1 h h' ∧ h'.length = 29 ∧ zHo h' 0 (fun _ => 0) (fun _ => 0) (fun _ => 0) (fun _ => 0) (fun _ => 0) (fun _ => 0) 0 0 0) 0 (zentry 2 [.ref 1]) [] h 0 0 := by
  show PW G M_Hold_init (zroom 2 27 99) false _ 0 [some (.ref 1), none] [] h 0 0
  refine pw_aload_n d_Hold_init_0 rfl rfl ?_
  refine pw_objInit d_Hold_init_1 lk_Hold_3 (by decide) (by decide) ?_
  refine pw_aload_n d_Hold_init_4 rfl rfl ?_
  refine pw_bipush (x := 12) d_Hold_init_5 (by decide) ?_
  obtain ⟨h_1, eph_1⟩ : ∃ x_9, x_9 = h ++ [(.inl (3, 12, .inr (.inr (.inr (.inr (fun _ => none))))) : zE)] := ⟨_, rfl⟩
  refine pw_anewA (N := 12) rfl d_Hold_init_7 cl_Hold_9 (by decide) (by decide) (by decide) (by decide) (by decide) hl eph_1 ?_
  obtain ⟨h_2, eh_2⟩ : ∃ x_9, x_9 = List.set h_1 (1) (.inr (1, [.ref 2, .null, .null, .int (0)])) := ⟨_, rfl⟩
  refine pw_put rfl d_Hold_init_10 (fp_Hold_11 _) (zp_ne eph_1 hk) (Nat.le_of_ble_eq_true rfl) (fun _ => ⟨rfl, rfl⟩) eh_2.symm ?_
  refine pw_aload_n d_Hold_init_13 rfl rfl ?_
  refine pw_bipush (x := 12) d_Hold_init_14 (by decide) ?_
  obtain ⟨h_3, eph_3⟩ : ∃ x_9, x_9 = h_2 ++ [(.inl (3, 12, .inr (.inr (.inr (.inr (fun _ => none))))) : zE)] := ⟨_, rfl⟩
  refine pw_anewA (N := 12) rfl d_Hold_init_16 cl_Hold_9 (by decide) (by decide) (by decide) (by decide) (by decide) (zs_ln eh_2 (zp_ln eph_1 hl)) eph_3 ?_
  obtain ⟨h_4, eh_4⟩ : ∃ x_9, x_9 = List.set h_3 (1) (.inr (1, [.ref 2, .ref 3, .null, .int (0)])) := ⟨_, rfl⟩
  refine pw_put rfl d_Hold_init_19 (fp_Hold_17 _) (zp_ne eph_3 (zg_eq eh_2 (zp_ne eph_1 hk))) (Nat.le_of_ble_eq_true rfl) (fun _ => ⟨rfl, rfl⟩) eh_4.symm ?_
  refine pw_aload_n d_Hold_init_22 rfl rfl ?_
  obtain ⟨h_5, eph_5⟩ : ∃ x_9, x_9 = h_4 ++ [(.inr (0, [.int (0), .int (0), .int (0)]) : zE)] := ⟨_, rfl⟩
  refine pw_arrow (n := 4) rfl d_Hold_init_23 d_Hold_init_26 d_Hold_init_27 nw_Hold_9 lk_Hold_20 (by decide) (by decide) (by decide) (by decide) (Nat.le_of_ble_eq_true rfl) (zs_ln eh_4 (zp_ln eph_3 (zs_ln eh_2 (zp_ln eph_1 hl)))) eph_5 ?_
  obtain ⟨h_6, eh_6⟩ : ∃ x_9, x_9 = List.set h_5 (1) (.inr (1, [.ref 2, .ref 3, .ref 4, .int (0)])) := ⟨_, rfl⟩
  refine pw_put rfl d_Hold_init_30 (fp_Hold_21 _) (zp_ne eph_5 (zg_eq eh_4 (zp_ne eph_3 (zg_eq eh_2 (zp_ne eph_1 hk))))) (Nat.le_of_ble_eq_true rfl) (fun _ => ⟨rfl, rfl⟩) eh_6.symm ?_
  refine pw_aload_n d_Hold_init_33 rfl rfl ?_
  refine pw_iconst (x := 0) d_Hold_init_34 (by decide) ?_
  obtain ⟨h_7, eh_7⟩ : ∃ x_9, x_9 = List.set h_6 (1) (.inr (1, [.ref 2, .ref 3, .ref 4, .int (0)])) := ⟨_, rfl⟩
  refine pw_put rfl d_Hold_init_35 (fp_Hold_25 _ _) (zg_eq eh_6 (zp_ne eph_5 (zg_eq eh_4 (zp_ne eph_3 (zg_eq eh_2 (zp_ne eph_1 hk)))))) (Nat.le_of_ble_eq_true rfl) (fun _ => ⟨rfl, rfl⟩) eh_7.symm ?_
  refine pw_iconst (x := 0) d_Hold_init_38 (by decide) ?_
  refine pw_istore_n d_Hold_init_39 rfl (by decide) (pl' := [some (.ref 1), some (.int (0))]) rfl ?_
  exact pw_widen (nc' := 3 + 2 * 0) (ns' := 27 + 6 * 0) (by decide) (by decide) (l_hini (h0 := h) 13 0 h_7 (by decide) (by decide) (zs_ln eh_7 (zs_ln eh_6 (zp_ln eph_5 (zs_ln eh_4 (zp_ln eph_3 (zs_ln eh_2 (zp_ln eph_1 hl))))))) (zg_eq eh_7 (zg_eq eh_6 (zp_ne eph_5 (zg_eq eh_4 (zp_ne eph_3 (zg_eq eh_2 (zp_ne eph_1 hk))))))) (by rw [← zUp_0]; exact (zg_ne eh_7 (by decide) (zg_ne eh_6 (by decide) (zp_ne eph_5 (zg_ne eh_4 (by decide) (zp_ne eph_3 (zg_ne eh_2 (by decide) (zp_eq eph_1 hl)))))))) (by rw [← zUp_0]; exact (zg_ne eh_7 (by decide) (zg_ne eh_6 (by decide) (zp_ne eph_5 (zg_ne eh_4 (by decide) (zp_eq eph_3 (zs_ln eh_2 (zp_ln eph_1 hl)))))))) (zg_ne eh_7 (by decide) (zg_ne eh_6 (by decide) (zp_eq eph_5 (zs_ln eh_4 (zp_ln eph_3 (zs_ln eh_2 (zp_ln eph_1 hl))))))) (fun j hj => absurd hj (Nat.not_lt_zero _)) (fun j hj => absurd hj (Nat.not_lt_zero _)) (zlow_s (zlow_s (zlow_p (zlow_s (zlow_p (zlow_s (zlow_p zlow_rf eph_1 hl (by omega)) eh_2 (by omega)) eph_3 (zs_ln eh_2 (zp_ln eph_1 hl)) (by omega)) eh_4 (by omega)) eph_5 (zs_ln eh_4 (zp_ln eph_3 (zs_ln eh_2 (zp_ln eph_1 hl)))) (by omega)) eh_6 (by omega)) eh_7 (by omega)))
