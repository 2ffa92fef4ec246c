set_option maxRecDepth 20000 in
set_option maxHeartbeats 2000000 in
theorem c_dropJoint {G : zG} {h : zH} {c : Nat} {x y z q a b : Nat → Int32} (hp : zPt h c x y z q a b) {j bc : Nat} {sx sy sz kn : Int32} {sd fc cc nu pb so : Nat → Int32} (hr : zRk h (j + 1) bc sx sy sz kn sd fc cc nu pb so) (hj : j < 6) {c2 : Nat} (hpb : pb j = nI c2) (hc2 : c2 ≤ 220) : PW G M_Rock_dropJoint (zroom 3 0 0) false (fun r h' => r = .inl none ∧ zPt h' c2 x y z q (zmk c2 ((1 <<< (nI j &&& 31)) ^^^ -1) a) (zmk c2 ((1 <<< (nI j &&& 31)) ^^^ -1) b) ∧ zRb h' j sx sy sz (kn &&& ((1 <<< (nI j &&& 31)) ^^^ -1)) (zbl (kn &&& ((1 <<< (nI j &&& 31)) ^^^ -1)) (zmk c2 ((1 <<< (nI j &&& 31)) ^^^ -1) a) (zmk c2 ((1 <<< (nI j &&& 31)) ^^^ -1) b) c2 (2 ^ j) (0, sd, fc, cc, nu) 64) pb so ∧ zsm [34, 36, 37, 38, 39, 40, 41, 42, 43, 44, 45, 46] h h') 0 (zentry 1 [.ref 34]) [] h 0 0 := by
  show PW G M_Rock_dropJoint (zroom 3 0 0) false _ 0 [some (.ref 34)] [] h 0 0
  refine pw_aload_n d_Rock_dropJoint_0 rfl rfl ?_
  refine pw_get d_Rock_dropJoint_1 fl_Rock_37 hr.1 rfl ?_
  refine pw_if_le 58 d_Rock_dropJoint_4 (by decide) (fun q => absurd q (nI_nle (by omega) (by omega))) (fun _ => ?_)
  refine pw_aload_n d_Rock_dropJoint_7 rfl rfl ?_
  refine pw_dup d_Rock_dropJoint_8 rfl ?_
  refine pw_get d_Rock_dropJoint_9 fl_Rock_37 hr.1 rfl ?_
  refine pw_iconst (x := 1) d_Rock_dropJoint_12 (by decide) ?_
  refine pw_isub d_Rock_dropJoint_13 ?_
  rw [nI_pred j]
  obtain ⟨h_1, eh_1⟩ : ∃ x_9, x_9 = List.set h (34) (.inr (4, [.ref 35, .ref 36, .ref 43, .ref 44, .ref 45, .ref 46, .int (nI j), .int (nI bc), .int (sx), .int (sy), .int (sz), .ref 47, .ref 48, .ref 49, .ref 50, .ref 51, .int (kn)])) := ⟨_, rfl⟩
  refine pw_put rfl d_Rock_dropJoint_14 (fp_Rock_37 _ _) hr.1 (Nat.le_of_ble_eq_true rfl) (fun _ => ⟨rfl, rfl⟩) eh_1.symm ?_
  refine pw_aload_n d_Rock_dropJoint_17 rfl rfl ?_
  refine pw_dup d_Rock_dropJoint_18 rfl ?_
  refine pw_get d_Rock_dropJoint_19 fl_Rock_63 (zg_eq eh_1 hr.1) rfl ?_
  refine pw_iconst (x := 1) d_Rock_dropJoint_22 (by decide) ?_
  refine pw_aload_n d_Rock_dropJoint_23 rfl rfl ?_
  refine pw_get d_Rock_dropJoint_24 fl_Rock_37 (zg_eq eh_1 hr.1) rfl ?_
  refine pw_ishl d_Rock_dropJoint_27 ?_
  refine pw_iconst (x := (-1)) d_Rock_dropJoint_28 (by decide) ?_
  refine pw_ixor d_Rock_dropJoint_29 ?_
  refine pw_iand d_Rock_dropJoint_30 ?_
  obtain ⟨h_2, eh_2⟩ : ∃ x_9, x_9 = List.set h_1 (34) (.inr (4, [.ref 35, .ref 36, .ref 43, .ref 44, .ref 45, .ref 46, .int (nI j), .int (nI bc), .int (sx), .int (sy), .int (sz), .ref 47, .ref 48, .ref 49, .ref 50, .ref 51, .int ((kn &&& ((1 <<< ((nI j) &&& 31)) ^^^ (-1))))])) := ⟨_, rfl⟩
  refine pw_put rfl d_Rock_dropJoint_31 (fp_Rock_63 _ _) (zg_eq eh_1 hr.1) (Nat.le_of_ble_eq_true rfl) (fun _ => ⟨rfl, rfl⟩) eh_2.symm ?_
  refine pw_aload_n d_Rock_dropJoint_34 rfl rfl ?_
  refine pw_get d_Rock_dropJoint_35 fl_Rock_20 (zg_eq eh_2 (zg_eq eh_1 hr.1)) rfl ?_
  refine pw_aload_n d_Rock_dropJoint_38 rfl rfl ?_
  refine pw_get d_Rock_dropJoint_39 fl_Rock_37 (zg_eq eh_2 (zg_eq eh_1 hr.1)) rfl ?_
  refine pw_aload_n d_Rock_dropJoint_42 rfl rfl ?_
  refine pw_get d_Rock_dropJoint_43 fl_Rock_44 (zg_eq eh_2 (zg_eq eh_1 hr.1)) rfl ?_
  refine pw_aload_n d_Rock_dropJoint_46 rfl rfl ?_
  refine pw_get d_Rock_dropJoint_47 fl_Rock_37 (zg_eq eh_2 (zg_eq eh_1 hr.1)) rfl ?_
  refine pw_iald d_Rock_dropJoint_50 (zg_ne eh_2 (by decide) (zg_ne eh_1 (by decide) hr.2.2.2.2.2.1)) rfl rfl hj (by decide) ?_
  rw [hpb]
  have hz0 : zsm [34] h h_2 := (zsm_st (zsm_st zsm_rf eh_1 (by decide)) eh_2 (by decide))
  have hp0 := zPt_sm hz0 (fun j a1 a2 => by simp only [List.mem_singleton]; omega) hp
  have hr0 : zRk h_2 j bc sx sy sz (kn &&& ((1 <<< (nI j &&& 31)) ^^^ -1)) sd fc cc nu pb so := ⟨(zg_eq eh_2 (zg_eq eh_1 hr.1)), (zg_ne eh_2 (by decide) (zg_ne eh_1 (by decide) hr.2.1)), (zg_ne eh_2 (by decide) (zg_ne eh_1 (by decide) hr.2.2.1)), (zg_ne eh_2 (by decide) (zg_ne eh_1 (by decide) hr.2.2.2.1)), (zg_ne eh_2 (by decide) (zg_ne eh_1 (by decide) hr.2.2.2.2.1)), (zg_ne eh_2 (by decide) (zg_ne eh_1 (by decide) hr.2.2.2.2.2.1)), (zg_ne eh_2 (by decide) (zg_ne eh_1 (by decide) hr.2.2.2.2.2.2))⟩
  refine pw_callVu (R' := (zroom 0 0 0)) [.int (nI j), .int (nI c2)] (fun q => nomatch q) d_Rock_dropJoint_51 lk_Rock_103 hp0.1 rfl rfl rfl (c_dropFace hp0 hc2) (fun h1 hh => ?_)
  refine pw_aload_n d_Rock_dropJoint_54 rfl rfl ?_
  have hr1 := zRk_s2 hh.2 (fun j h1 => zPS_no h1) hr0
  refine pw_callVu (R' := (zroom 2 0 0)) [] (fun q => nomatch q) d_Rock_dropJoint_55 lk_Rock_84 hr1.1 rfl rfl rfl (c_findBlocks hh.1 hc2 hr1 (by omega)) (fun h2 hk => ?_)
  refine pw_return d_Rock_dropJoint_58 rfl (by decide) (by decide) ?_
  exact ⟨rfl, zPt_sm hk.2 (fun j => zRS_no) hh.1, hk.1, zsm_tr (zsm_tr (zsm_tr zsm_rf hz0 (by decide)) hh.2 (by decide)) hk.2 (by decide)⟩
