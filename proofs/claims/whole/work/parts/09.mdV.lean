set_option maxRecDepth 20000 in
set_option maxHeartbeats 2000000 in
theorem p_direction {G : zG} {h : zH} {th : Int32} {jn dr pn bl tn : Nat} {ms ml mo mT mp pt po pa pw bs bf tk tB tY : Nat → Int32} (hA : rAll h th jn dr pn bl tn ms ml mo mT mp pt po pa pw bs bf tk tB tY) {u v w : Int32} (hdr : dr ≤ 8) : PW G M_Md_direction (zroom 2 0 0) false (fun r h' => ∃ t : Int32, r = .inl (some (.int t)) ∧ zsm zMP h h' ∧ ((¬ (((-9 ≤ u ∧ u ≤ 9) ∧ (-9 ≤ v ∧ v ≤ 9) ∧ (-9 ≤ w ∧ w ≤ 9)) ∧ ¬ (u = 0 ∧ v = 0 ∧ w = 0)) ∧ rAll h' 1 jn dr pn bl tn ms ml mo mT mp pt po pa pw bs bf tk tB tY) ∨ ((((-9 ≤ u ∧ u ≤ 9) ∧ (-9 ≤ v ∧ v ≤ 9) ∧ (-9 ≤ w ∧ w ≤ 9)) ∧ ¬ (u = 0 ∧ v = 0 ∧ w = 0)) ∧ dr = 8 ∧ rAll h' 2 jn dr pn bl tn ms ml mo mT mp pt po pa pw bs bf tk tB tY) ∨ ((((-9 ≤ u ∧ u ≤ 9) ∧ (-9 ≤ v ∧ v ≤ 9) ∧ (-9 ≤ w ∧ w ≤ 9)) ∧ ¬ (u = 0 ∧ v = 0 ∧ w = 0)) ∧ dr < 8 ∧ t = nI dr ∧ rAll h' 0 jn (dr + 1) pn bl tn ms ml mo (upd (upd (upd mT (3 * dr) u) (3 * dr + 1) v) (3 * dr + 2) w) mp pt po pa pw bs bf tk tB tY))) 0 (zentry 4 [.ref 84, .int (u), .int (v), .int (w)]) [] h 0 0 := by
  show PW G M_Md_direction (zroom 2 0 0) false _ 0 [some (.ref 84), some (.int (u)), some (.int (v)), some (.int (w))] [] h 0 0
  obtain ⟨hm, h85, h86, h87, h88, h89, h90, h91, h92, h93, ⟨w94, h94⟩, h95, h96, h97, h98, h99, ⟨w100, h100⟩, ⟨w101, h101⟩, ⟨w102, h102⟩, ⟨w103, h103⟩⟩ := hA
  refine pw_aload_n d_Md_direction_0 rfl rfl ?_
  refine pw_iload_n d_Md_direction_1 rfl rfl ?_
  refine pw_iload_n d_Md_direction_2 rfl rfl ?_
  refine pw_iload_n d_Md_direction_3 rfl rfl ?_
  refine pw_callS1 (R' := (zroom 1 0 0)) (h2 := h) [.int (u), .int (v), .int (w)] (fun q => nomatch q) d_Md_direction_4 lk_Md_143 rfl rfl c_isVector ?_
  refine pw_if_eq 22 d_Md_direction_7 (by decide) (fun q_i => ?_) (fun q_i => ?_)
  · refine pw_iconst (x := 1) d_Md_direction_22 (by decide) ?_
    refine pw_goto 40 d_Md_direction_23 (by decide) ?_
    obtain ⟨h_1, eh_1⟩ : ∃ x_9, x_9 = List.set h (84) (.inr (6, [.int (1), .ref 85, .int (nI jn), .ref 86, .ref 87, .int (nI dr), .ref 88, .ref 89, .int (nI pn), .ref 90, .ref 91, .ref 92, .ref 93, .ref 94, .int (nI bl), .ref 95, .ref 96, .ref 97, .int (nI tn), .ref 98, .ref 99, .ref 100, .ref 101, .ref 102, .ref 103])) := ⟨_, rfl⟩
    refine pw_put rfl d_Md_direction_40 (fp_Md_75 _ _) hm (Nat.le_of_ble_eq_true rfl) (fun _ => ⟨rfl, rfl⟩) eh_1.symm ?_
    refine pw_aload_n d_Md_direction_43 rfl rfl ?_
    refine pw_get d_Md_direction_44 fl_Md_75 (zg_eq eh_1 hm) rfl ?_
    refine pw_if_le 52 d_Md_direction_47 (by decide) (fun q_t => ?_) (fun q_t => ?_)
    · exact absurd q_t (by decide)
    · refine pw_iconst (x := 0) d_Md_direction_50 (by decide) ?_
      refine pw_ireturn d_Md_direction_51 rfl (by decide) (by decide) ?_
      exact ⟨_, rfl, (zsm_st zsm_rf eh_1 (zMP_in (by decide) (by decide))), Or.inl ⟨fun z => z0 q_i z.1, ⟨(zg_eq eh_1 hm), (zg_ne eh_1 (by decide) h85), (zg_ne eh_1 (by decide) h86), (zg_ne eh_1 (by decide) h87), (zg_ne eh_1 (by decide) h88), (zg_ne eh_1 (by decide) h89), (zg_ne eh_1 (by decide) h90), (zg_ne eh_1 (by decide) h91), (zg_ne eh_1 (by decide) h92), (zg_ne eh_1 (by decide) h93), ⟨_, (zg_ne eh_1 (by decide) h94)⟩, (zg_ne eh_1 (by decide) h95), (zg_ne eh_1 (by decide) h96), (zg_ne eh_1 (by decide) h97), (zg_ne eh_1 (by decide) h98), (zg_ne eh_1 (by decide) h99), ⟨_, (zg_ne eh_1 (by decide) h100)⟩, ⟨_, (zg_ne eh_1 (by decide) h101)⟩, ⟨_, (zg_ne eh_1 (by decide) h102)⟩, ⟨_, (zg_ne eh_1 (by decide) h103)⟩⟩⟩⟩
  · refine pw_iload_n d_Md_direction_10 rfl rfl ?_
    refine pw_if_ne 26 d_Md_direction_11 (by decide) (fun q_1 => ?_) (fun q_1 => ?_)
    · refine pw_aload_n d_Md_direction_26 rfl rfl ?_
      refine pw_get d_Md_direction_27 fl_Md_146 hm rfl ?_
      refine pw_bipush (x := 8) d_Md_direction_30 (by decide) ?_
      refine pw_icmp_ne 39 d_Md_direction_32 (by decide) (fun q_8 => ?_) (fun q_8 => ?_)
      · refine pw_iconst (x := 0) d_Md_direction_39 (by decide) ?_
        obtain ⟨h_2, eh_2⟩ : ∃ x_9, x_9 = List.set h (84) (.inr (6, [.int (0), .ref 85, .int (nI jn), .ref 86, .ref 87, .int (nI dr), .ref 88, .ref 89, .int (nI pn), .ref 90, .ref 91, .ref 92, .ref 93, .ref 94, .int (nI bl), .ref 95, .ref 96, .ref 97, .int (nI tn), .ref 98, .ref 99, .ref 100, .ref 101, .ref 102, .ref 103])) := ⟨_, rfl⟩
        refine pw_put rfl d_Md_direction_40 (fp_Md_75 _ _) hm (Nat.le_of_ble_eq_true rfl) (fun _ => ⟨rfl, rfl⟩) eh_2.symm ?_
        refine pw_aload_n d_Md_direction_43 rfl rfl ?_
        refine pw_get d_Md_direction_44 fl_Md_75 (zg_eq eh_2 hm) rfl ?_
        refine pw_if_le 52 d_Md_direction_47 (by decide) (fun q_t => ?_) (fun q_t => ?_)
        · have hd8 : dr < 8 := by have : ¬ dr = 8 := (fun e => q_8 (by rw [e]; rfl)); omega
          refine pw_aload_n d_Md_direction_52 rfl rfl ?_
          refine pw_get d_Md_direction_53 fl_Md_20 (zg_eq eh_2 hm) rfl ?_
          refine pw_iconst (x := 3) d_Md_direction_56 (by decide) ?_
          refine pw_aload_n d_Md_direction_57 rfl rfl ?_
          refine pw_get d_Md_direction_58 fl_Md_146 (zg_eq eh_2 hm) rfl ?_
          refine pw_imul d_Md_direction_61 ?_
          refine pw_iload_n d_Md_direction_62 rfl rfl ?_
          obtain ⟨h_3, eh_3⟩ : ∃ x_9, x_9 = List.set h_2 (88) (.inl (0, 24, .inl (upd mT (3 * dr) (u)))) := ⟨_, rfl⟩
          refine pw_iast rfl d_Md_direction_63 (zg_ne eh_2 (by decide) h88) rfl (n30 dr) (by omega) (by decide) eh_3.symm ?_
          refine pw_aload_n d_Md_direction_64 rfl rfl ?_
          refine pw_get d_Md_direction_65 fl_Md_20 (zg_ne eh_3 (by decide) (zg_eq eh_2 hm)) rfl ?_
          refine pw_iconst (x := 3) d_Md_direction_68 (by decide) ?_
          refine pw_aload_n d_Md_direction_69 rfl rfl ?_
          refine pw_get d_Md_direction_70 fl_Md_146 (zg_ne eh_3 (by decide) (zg_eq eh_2 hm)) rfl ?_
          refine pw_imul d_Md_direction_73 ?_
          refine pw_iconst (x := 1) d_Md_direction_74 (by decide) ?_
          refine pw_iadd d_Md_direction_75 ?_
          refine pw_iload_n d_Md_direction_76 rfl rfl ?_
          obtain ⟨h_4, eh_4⟩ : ∃ x_9, x_9 = List.set h_3 (88) (.inl (0, 24, .inl (upd (upd mT (3 * dr) (u)) (3 * dr + 1) (v)))) := ⟨_, rfl⟩
          refine pw_iast rfl d_Md_direction_77 (zg_eq eh_3 (zg_ne eh_2 (by decide) h88)) rfl (n3 dr 1) (by omega) (by decide) eh_4.symm ?_
          refine pw_aload_n d_Md_direction_78 rfl rfl ?_
          refine pw_get d_Md_direction_79 fl_Md_20 (zg_ne eh_4 (by decide) (zg_ne eh_3 (by decide) (zg_eq eh_2 hm))) rfl ?_
          refine pw_iconst (x := 3) d_Md_direction_82 (by decide) ?_
          refine pw_aload_n d_Md_direction_83 rfl rfl ?_
          refine pw_get d_Md_direction_84 fl_Md_146 (zg_ne eh_4 (by decide) (zg_ne eh_3 (by decide) (zg_eq eh_2 hm))) rfl ?_
          refine pw_imul d_Md_direction_87 ?_
          refine pw_iconst (x := 2) d_Md_direction_88 (by decide) ?_
          refine pw_iadd d_Md_direction_89 ?_
          refine pw_iload_n d_Md_direction_90 rfl rfl ?_
          obtain ⟨h_5, eh_5⟩ : ∃ x_9, x_9 = List.set h_4 (88) (.inl (0, 24, .inl (upd (upd (upd mT (3 * dr) (u)) (3 * dr + 1) (v)) (3 * dr + 2) (w)))) := ⟨_, rfl⟩
          refine pw_iast rfl d_Md_direction_91 (zg_eq eh_4 (zg_eq eh_3 (zg_ne eh_2 (by decide) h88))) rfl (n3 dr 2) (by omega) (by decide) eh_5.symm ?_
          refine pw_aload_n d_Md_direction_92 rfl rfl ?_
          refine pw_dup d_Md_direction_93 rfl ?_
          refine pw_get d_Md_direction_94 fl_Md_146 (zg_ne eh_5 (by decide) (zg_ne eh_4 (by decide) (zg_ne eh_3 (by decide) (zg_eq eh_2 hm)))) rfl ?_
          refine pw_iconst (x := 1) d_Md_direction_97 (by decide) ?_
          refine pw_iadd d_Md_direction_98 ?_
          obtain ⟨h_6, eh_6⟩ : ∃ x_9, x_9 = List.set h_5 (84) (.inr (6, [.int (0), .ref 85, .int (nI jn), .ref 86, .ref 87, .int ((nI dr + 1)), .ref 88, .ref 89, .int (nI pn), .ref 90, .ref 91, .ref 92, .ref 93, .ref 94, .int (nI bl), .ref 95, .ref 96, .ref 97, .int (nI tn), .ref 98, .ref 99, .ref 100, .ref 101, .ref 102, .ref 103])) := ⟨_, rfl⟩
          refine pw_put rfl d_Md_direction_99 (fp_Md_146 _ _) (zg_ne eh_5 (by decide) (zg_ne eh_4 (by decide) (zg_ne eh_3 (by decide) (zg_eq eh_2 hm)))) (Nat.le_of_ble_eq_true rfl) (fun _ => ⟨rfl, rfl⟩) eh_6.symm ?_
          refine pw_aload_n d_Md_direction_102 rfl rfl ?_
          refine pw_get d_Md_direction_103 fl_Md_146 (zg_eq eh_6 (zg_ne eh_5 (by decide) (zg_ne eh_4 (by decide) (zg_ne eh_3 (by decide) (zg_eq eh_2 hm))))) rfl ?_
          refine pw_iconst (x := 1) d_Md_direction_106 (by decide) ?_
          refine pw_isub d_Md_direction_107 ?_
          refine pw_ireturn d_Md_direction_108 rfl (by decide) (by decide) ?_
          have h84n : zMo h_6 0 jn (dr + 1) pn bl tn := by unfold zMo; rw [← nI_1]; exact (zg_eq eh_6 (zg_ne eh_5 (by decide) (zg_ne eh_4 (by decide) (zg_ne eh_3 (by decide) (zg_eq eh_2 hm)))))
          have et : nI dr + 1 - 1 = nI dr := by rw [nI_1, nI_pred]
          exact ⟨_, rfl, (zsm_st (zsm_st (zsm_st (zsm_st (zsm_st zsm_rf eh_2 (zMP_in (by decide) (by decide))) eh_3 (zMP_in (by decide) (by decide))) eh_4 (zMP_in (by decide) (by decide))) eh_5 (zMP_in (by decide) (by decide))) eh_6 (zMP_in (by decide) (by decide))), Or.inr (Or.inr ⟨⟨z1 q_i, fun z => q_1 z.1⟩, hd8, et, ⟨h84n, (zg_ne eh_6 (by decide) (zg_ne eh_5 (by decide) (zg_ne eh_4 (by decide) (zg_ne eh_3 (by decide) (zg_ne eh_2 (by decide) h85))))), (zg_ne eh_6 (by decide) (zg_ne eh_5 (by decide) (zg_ne eh_4 (by decide) (zg_ne eh_3 (by decide) (zg_ne eh_2 (by decide) h86))))), (zg_ne eh_6 (by decide) (zg_ne eh_5 (by decide) (zg_ne eh_4 (by decide) (zg_ne eh_3 (by decide) (zg_ne eh_2 (by decide) h87))))), (zg_ne eh_6 (by decide) (zg_eq eh_5 (zg_eq eh_4 (zg_eq eh_3 (zg_ne eh_2 (by decide) h88))))), (zg_ne eh_6 (by decide) (zg_ne eh_5 (by decide) (zg_ne eh_4 (by decide) (zg_ne eh_3 (by decide) (zg_ne eh_2 (by decide) h89))))), (zg_ne eh_6 (by decide) (zg_ne eh_5 (by decide) (zg_ne eh_4 (by decide) (zg_ne eh_3 (by decide) (zg_ne eh_2 (by decide) h90))))), (zg_ne eh_6 (by decide) (zg_ne eh_5 (by decide) (zg_ne eh_4 (by decide) (zg_ne eh_3 (by decide) (zg_ne eh_2 (by decide) h91))))), (zg_ne eh_6 (by decide) (zg_ne eh_5 (by decide) (zg_ne eh_4 (by decide) (zg_ne eh_3 (by decide) (zg_ne eh_2 (by decide) h92))))), (zg_ne eh_6 (by decide) (zg_ne eh_5 (by decide) (zg_ne eh_4 (by decide) (zg_ne eh_3 (by decide) (zg_ne eh_2 (by decide) h93))))), ⟨_, (zg_ne eh_6 (by decide) (zg_ne eh_5 (by decide) (zg_ne eh_4 (by decide) (zg_ne eh_3 (by decide) (zg_ne eh_2 (by decide) h94)))))⟩, (zg_ne eh_6 (by decide) (zg_ne eh_5 (by decide) (zg_ne eh_4 (by decide) (zg_ne eh_3 (by decide) (zg_ne eh_2 (by decide) h95))))), (zg_ne eh_6 (by decide) (zg_ne eh_5 (by decide) (zg_ne eh_4 (by decide) (zg_ne eh_3 (by decide) (zg_ne eh_2 (by decide) h96))))), (zg_ne eh_6 (by decide) (zg_ne eh_5 (by decide) (zg_ne eh_4 (by decide) (zg_ne eh_3 (by decide) (zg_ne eh_2 (by decide) h97))))), (zg_ne eh_6 (by decide) (zg_ne eh_5 (by decide) (zg_ne eh_4 (by decide) (zg_ne eh_3 (by decide) (zg_ne eh_2 (by decide) h98))))), (zg_ne eh_6 (by decide) (zg_ne eh_5 (by decide) (zg_ne eh_4 (by decide) (zg_ne eh_3 (by decide) (zg_ne eh_2 (by decide) h99))))), ⟨_, (zg_ne eh_6 (by decide) (zg_ne eh_5 (by decide) (zg_ne eh_4 (by decide) (zg_ne eh_3 (by decide) (zg_ne eh_2 (by decide) h100)))))⟩, ⟨_, (zg_ne eh_6 (by decide) (zg_ne eh_5 (by decide) (zg_ne eh_4 (by decide) (zg_ne eh_3 (by decide) (zg_ne eh_2 (by decide) h101)))))⟩, ⟨_, (zg_ne eh_6 (by decide) (zg_ne eh_5 (by decide) (zg_ne eh_4 (by decide) (zg_ne eh_3 (by decide) (zg_ne eh_2 (by decide) h102)))))⟩, ⟨_, (zg_ne eh_6 (by decide) (zg_ne eh_5 (by decide) (zg_ne eh_4 (by decide) (zg_ne eh_3 (by decide) (zg_ne eh_2 (by decide) h103)))))⟩⟩⟩)⟩
        · exact absurd (show (0 : Int32) ≤ 0 by decide) q_t
      · refine pw_iconst (x := 2) d_Md_direction_35 (by decide) ?_
        refine pw_goto 40 d_Md_direction_36 (by decide) ?_
        obtain ⟨h_7, eh_7⟩ : ∃ x_9, x_9 = List.set h (84) (.inr (6, [.int (2), .ref 85, .int (nI jn), .ref 86, .ref 87, .int (nI dr), .ref 88, .ref 89, .int (nI pn), .ref 90, .ref 91, .ref 92, .ref 93, .ref 94, .int (nI bl), .ref 95, .ref 96, .ref 97, .int (nI tn), .ref 98, .ref 99, .ref 100, .ref 101, .ref 102, .ref 103])) := ⟨_, rfl⟩
        refine pw_put rfl d_Md_direction_40 (fp_Md_75 _ _) hm (Nat.le_of_ble_eq_true rfl) (fun _ => ⟨rfl, rfl⟩) eh_7.symm ?_
        refine pw_aload_n d_Md_direction_43 rfl rfl ?_
        refine pw_get d_Md_direction_44 fl_Md_75 (zg_eq eh_7 hm) rfl ?_
        refine pw_if_le 52 d_Md_direction_47 (by decide) (fun q_t => ?_) (fun q_t => ?_)
        · exact absurd q_t (by decide)
        · refine pw_iconst (x := 0) d_Md_direction_50 (by decide) ?_
          refine pw_ireturn d_Md_direction_51 rfl (by decide) (by decide) ?_
          have e8 : dr = 8 := (nI_eq (b := 8) (by omega) (by decide)).mp q_8
          exact ⟨_, rfl, (zsm_st zsm_rf eh_7 (zMP_in (by decide) (by decide))), Or.inr (Or.inl ⟨⟨z1 q_i, fun z => q_1 z.1⟩, e8, ⟨(zg_eq eh_7 hm), (zg_ne eh_7 (by decide) h85), (zg_ne eh_7 (by decide) h86), (zg_ne eh_7 (by decide) h87), (zg_ne eh_7 (by decide) h88), (zg_ne eh_7 (by decide) h89), (zg_ne eh_7 (by decide) h90), (zg_ne eh_7 (by decide) h91), (zg_ne eh_7 (by decide) h92), (zg_ne eh_7 (by decide) h93), ⟨_, (zg_ne eh_7 (by decide) h94)⟩, (zg_ne eh_7 (by decide) h95), (zg_ne eh_7 (by decide) h96), (zg_ne eh_7 (by decide) h97), (zg_ne eh_7 (by decide) h98), (zg_ne eh_7 (by decide) h99), ⟨_, (zg_ne eh_7 (by decide) h100)⟩, ⟨_, (zg_ne eh_7 (by decide) h101)⟩, ⟨_, (zg_ne eh_7 (by decide) h102)⟩, ⟨_, (zg_ne eh_7 (by decide) h103)⟩⟩⟩)⟩
    · refine pw_iload_n d_Md_direction_14 rfl rfl ?_
      refine pw_if_ne 26 d_Md_direction_15 (by decide) (fun q_2 => ?_) (fun q_2 => ?_)
      · refine pw_aload_n d_Md_direction_26 rfl rfl ?_
        refine pw_get d_Md_direction_27 fl_Md_146 hm rfl ?_
        refine pw_bipush (x := 8) d_Md_direction_30 (by decide) ?_
        refine pw_icmp_ne 39 d_Md_direction_32 (by decide) (fun q_8 => ?_) (fun q_8 => ?_)
        · refine pw_iconst (x := 0) d_Md_direction_39 (by decide) ?_
          obtain ⟨h_8, eh_8⟩ : ∃ x_9, x_9 = List.set h (84) (.inr (6, [.int (0), .ref 85, .int (nI jn), .ref 86, .ref 87, .int (nI dr), .ref 88, .ref 89, .int (nI pn), .ref 90, .ref 91, .ref 92, .ref 93, .ref 94, .int (nI bl), .ref 95, .ref 96, .ref 97, .int (nI tn), .ref 98, .ref 99, .ref 100, .ref 101, .ref 102, .ref 103])) := ⟨_, rfl⟩
          refine pw_put rfl d_Md_direction_40 (fp_Md_75 _ _) hm (Nat.le_of_ble_eq_true rfl) (fun _ => ⟨rfl, rfl⟩) eh_8.symm ?_
          refine pw_aload_n d_Md_direction_43 rfl rfl ?_
          refine pw_get d_Md_direction_44 fl_Md_75 (zg_eq eh_8 hm) rfl ?_
          refine pw_if_le 52 d_Md_direction_47 (by decide) (fun q_t => ?_) (fun q_t => ?_)
          · have hd8 : dr < 8 := by have : ¬ dr = 8 := (fun e => q_8 (by rw [e]; rfl)); omega
            refine pw_aload_n d_Md_direction_52 rfl rfl ?_
            refine pw_get d_Md_direction_53 fl_Md_20 (zg_eq eh_8 hm) rfl ?_
            refine pw_iconst (x := 3) d_Md_direction_56 (by decide) ?_
            refine pw_aload_n d_Md_direction_57 rfl rfl ?_
            refine pw_get d_Md_direction_58 fl_Md_146 (zg_eq eh_8 hm) rfl ?_
            refine pw_imul d_Md_direction_61 ?_
            refine pw_iload_n d_Md_direction_62 rfl rfl ?_
            obtain ⟨h_9, eh_9⟩ : ∃ x_9, x_9 = List.set h_8 (88) (.inl (0, 24, .inl (upd mT (3 * dr) (u)))) := ⟨_, rfl⟩
            refine pw_iast rfl d_Md_direction_63 (zg_ne eh_8 (by decide) h88) rfl (n30 dr) (by omega) (by decide) eh_9.symm ?_
            refine pw_aload_n d_Md_direction_64 rfl rfl ?_
            refine pw_get d_Md_direction_65 fl_Md_20 (zg_ne eh_9 (by decide) (zg_eq eh_8 hm)) rfl ?_
            refine pw_iconst (x := 3) d_Md_direction_68 (by decide) ?_
            refine pw_aload_n d_Md_direction_69 rfl rfl ?_
            refine pw_get d_Md_direction_70 fl_Md_146 (zg_ne eh_9 (by decide) (zg_eq eh_8 hm)) rfl ?_
            refine pw_imul d_Md_direction_73 ?_
            refine pw_iconst (x := 1) d_Md_direction_74 (by decide) ?_
            refine pw_iadd d_Md_direction_75 ?_
            refine pw_iload_n d_Md_direction_76 rfl rfl ?_
            obtain ⟨h_10, eh_10⟩ : ∃ x_9, x_9 = List.set h_9 (88) (.inl (0, 24, .inl (upd (upd mT (3 * dr) (u)) (3 * dr + 1) (v)))) := ⟨_, rfl⟩
            refine pw_iast rfl d_Md_direction_77 (zg_eq eh_9 (zg_ne eh_8 (by decide) h88)) rfl (n3 dr 1) (by omega) (by decide) eh_10.symm ?_
            refine pw_aload_n d_Md_direction_78 rfl rfl ?_
            refine pw_get d_Md_direction_79 fl_Md_20 (zg_ne eh_10 (by decide) (zg_ne eh_9 (by decide) (zg_eq eh_8 hm))) rfl ?_
            refine pw_iconst (x := 3) d_Md_direction_82 (by decide) ?_
            refine pw_aload_n d_Md_direction_83 rfl rfl ?_
            refine pw_get d_Md_direction_84 fl_Md_146 (zg_ne eh_10 (by decide) (zg_ne eh_9 (by decide) (zg_eq eh_8 hm))) rfl ?_
            refine pw_imul d_Md_direction_87 ?_
            refine pw_iconst (x := 2) d_Md_direction_88 (by decide) ?_
            refine pw_iadd d_Md_direction_89 ?_
            refine pw_iload_n d_Md_direction_90 rfl rfl ?_
            obtain ⟨h_11, eh_11⟩ : ∃ x_9, x_9 = List.set h_10 (88) (.inl (0, 24, .inl (upd (upd (upd mT (3 * dr) (u)) (3 * dr + 1) (v)) (3 * dr + 2) (w)))) := ⟨_, rfl⟩
            refine pw_iast rfl d_Md_direction_91 (zg_eq eh_10 (zg_eq eh_9 (zg_ne eh_8 (by decide) h88))) rfl (n3 dr 2) (by omega) (by decide) eh_11.symm ?_
            refine pw_aload_n d_Md_direction_92 rfl rfl ?_
            refine pw_dup d_Md_direction_93 rfl ?_
            refine pw_get d_Md_direction_94 fl_Md_146 (zg_ne eh_11 (by decide) (zg_ne eh_10 (by decide) (zg_ne eh_9 (by decide) (zg_eq eh_8 hm)))) rfl ?_
            refine pw_iconst (x := 1) d_Md_direction_97 (by decide) ?_
            refine pw_iadd d_Md_direction_98 ?_
            obtain ⟨h_12, eh_12⟩ : ∃ x_9, x_9 = List.set h_11 (84) (.inr (6, [.int (0), .ref 85, .int (nI jn), .ref 86, .ref 87, .int ((nI dr + 1)), .ref 88, .ref 89, .int (nI pn), .ref 90, .ref 91, .ref 92, .ref 93, .ref 94, .int (nI bl), .ref 95, .ref 96, .ref 97, .int (nI tn), .ref 98, .ref 99, .ref 100, .ref 101, .ref 102, .ref 103])) := ⟨_, rfl⟩
            refine pw_put rfl d_Md_direction_99 (fp_Md_146 _ _) (zg_ne eh_11 (by decide) (zg_ne eh_10 (by decide) (zg_ne eh_9 (by decide) (zg_eq eh_8 hm)))) (Nat.le_of_ble_eq_true rfl) (fun _ => ⟨rfl, rfl⟩) eh_12.symm ?_
            refine pw_aload_n d_Md_direction_102 rfl rfl ?_
            refine pw_get d_Md_direction_103 fl_Md_146 (zg_eq eh_12 (zg_ne eh_11 (by decide) (zg_ne eh_10 (by decide) (zg_ne eh_9 (by decide) (zg_eq eh_8 hm))))) rfl ?_
            refine pw_iconst (x := 1) d_Md_direction_106 (by decide) ?_
            refine pw_isub d_Md_direction_107 ?_
            refine pw_ireturn d_Md_direction_108 rfl (by decide) (by decide) ?_
            have h84n : zMo h_12 0 jn (dr + 1) pn bl tn := by unfold zMo; rw [← nI_1]; exact (zg_eq eh_12 (zg_ne eh_11 (by decide) (zg_ne eh_10 (by decide) (zg_ne eh_9 (by decide) (zg_eq eh_8 hm)))))
            have et : nI dr + 1 - 1 = nI dr := by rw [nI_1, nI_pred]
            exact ⟨_, rfl, (zsm_st (zsm_st (zsm_st (zsm_st (zsm_st zsm_rf eh_8 (zMP_in (by decide) (by decide))) eh_9 (zMP_in (by decide) (by decide))) eh_10 (zMP_in (by decide) (by decide))) eh_11 (zMP_in (by decide) (by decide))) eh_12 (zMP_in (by decide) (by decide))), Or.inr (Or.inr ⟨⟨z1 q_i, fun z => q_2 z.2.1⟩, hd8, et, ⟨h84n, (zg_ne eh_12 (by decide) (zg_ne eh_11 (by decide) (zg_ne eh_10 (by decide) (zg_ne eh_9 (by decide) (zg_ne eh_8 (by decide) h85))))), (zg_ne eh_12 (by decide) (zg_ne eh_11 (by decide) (zg_ne eh_10 (by decide) (zg_ne eh_9 (by decide) (zg_ne eh_8 (by decide) h86))))), (zg_ne eh_12 (by decide) (zg_ne eh_11 (by decide) (zg_ne eh_10 (by decide) (zg_ne eh_9 (by decide) (zg_ne eh_8 (by decide) h87))))), (zg_ne eh_12 (by decide) (zg_eq eh_11 (zg_eq eh_10 (zg_eq eh_9 (zg_ne eh_8 (by decide) h88))))), (zg_ne eh_12 (by decide) (zg_ne eh_11 (by decide) (zg_ne eh_10 (by decide) (zg_ne eh_9 (by decide) (zg_ne eh_8 (by decide) h89))))), (zg_ne eh_12 (by decide) (zg_ne eh_11 (by decide) (zg_ne eh_10 (by decide) (zg_ne eh_9 (by decide) (zg_ne eh_8 (by decide) h90))))), (zg_ne eh_12 (by decide) (zg_ne eh_11 (by decide) (zg_ne eh_10 (by decide) (zg_ne eh_9 (by decide) (zg_ne eh_8 (by decide) h91))))), (zg_ne eh_12 (by decide) (zg_ne eh_11 (by decide) (zg_ne eh_10 (by decide) (zg_ne eh_9 (by decide) (zg_ne eh_8 (by decide) h92))))), (zg_ne eh_12 (by decide) (zg_ne eh_11 (by decide) (zg_ne eh_10 (by decide) (zg_ne eh_9 (by decide) (zg_ne eh_8 (by decide) h93))))), ⟨_, (zg_ne eh_12 (by decide) (zg_ne eh_11 (by decide) (zg_ne eh_10 (by decide) (zg_ne eh_9 (by decide) (zg_ne eh_8 (by decide) h94)))))⟩, (zg_ne eh_12 (by decide) (zg_ne eh_11 (by decide) (zg_ne eh_10 (by decide) (zg_ne eh_9 (by decide) (zg_ne eh_8 (by decide) h95))))), (zg_ne eh_12 (by decide) (zg_ne eh_11 (by decide) (zg_ne eh_10 (by decide) (zg_ne eh_9 (by decide) (zg_ne eh_8 (by decide) h96))))), (zg_ne eh_12 (by decide) (zg_ne eh_11 (by decide) (zg_ne eh_10 (by decide) (zg_ne eh_9 (by decide) (zg_ne eh_8 (by decide) h97))))), (zg_ne eh_12 (by decide) (zg_ne eh_11 (by decide) (zg_ne eh_10 (by decide) (zg_ne eh_9 (by decide) (zg_ne eh_8 (by decide) h98))))), (zg_ne eh_12 (by decide) (zg_ne eh_11 (by decide) (zg_ne eh_10 (by decide) (zg_ne eh_9 (by decide) (zg_ne eh_8 (by decide) h99))))), ⟨_, (zg_ne eh_12 (by decide) (zg_ne eh_11 (by decide) (zg_ne eh_10 (by decide) (zg_ne eh_9 (by decide) (zg_ne eh_8 (by decide) h100)))))⟩, ⟨_, (zg_ne eh_12 (by decide) (zg_ne eh_11 (by decide) (zg_ne eh_10 (by decide) (zg_ne eh_9 (by decide) (zg_ne eh_8 (by decide) h101)))))⟩, ⟨_, (zg_ne eh_12 (by decide) (zg_ne eh_11 (by decide) (zg_ne eh_10 (by decide) (zg_ne eh_9 (by decide) (zg_ne eh_8 (by decide) h102)))))⟩, ⟨_, (zg_ne eh_12 (by decide) (zg_ne eh_11 (by decide) (zg_ne eh_10 (by decide) (zg_ne eh_9 (by decide) (zg_ne eh_8 (by decide) h103)))))⟩⟩⟩)⟩
          · exact absurd (show (0 : Int32) ≤ 0 by decide) q_t
        · refine pw_iconst (x := 2) d_Md_direction_35 (by decide) ?_
          refine pw_goto 40 d_Md_direction_36 (by decide) ?_
          obtain ⟨h_13, eh_13⟩ : ∃ x_9, x_9 = List.set h (84) (.inr (6, [.int (2), .ref 85, .int (nI jn), .ref 86, .ref 87, .int (nI dr), .ref 88, .ref 89, .int (nI pn), .ref 90, .ref 91, .ref 92, .ref 93, .ref 94, .int (nI bl), .ref 95, .ref 96, .ref 97, .int (nI tn), .ref 98, .ref 99, .ref 100, .ref 101, .ref 102, .ref 103])) := ⟨_, rfl⟩
          refine pw_put rfl d_Md_direction_40 (fp_Md_75 _ _) hm (Nat.le_of_ble_eq_true rfl) (fun _ => ⟨rfl, rfl⟩) eh_13.symm ?_
          refine pw_aload_n d_Md_direction_43 rfl rfl ?_
          refine pw_get d_Md_direction_44 fl_Md_75 (zg_eq eh_13 hm) rfl ?_
          refine pw_if_le 52 d_Md_direction_47 (by decide) (fun q_t => ?_) (fun q_t => ?_)
          · exact absurd q_t (by decide)
          · refine pw_iconst (x := 0) d_Md_direction_50 (by decide) ?_
            refine pw_ireturn d_Md_direction_51 rfl (by decide) (by decide) ?_
            have e8 : dr = 8 := (nI_eq (b := 8) (by omega) (by decide)).mp q_8
            exact ⟨_, rfl, (zsm_st zsm_rf eh_13 (zMP_in (by decide) (by decide))), Or.inr (Or.inl ⟨⟨z1 q_i, fun z => q_2 z.2.1⟩, e8, ⟨(zg_eq eh_13 hm), (zg_ne eh_13 (by decide) h85), (zg_ne eh_13 (by decide) h86), (zg_ne eh_13 (by decide) h87), (zg_ne eh_13 (by decide) h88), (zg_ne eh_13 (by decide) h89), (zg_ne eh_13 (by decide) h90), (zg_ne eh_13 (by decide) h91), (zg_ne eh_13 (by decide) h92), (zg_ne eh_13 (by decide) h93), ⟨_, (zg_ne eh_13 (by decide) h94)⟩, (zg_ne eh_13 (by decide) h95), (zg_ne eh_13 (by decide) h96), (zg_ne eh_13 (by decide) h97), (zg_ne eh_13 (by decide) h98), (zg_ne eh_13 (by decide) h99), ⟨_, (zg_ne eh_13 (by decide) h100)⟩, ⟨_, (zg_ne eh_13 (by decide) h101)⟩, ⟨_, (zg_ne eh_13 (by decide) h102)⟩, ⟨_, (zg_ne eh_13 (by decide) h103)⟩⟩⟩)⟩
      · refine pw_iload_n d_Md_direction_18 rfl rfl ?_
        refine pw_if_ne 26 d_Md_direction_19 (by decide) (fun q_3 => ?_) (fun q_3 => ?_)
        · refine pw_aload_n d_Md_direction_26 rfl rfl ?_
          refine pw_get d_Md_direction_27 fl_Md_146 hm rfl ?_
          refine pw_bipush (x := 8) d_Md_direction_30 (by decide) ?_
          refine pw_icmp_ne 39 d_Md_direction_32 (by decide) (fun q_8 => ?_) (fun q_8 => ?_)
          · refine pw_iconst (x := 0) d_Md_direction_39 (by decide) ?_
            obtain ⟨h_14, eh_14⟩ : ∃ x_9, x_9 = List.set h (84) (.inr (6, [.int (0), .ref 85, .int (nI jn), .ref 86, .ref 87, .int (nI dr), .ref 88, .ref 89, .int (nI pn), .ref 90, .ref 91, .ref 92, .ref 93, .ref 94, .int (nI bl), .ref 95, .ref 96, .ref 97, .int (nI tn), .ref 98, .ref 99, .ref 100, .ref 101, .ref 102, .ref 103])) := ⟨_, rfl⟩
            refine pw_put rfl d_Md_direction_40 (fp_Md_75 _ _) hm (Nat.le_of_ble_eq_true rfl) (fun _ => ⟨rfl, rfl⟩) eh_14.symm ?_
            refine pw_aload_n d_Md_direction_43 rfl rfl ?_
            refine pw_get d_Md_direction_44 fl_Md_75 (zg_eq eh_14 hm) rfl ?_
            refine pw_if_le 52 d_Md_direction_47 (by decide) (fun q_t => ?_) (fun q_t => ?_)
            · have hd8 : dr < 8 := by have : ¬ dr = 8 := (fun e => q_8 (by rw [e]; rfl)); omega
              refine pw_aload_n d_Md_direction_52 rfl rfl ?_
              refine pw_get d_Md_direction_53 fl_Md_20 (zg_eq eh_14 hm) rfl ?_
              refine pw_iconst (x := 3) d_Md_direction_56 (by decide) ?_
              refine pw_aload_n d_Md_direction_57 rfl rfl ?_
              refine pw_get d_Md_direction_58 fl_Md_146 (zg_eq eh_14 hm) rfl ?_
              refine pw_imul d_Md_direction_61 ?_
              refine pw_iload_n d_Md_direction_62 rfl rfl ?_
              obtain ⟨h_15, eh_15⟩ : ∃ x_9, x_9 = List.set h_14 (88) (.inl (0, 24, .inl (upd mT (3 * dr) (u)))) := ⟨_, rfl⟩
              refine pw_iast rfl d_Md_direction_63 (zg_ne eh_14 (by decide) h88) rfl (n30 dr) (by omega) (by decide) eh_15.symm ?_
              refine pw_aload_n d_Md_direction_64 rfl rfl ?_
              refine pw_get d_Md_direction_65 fl_Md_20 (zg_ne eh_15 (by decide) (zg_eq eh_14 hm)) rfl ?_
              refine pw_iconst (x := 3) d_Md_direction_68 (by decide) ?_
              refine pw_aload_n d_Md_direction_69 rfl rfl ?_
              refine pw_get d_Md_direction_70 fl_Md_146 (zg_ne eh_15 (by decide) (zg_eq eh_14 hm)) rfl ?_
              refine pw_imul d_Md_direction_73 ?_
              refine pw_iconst (x := 1) d_Md_direction_74 (by decide) ?_
              refine pw_iadd d_Md_direction_75 ?_
              refine pw_iload_n d_Md_direction_76 rfl rfl ?_
              obtain ⟨h_16, eh_16⟩ : ∃ x_9, x_9 = List.set h_15 (88) (.inl (0, 24, .inl (upd (upd mT (3 * dr) (u)) (3 * dr + 1) (v)))) := ⟨_, rfl⟩
              refine pw_iast rfl d_Md_direction_77 (zg_eq eh_15 (zg_ne eh_14 (by decide) h88)) rfl (n3 dr 1) (by omega) (by decide) eh_16.symm ?_
              refine pw_aload_n d_Md_direction_78 rfl rfl ?_
              refine pw_get d_Md_direction_79 fl_Md_20 (zg_ne eh_16 (by decide) (zg_ne eh_15 (by decide) (zg_eq eh_14 hm))) rfl ?_
              refine pw_iconst (x := 3) d_Md_direction_82 (by decide) ?_
              refine pw_aload_n d_Md_direction_83 rfl rfl ?_
              refine pw_get d_Md_direction_84 fl_Md_146 (zg_ne eh_16 (by decide) (zg_ne eh_15 (by decide) (zg_eq eh_14 hm))) rfl ?_
              refine pw_imul d_Md_direction_87 ?_
              refine pw_iconst (x := 2) d_Md_direction_88 (by decide) ?_
              refine pw_iadd d_Md_direction_89 ?_
              refine pw_iload_n d_Md_direction_90 rfl rfl ?_
              obtain ⟨h_17, eh_17⟩ : ∃ x_9, x_9 = List.set h_16 (88) (.inl (0, 24, .inl (upd (upd (upd mT (3 * dr) (u)) (3 * dr + 1) (v)) (3 * dr + 2) (w)))) := ⟨_, rfl⟩
              refine pw_iast rfl d_Md_direction_91 (zg_eq eh_16 (zg_eq eh_15 (zg_ne eh_14 (by decide) h88))) rfl (n3 dr 2) (by omega) (by decide) eh_17.symm ?_
              refine pw_aload_n d_Md_direction_92 rfl rfl ?_
              refine pw_dup d_Md_direction_93 rfl ?_
              refine pw_get d_Md_direction_94 fl_Md_146 (zg_ne eh_17 (by decide) (zg_ne eh_16 (by decide) (zg_ne eh_15 (by decide) (zg_eq eh_14 hm)))) rfl ?_
              refine pw_iconst (x := 1) d_Md_direction_97 (by decide) ?_
              refine pw_iadd d_Md_direction_98 ?_
              obtain ⟨h_18, eh_18⟩ : ∃ x_9, x_9 = List.set h_17 (84) (.inr (6, [.int (0), .ref 85, .int (nI jn), .ref 86, .ref 87, .int ((nI dr + 1)), .ref 88, .ref 89, .int (nI pn), .ref 90, .ref 91, .ref 92, .ref 93, .ref 94, .int (nI bl), .ref 95, .ref 96, .ref 97, .int (nI tn), .ref 98, .ref 99, .ref 100, .ref 101, .ref 102, .ref 103])) := ⟨_, rfl⟩
              refine pw_put rfl d_Md_direction_99 (fp_Md_146 _ _) (zg_ne eh_17 (by decide) (zg_ne eh_16 (by decide) (zg_ne eh_15 (by decide) (zg_eq eh_14 hm)))) (Nat.le_of_ble_eq_true rfl) (fun _ => ⟨rfl, rfl⟩) eh_18.symm ?_
              refine pw_aload_n d_Md_direction_102 rfl rfl ?_
              refine pw_get d_Md_direction_103 fl_Md_146 (zg_eq eh_18 (zg_ne eh_17 (by decide) (zg_ne eh_16 (by decide) (zg_ne eh_15 (by decide) (zg_eq eh_14 hm))))) rfl ?_
              refine pw_iconst (x := 1) d_Md_direction_106 (by decide) ?_
              refine pw_isub d_Md_direction_107 ?_
              refine pw_ireturn d_Md_direction_108 rfl (by decide) (by decide) ?_
              have h84n : zMo h_18 0 jn (dr + 1) pn bl tn := by unfold zMo; rw [← nI_1]; exact (zg_eq eh_18 (zg_ne eh_17 (by decide) (zg_ne eh_16 (by decide) (zg_ne eh_15 (by decide) (zg_eq eh_14 hm)))))
              have et : nI dr + 1 - 1 = nI dr := by rw [nI_1, nI_pred]
              exact ⟨_, rfl, (zsm_st (zsm_st (zsm_st (zsm_st (zsm_st zsm_rf eh_14 (zMP_in (by decide) (by decide))) eh_15 (zMP_in (by decide) (by decide))) eh_16 (zMP_in (by decide) (by decide))) eh_17 (zMP_in (by decide) (by decide))) eh_18 (zMP_in (by decide) (by decide))), Or.inr (Or.inr ⟨⟨z1 q_i, fun z => q_3 z.2.2⟩, hd8, et, ⟨h84n, (zg_ne eh_18 (by decide) (zg_ne eh_17 (by decide) (zg_ne eh_16 (by decide) (zg_ne eh_15 (by decide) (zg_ne eh_14 (by decide) h85))))), (zg_ne eh_18 (by decide) (zg_ne eh_17 (by decide) (zg_ne eh_16 (by decide) (zg_ne eh_15 (by decide) (zg_ne eh_14 (by decide) h86))))), (zg_ne eh_18 (by decide) (zg_ne eh_17 (by decide) (zg_ne eh_16 (by decide) (zg_ne eh_15 (by decide) (zg_ne eh_14 (by decide) h87))))), (zg_ne eh_18 (by decide) (zg_eq eh_17 (zg_eq eh_16 (zg_eq eh_15 (zg_ne eh_14 (by decide) h88))))), (zg_ne eh_18 (by decide) (zg_ne eh_17 (by decide) (zg_ne eh_16 (by decide) (zg_ne eh_15 (by decide) (zg_ne eh_14 (by decide) h89))))), (zg_ne eh_18 (by decide) (zg_ne eh_17 (by decide) (zg_ne eh_16 (by decide) (zg_ne eh_15 (by decide) (zg_ne eh_14 (by decide) h90))))), (zg_ne eh_18 (by decide) (zg_ne eh_17 (by decide) (zg_ne eh_16 (by decide) (zg_ne eh_15 (by decide) (zg_ne eh_14 (by decide) h91))))), (zg_ne eh_18 (by decide) (zg_ne eh_17 (by decide) (zg_ne eh_16 (by decide) (zg_ne eh_15 (by decide) (zg_ne eh_14 (by decide) h92))))), (zg_ne eh_18 (by decide) (zg_ne eh_17 (by decide) (zg_ne eh_16 (by decide) (zg_ne eh_15 (by decide) (zg_ne eh_14 (by decide) h93))))), ⟨_, (zg_ne eh_18 (by decide) (zg_ne eh_17 (by decide) (zg_ne eh_16 (by decide) (zg_ne eh_15 (by decide) (zg_ne eh_14 (by decide) h94)))))⟩, (zg_ne eh_18 (by decide) (zg_ne eh_17 (by decide) (zg_ne eh_16 (by decide) (zg_ne eh_15 (by decide) (zg_ne eh_14 (by decide) h95))))), (zg_ne eh_18 (by decide) (zg_ne eh_17 (by decide) (zg_ne eh_16 (by decide) (zg_ne eh_15 (by decide) (zg_ne eh_14 (by decide) h96))))), (zg_ne eh_18 (by decide) (zg_ne eh_17 (by decide) (zg_ne eh_16 (by decide) (zg_ne eh_15 (by decide) (zg_ne eh_14 (by decide) h97))))), (zg_ne eh_18 (by decide) (zg_ne eh_17 (by decide) (zg_ne eh_16 (by decide) (zg_ne eh_15 (by decide) (zg_ne eh_14 (by decide) h98))))), (zg_ne eh_18 (by decide) (zg_ne eh_17 (by decide) (zg_ne eh_16 (by decide) (zg_ne eh_15 (by decide) (zg_ne eh_14 (by decide) h99))))), ⟨_, (zg_ne eh_18 (by decide) (zg_ne eh_17 (by decide) (zg_ne eh_16 (by decide) (zg_ne eh_15 (by decide) (zg_ne eh_14 (by decide) h100)))))⟩, ⟨_, (zg_ne eh_18 (by decide) (zg_ne eh_17 (by decide) (zg_ne eh_16 (by decide) (zg_ne eh_15 (by decide) (zg_ne eh_14 (by decide) h101)))))⟩, ⟨_, (zg_ne eh_18 (by decide) (zg_ne eh_17 (by decide) (zg_ne eh_16 (by decide) (zg_ne eh_15 (by decide) (zg_ne eh_14 (by decide) h102)))))⟩, ⟨_, (zg_ne eh_18 (by decide) (zg_ne eh_17 (by decide) (zg_ne eh_16 (by decide) (zg_ne eh_15 (by decide) (zg_ne eh_14 (by decide) h103)))))⟩⟩⟩)⟩
            · exact absurd (show (0 : Int32) ≤ 0 by decide) q_t
          · refine pw_iconst (x := 2) d_Md_direction_35 (by decide) ?_
            refine pw_goto 40 d_Md_direction_36 (by decide) ?_
            obtain ⟨h_19, eh_19⟩ : ∃ x_9, x_9 = List.set h (84) (.inr (6, [.int (2), .ref 85, .int (nI jn), .ref 86, .ref 87, .int (nI dr), .ref 88, .ref 89, .int (nI pn), .ref 90, .ref 91, .ref 92, .ref 93, .ref 94, .int (nI bl), .ref 95, .ref 96, .ref 97, .int (nI tn), .ref 98, .ref 99, .ref 100, .ref 101, .ref 102, .ref 103])) := ⟨_, rfl⟩
            refine pw_put rfl d_Md_direction_40 (fp_Md_75 _ _) hm (Nat.le_of_ble_eq_true rfl) (fun _ => ⟨rfl, rfl⟩) eh_19.symm ?_
            refine pw_aload_n d_Md_direction_43 rfl rfl ?_
            refine pw_get d_Md_direction_44 fl_Md_75 (zg_eq eh_19 hm) rfl ?_
            refine pw_if_le 52 d_Md_direction_47 (by decide) (fun q_t => ?_) (fun q_t => ?_)
            · exact absurd q_t (by decide)
            · refine pw_iconst (x := 0) d_Md_direction_50 (by decide) ?_
              refine pw_ireturn d_Md_direction_51 rfl (by decide) (by decide) ?_
              have e8 : dr = 8 := (nI_eq (b := 8) (by omega) (by decide)).mp q_8
              exact ⟨_, rfl, (zsm_st zsm_rf eh_19 (zMP_in (by decide) (by decide))), Or.inr (Or.inl ⟨⟨z1 q_i, fun z => q_3 z.2.2⟩, e8, ⟨(zg_eq eh_19 hm), (zg_ne eh_19 (by decide) h85), (zg_ne eh_19 (by decide) h86), (zg_ne eh_19 (by decide) h87), (zg_ne eh_19 (by decide) h88), (zg_ne eh_19 (by decide) h89), (zg_ne eh_19 (by decide) h90), (zg_ne eh_19 (by decide) h91), (zg_ne eh_19 (by decide) h92), (zg_ne eh_19 (by decide) h93), ⟨_, (zg_ne eh_19 (by decide) h94)⟩, (zg_ne eh_19 (by decide) h95), (zg_ne eh_19 (by decide) h96), (zg_ne eh_19 (by decide) h97), (zg_ne eh_19 (by decide) h98), (zg_ne eh_19 (by decide) h99), ⟨_, (zg_ne eh_19 (by decide) h100)⟩, ⟨_, (zg_ne eh_19 (by decide) h101)⟩, ⟨_, (zg_ne eh_19 (by decide) h102)⟩, ⟨_, (zg_ne eh_19 (by decide) h103)⟩⟩⟩)⟩
        · refine pw_iconst (x := 1) d_Md_direction_22 (by decide) ?_
          refine pw_goto 40 d_Md_direction_23 (by decide) ?_
          obtain ⟨h_20, eh_20⟩ : ∃ x_9, x_9 = List.set h (84) (.inr (6, [.int (1), .ref 85, .int (nI jn), .ref 86, .ref 87, .int (nI dr), .ref 88, .ref 89, .int (nI pn), .ref 90, .ref 91, .ref 92, .ref 93, .ref 94, .int (nI bl), .ref 95, .ref 96, .ref 97, .int (nI tn), .ref 98, .ref 99, .ref 100, .ref 101, .ref 102, .ref 103])) := ⟨_, rfl⟩
          refine pw_put rfl d_Md_direction_40 (fp_Md_75 _ _) hm (Nat.le_of_ble_eq_true rfl) (fun _ => ⟨rfl, rfl⟩) eh_20.symm ?_
          refine pw_aload_n d_Md_direction_43 rfl rfl ?_
          refine pw_get d_Md_direction_44 fl_Md_75 (zg_eq eh_20 hm) rfl ?_
          refine pw_if_le 52 d_Md_direction_47 (by decide) (fun q_t => ?_) (fun q_t => ?_)
          · exact absurd q_t (by decide)
          · refine pw_iconst (x := 0) d_Md_direction_50 (by decide) ?_
            refine pw_ireturn d_Md_direction_51 rfl (by decide) (by decide) ?_
            exact ⟨_, rfl, (zsm_st zsm_rf eh_20 (zMP_in (by decide) (by decide))), Or.inl ⟨fun z => z.2 ⟨q_1, q_2, q_3⟩, ⟨(zg_eq eh_20 hm), (zg_ne eh_20 (by decide) h85), (zg_ne eh_20 (by decide) h86), (zg_ne eh_20 (by decide) h87), (zg_ne eh_20 (by decide) h88), (zg_ne eh_20 (by decide) h89), (zg_ne eh_20 (by decide) h90), (zg_ne eh_20 (by decide) h91), (zg_ne eh_20 (by decide) h92), (zg_ne eh_20 (by decide) h93), ⟨_, (zg_ne eh_20 (by decide) h94)⟩, (zg_ne eh_20 (by decide) h95), (zg_ne eh_20 (by decide) h96), (zg_ne eh_20 (by decide) h97), (zg_ne eh_20 (by decide) h98), (zg_ne eh_20 (by decide) h99), ⟨_, (zg_ne eh_20 (by decide) h100)⟩, ⟨_, (zg_ne eh_20 (by decide) h101)⟩, ⟨_, (zg_ne eh_20 (by decide) h102)⟩, ⟨_, (zg_ne eh_20 (by decide) h103)⟩⟩⟩⟩
/-- the first n places 0 -/
theorem zcl_at {n k : Nat} {a : Nat → Int32} (h : k < n) : zcl n a k = 0 := if_pos h
set_option maxRecDepth 20000 in
set_option maxHeartbeats 2000000 in
theorem l_back {G : zG} {h0 : zH} {jn dr pn bl : Nat} {ms ml mo mT mp pt po pa pw bs bf tk tB tY : Nat → Int32} {tn : Nat} (hbl : bl ≤ 64) : ∀ (n i : Nat) (h : zH), bl - i < n → i ≤ bl → zsm zMP h0 h → rAll h 0 jn dr pn bl 0 ms ml mo mT mp pt po pa pw bs bf (zcl i tk) tB tY → PW G M_Md_back (zroom 0 0 0) false (fun r h' => ∃ t : Int32, r = .inl (some (.int t)) ∧ zsm zMP h0 h' ∧ t = nI tn ∧ rAll h' 0 jn dr pn bl 0 ms ml mo mT mp pt po pa pw bs bf (zcl bl tk) tB tY) 17 [some (.ref 84), some (.int (nI tn)), some (.int (nI i))] [] h 0 0 := by
  intro n
  induction n with
  | zero => intro i h hn; exact absurd hn (Nat.not_lt_zero _)
  | succ n ih =>
    intro i h hn hi hz hA
    obtain ⟨hm, h85, h86, h87, h88, h89, h90, h91, h92, h93, ⟨w94, h94⟩, h95, h96, h97, h98, h99, ⟨w100, h100⟩, ⟨w101, h101⟩, ⟨w102, h102⟩, ⟨w103, h103⟩⟩ := id hA
    refine pw_iload_n d_Md_back_17 rfl rfl ?_
    refine pw_aload_n d_Md_back_18 rfl rfl ?_
    refine pw_get d_Md_back_19 fl_Md_111 hm rfl ?_
    refine pw_icmp_ge 38 d_Md_back_22 (by decide) (fun q_c => ?_) (fun q_c => ?_)
    · refine pw_iload_n d_Md_back_38 rfl rfl ?_
      refine pw_ireturn d_Md_back_39 rfl (by decide) (by decide) ?_
      have hic : i = bl := by have := (nI_leI (a := bl) (b := i) (by omega) (by omega)).mp q_c; omega
      subst hic
      exact ⟨_, rfl, hz, rfl, hA⟩
    · have hic : i < bl := by have := mt (nI_leI (a := bl) (b := i) (by omega) (by omega)).mpr q_c; omega
      refine pw_aload_n d_Md_back_25 rfl rfl ?_
      refine pw_get d_Md_back_26 fl_Md_47 hm rfl ?_
      refine pw_iload_n d_Md_back_29 rfl rfl ?_
      refine pw_iconst (x := 0) d_Md_back_30 (by decide) ?_
      obtain ⟨h_1, eh_1⟩ : ∃ x_9, x_9 = List.set h (97) (.inl (1, 64, .inl (upd (zcl i tk) i (0)))) := ⟨_, rfl⟩
      refine pw_zast rfl d_Md_back_31 h97 rfl rfl (by omega) (by decide) (Or.inl rfl) eh_1.symm ?_
      refine pw_iinc (y := nI (i + 1)) d_Md_back_32 rfl (nI_1 i) (by decide) (pl' := [some (.ref 84), some (.int (nI tn)), some (.int (nI (i + 1)))]) rfl ?_
      refine pw_goto 17 d_Md_back_35 (by decide) ?_
      refine ih (i + 1) _ (by omega) (by omega) (zsm_st hz eh_1 (zMP_in (by decide) (by decide))) ?_
      rw [← zcl_s]
      exact ⟨(zg_ne eh_1 (by decide) hm), (zg_ne eh_1 (by decide) h85), (zg_ne eh_1 (by decide) h86), (zg_ne eh_1 (by decide) h87), (zg_ne eh_1 (by decide) h88), (zg_ne eh_1 (by decide) h89), (zg_ne eh_1 (by decide) h90), (zg_ne eh_1 (by decide) h91), (zg_ne eh_1 (by decide) h92), (zg_ne eh_1 (by decide) h93), ⟨_, (zg_ne eh_1 (by decide) h94)⟩, (zg_ne eh_1 (by decide) h95), (zg_ne eh_1 (by decide) h96), (zg_eq eh_1 h97), (zg_ne eh_1 (by decide) h98), (zg_ne eh_1 (by decide) h99), ⟨_, (zg_ne eh_1 (by decide) h100)⟩, ⟨_, (zg_ne eh_1 (by decide) h101)⟩, ⟨_, (zg_ne eh_1 (by decide) h102)⟩, ⟨_, (zg_ne eh_1 (by decide) h103)⟩⟩
set_option maxRecDepth 20000 in
set_option maxHeartbeats 2000000 in
theorem p_back {G : zG} {h : zH} {th : Int32} {jn dr pn bl tn : Nat} {ms ml mo mT mp pt po pa pw bs bf tk tB tY : Nat → Int32} (hA : rAll h th jn dr pn bl tn ms ml mo mT mp pt po pa pw bs bf tk tB tY) (hbl : bl ≤ 64) : PW G M_Md_back (zroom 0 0 0) false (fun r h' => ∃ t : Int32, r = .inl (some (.int t)) ∧ zsm zMP h h' ∧ t = nI tn ∧ rAll h' 0 jn dr pn bl 0 ms ml mo mT mp pt po pa pw bs bf (zcl bl tk) tB tY) 0 (zentry 3 [.ref 84]) [] h 0 0 := by
  show PW G M_Md_back (zroom 0 0 0) false _ 0 [some (.ref 84), none, none] [] h 0 0
  obtain ⟨hm, h85, h86, h87, h88, h89, h90, h91, h92, h93, ⟨w94, h94⟩, h95, h96, h97, h98, h99, ⟨w100, h100⟩, ⟨w101, h101⟩, ⟨w102, h102⟩, ⟨w103, h103⟩⟩ := hA
  refine pw_aload_n d_Md_back_0 rfl rfl ?_
  refine pw_iconst (x := 0) d_Md_back_1 (by decide) ?_
  obtain ⟨h_1, eh_1⟩ : ∃ x_9, x_9 = List.set h (84) (.inr (6, [.int (0), .ref 85, .int (nI jn), .ref 86, .ref 87, .int (nI dr), .ref 88, .ref 89, .int (nI pn), .ref 90, .ref 91, .ref 92, .ref 93, .ref 94, .int (nI bl), .ref 95, .ref 96, .ref 97, .int (nI tn), .ref 98, .ref 99, .ref 100, .ref 101, .ref 102, .ref 103])) := ⟨_, rfl⟩
  refine pw_put rfl d_Md_back_2 (fp_Md_75 _ _) hm (Nat.le_of_ble_eq_true rfl) (fun _ => ⟨rfl, rfl⟩) eh_1.symm ?_
  refine pw_aload_n d_Md_back_5 rfl rfl ?_
  refine pw_get d_Md_back_6 fl_Md_114 (zg_eq eh_1 hm) rfl ?_
  refine pw_istore_n d_Md_back_9 rfl (by decide) (pl' := [some (.ref 84), some (.int (nI tn)), none]) rfl ?_
  refine pw_aload_n d_Md_back_10 rfl rfl ?_
  refine pw_iconst (x := 0) d_Md_back_11 (by decide) ?_
  obtain ⟨h_2, eh_2⟩ : ∃ x_9, x_9 = List.set h_1 (84) (.inr (6, [.int (0), .ref 85, .int (nI jn), .ref 86, .ref 87, .int (nI dr), .ref 88, .ref 89, .int (nI pn), .ref 90, .ref 91, .ref 92, .ref 93, .ref 94, .int (nI bl), .ref 95, .ref 96, .ref 97, .int (0), .ref 98, .ref 99, .ref 100, .ref 101, .ref 102, .ref 103])) := ⟨_, rfl⟩
  refine pw_put rfl d_Md_back_12 (fp_Md_114 _ _) (zg_eq eh_1 hm) (Nat.le_of_ble_eq_true rfl) (fun _ => ⟨rfl, rfl⟩) eh_2.symm ?_
  refine pw_iconst (x := 0) d_Md_back_15 (by decide) ?_
  refine pw_istore_n d_Md_back_16 rfl (by decide) (pl' := [some (.ref 84), some (.int (nI tn)), some (.int (0))]) rfl ?_
  exact l_back hbl (bl + 1) 0 _ (by omega) (by omega) (zsm_st (zsm_st zsm_rf eh_1 (zMP_in (by decide) (by decide))) eh_2 (zMP_in (by decide) (by decide))) (by rw [zcl_0]; exact ⟨(zg_eq eh_2 (zg_eq eh_1 hm)), (zg_ne eh_2 (by decide) (zg_ne eh_1 (by decide) h85)), (zg_ne eh_2 (by decide) (zg_ne eh_1 (by decide) h86)), (zg_ne eh_2 (by decide) (zg_ne eh_1 (by decide) h87)), (zg_ne eh_2 (by decide) (zg_ne eh_1 (by decide) h88)), (zg_ne eh_2 (by decide) (zg_ne eh_1 (by decide) h89)), (zg_ne eh_2 (by decide) (zg_ne eh_1 (by decide) h90)), (zg_ne eh_2 (by decide) (zg_ne eh_1 (by decide) h91)), (zg_ne eh_2 (by decide) (zg_ne eh_1 (by decide) h92)), (zg_ne eh_2 (by decide) (zg_ne eh_1 (by decide) h93)), ⟨_, (zg_ne eh_2 (by decide) (zg_ne eh_1 (by decide) h94))⟩, (zg_ne eh_2 (by decide) (zg_ne eh_1 (by decide) h95)), (zg_ne eh_2 (by decide) (zg_ne eh_1 (by decide) h96)), (zg_ne eh_2 (by decide) (zg_ne eh_1 (by decide) h97)), (zg_ne eh_2 (by decide) (zg_ne eh_1 (by decide) h98)), (zg_ne eh_2 (by decide) (zg_ne eh_1 (by decide) h99)), ⟨_, (zg_ne eh_2 (by decide) (zg_ne eh_1 (by decide) h100))⟩, ⟨_, (zg_ne eh_2 (by decide) (zg_ne eh_1 (by decide) h101))⟩, ⟨_, (zg_ne eh_2 (by decide) (zg_ne eh_1 (by decide) h102))⟩, ⟨_, (zg_ne eh_2 (by decide) (zg_ne eh_1 (by decide) h103))⟩⟩)
theorem zrg {k : Int32} {n : Nat} (hn : n ≤ 64) : (0 ≤ k ∧ k ≤ nI n - 1) ↔ ∃ i, i < n ∧ k = nI i := by
  have e0 : (0 : Int32).toInt = 0 := by decide
  have e1 : (nI n - 1).toInt = (n : Int) - 1 := by
    rw [Int32.toInt_sub, nI_toInt (by omega), show (1 : Int32).toInt = 1 from by decide]
    exact Int.bmod_eq_of_le (by omega) (by omega)
  rw [Int32.le_iff_toInt_le, Int32.le_iff_toInt_le, e0, e1]
  constructor
  · rintro ⟨h1, h2⟩
    refine ⟨k.toInt.toNat, by omega, Int32.toInt_inj.mp ?_⟩
    rw [nI_toInt (by omega)]
    omega
  · rintro ⟨i, h1, rfl⟩
    rw [nI_toInt (by omega)]
    omega
theorem z011 {w : Int32} (h : 0 ≤ w ∧ w ≤ 1) : w = 0 ∨ w = 1 := by
  obtain ⟨h1, h2⟩ := h
  rw [Int32.le_iff_toInt_le] at h1 h2
  have e0 : (0 : Int32).toInt = 0 := by decide
  have e1 : (1 : Int32).toInt = 1 := by decide
  simp only [← Int32.toInt_inj]
  omega
set_option maxRecDepth 20000 in
set_option maxHeartbeats 2000000 in
theorem p_taken {G : zG} {h : zH} {th : Int32} {jn dr pn bl tn : Nat} {ms ml mo mT mp pt po pa pw bs bf tk tB tY : Nat → Int32} (hA : rAll h th jn dr pn bl tn ms ml mo mT mp pt po pa pw bs bf tk tB tY) {k w : Int32} (htn : tn ≤ 64) : PW G M_Md_taken (zroom 1 0 0) false (fun r h' => ∃ t : Int32, r = .inl (some (.int t)) ∧ zsm zMP h h' ∧ ((¬ ((∃ i, i < tn ∧ k = nI i) ∧ 0 ≤ w ∧ w ≤ 1) ∧ rAll h' 1 jn dr pn bl tn ms ml mo mT mp pt po pa pw bs bf tk tB tY) ∨ (∃ i, i < tn ∧ k = nI i ∧ ((w = 0 ∧ t = tB i) ∨ (w = 1 ∧ t = tY i)) ∧ rAll h' 0 jn dr pn bl tn ms ml mo mT mp pt po pa pw bs bf tk tB tY))) 0 (zentry 3 [.ref 84, .int (k), .int (w)]) [] h 0 0 := by
  show PW G M_Md_taken (zroom 1 0 0) false _ 0 [some (.ref 84), some (.int (k)), some (.int (w))] [] h 0 0
  obtain ⟨hm, h85, h86, h87, h88, h89, h90, h91, h92, h93, ⟨w94, h94⟩, h95, h96, h97, h98, h99, ⟨w100, h100⟩, ⟨w101, h101⟩, ⟨w102, h102⟩, ⟨w103, h103⟩⟩ := hA
  refine pw_aload_n d_Md_taken_0 rfl rfl ?_
  refine pw_iload_n d_Md_taken_1 rfl rfl ?_
  refine pw_iconst (x := 0) d_Md_taken_2 (by decide) ?_
  refine pw_aload_n d_Md_taken_3 rfl rfl ?_
  refine pw_get d_Md_taken_4 fl_Md_114 hm rfl ?_
  refine pw_iconst (x := 1) d_Md_taken_7 (by decide) ?_
  refine pw_isub d_Md_taken_8 ?_
  refine pw_callS1 (R' := (zroom 0 0 0)) (h2 := h) [.int (k), .int (0), .int ((nI tn - 1))] (fun q => nomatch q) d_Md_taken_9 lk_Md_131 rfl rfl c_in ?_
  refine pw_if_eq 28 d_Md_taken_12 (by decide) (fun q_i => ?_) (fun q_i => ?_)
  · refine pw_iconst (x := 1) d_Md_taken_28 (by decide) ?_
    obtain ⟨h_1, eh_1⟩ : ∃ x_9, x_9 = List.set h (84) (.inr (6, [.int (1), .ref 85, .int (nI jn), .ref 86, .ref 87, .int (nI dr), .ref 88, .ref 89, .int (nI pn), .ref 90, .ref 91, .ref 92, .ref 93, .ref 94, .int (nI bl), .ref 95, .ref 96, .ref 97, .int (nI tn), .ref 98, .ref 99, .ref 100, .ref 101, .ref 102, .ref 103])) := ⟨_, rfl⟩
    refine pw_put rfl d_Md_taken_29 (fp_Md_75 _ _) hm (Nat.le_of_ble_eq_true rfl) (fun _ => ⟨rfl, rfl⟩) eh_1.symm ?_
    refine pw_aload_n d_Md_taken_32 rfl rfl ?_
    refine pw_get d_Md_taken_33 fl_Md_75 (zg_eq eh_1 hm) rfl ?_
    refine pw_if_le 43 d_Md_taken_36 (by decide) (fun q_t => ?_) (fun q_t => ?_)
    · exact absurd q_t (by decide)
    · refine pw_iconst (x := 0) d_Md_taken_39 (by decide) ?_
      refine pw_goto 62 d_Md_taken_40 (by decide) ?_
      refine pw_ireturn d_Md_taken_62 rfl (by decide) (by decide) ?_
      exact ⟨_, rfl, (zsm_st zsm_rf eh_1 (zMP_in (by decide) (by decide))), Or.inl ⟨fun z => z0 q_i ((zrg htn).mpr z.1), ⟨(zg_eq eh_1 hm), (zg_ne eh_1 (by decide) h85), (zg_ne eh_1 (by decide) h86), (zg_ne eh_1 (by decide) h87), (zg_ne eh_1 (by decide) h88), (zg_ne eh_1 (by decide) h89), (zg_ne eh_1 (by decide) h90), (zg_ne eh_1 (by decide) h91), (zg_ne eh_1 (by decide) h92), (zg_ne eh_1 (by decide) h93), ⟨_, (zg_ne eh_1 (by decide) h94)⟩, (zg_ne eh_1 (by decide) h95), (zg_ne eh_1 (by decide) h96), (zg_ne eh_1 (by decide) h97), (zg_ne eh_1 (by decide) h98), (zg_ne eh_1 (by decide) h99), ⟨_, (zg_ne eh_1 (by decide) h100)⟩, ⟨_, (zg_ne eh_1 (by decide) h101)⟩, ⟨_, (zg_ne eh_1 (by decide) h102)⟩, ⟨_, (zg_ne eh_1 (by decide) h103)⟩⟩⟩⟩
  · refine pw_iload_n d_Md_taken_15 rfl rfl ?_
    refine pw_iconst (x := 0) d_Md_taken_16 (by decide) ?_
    refine pw_iconst (x := 1) d_Md_taken_17 (by decide) ?_
    refine pw_callS1 (R' := (zroom 0 0 0)) (h2 := h) [.int (w), .int (0), .int (1)] (fun q => nomatch q) d_Md_taken_18 lk_Md_131 rfl rfl c_in ?_
    refine pw_if_eq 28 d_Md_taken_21 (by decide) (fun q_j => ?_) (fun q_j => ?_)
    · refine pw_iconst (x := 1) d_Md_taken_28 (by decide) ?_
      obtain ⟨h_2, eh_2⟩ : ∃ x_9, x_9 = List.set h (84) (.inr (6, [.int (1), .ref 85, .int (nI jn), .ref 86, .ref 87, .int (nI dr), .ref 88, .ref 89, .int (nI pn), .ref 90, .ref 91, .ref 92, .ref 93, .ref 94, .int (nI bl), .ref 95, .ref 96, .ref 97, .int (nI tn), .ref 98, .ref 99, .ref 100, .ref 101, .ref 102, .ref 103])) := ⟨_, rfl⟩
      refine pw_put rfl d_Md_taken_29 (fp_Md_75 _ _) hm (Nat.le_of_ble_eq_true rfl) (fun _ => ⟨rfl, rfl⟩) eh_2.symm ?_
      refine pw_aload_n d_Md_taken_32 rfl rfl ?_
      refine pw_get d_Md_taken_33 fl_Md_75 (zg_eq eh_2 hm) rfl ?_
      refine pw_if_le 43 d_Md_taken_36 (by decide) (fun q_t => ?_) (fun q_t => ?_)
      · exact absurd q_t (by decide)
      · refine pw_iconst (x := 0) d_Md_taken_39 (by decide) ?_
        refine pw_goto 62 d_Md_taken_40 (by decide) ?_
        refine pw_ireturn d_Md_taken_62 rfl (by decide) (by decide) ?_
        exact ⟨_, rfl, (zsm_st zsm_rf eh_2 (zMP_in (by decide) (by decide))), Or.inl ⟨fun z => z0 q_j z.2, ⟨(zg_eq eh_2 hm), (zg_ne eh_2 (by decide) h85), (zg_ne eh_2 (by decide) h86), (zg_ne eh_2 (by decide) h87), (zg_ne eh_2 (by decide) h88), (zg_ne eh_2 (by decide) h89), (zg_ne eh_2 (by decide) h90), (zg_ne eh_2 (by decide) h91), (zg_ne eh_2 (by decide) h92), (zg_ne eh_2 (by decide) h93), ⟨_, (zg_ne eh_2 (by decide) h94)⟩, (zg_ne eh_2 (by decide) h95), (zg_ne eh_2 (by decide) h96), (zg_ne eh_2 (by decide) h97), (zg_ne eh_2 (by decide) h98), (zg_ne eh_2 (by decide) h99), ⟨_, (zg_ne eh_2 (by decide) h100)⟩, ⟨_, (zg_ne eh_2 (by decide) h101)⟩, ⟨_, (zg_ne eh_2 (by decide) h102)⟩, ⟨_, (zg_ne eh_2 (by decide) h103)⟩⟩⟩⟩
    · refine pw_iconst (x := 0) d_Md_taken_24 (by decide) ?_
      refine pw_goto 29 d_Md_taken_25 (by decide) ?_
      obtain ⟨h_3, eh_3⟩ : ∃ x_9, x_9 = List.set h (84) (.inr (6, [.int (0), .ref 85, .int (nI jn), .ref 86, .ref 87, .int (nI dr), .ref 88, .ref 89, .int (nI pn), .ref 90, .ref 91, .ref 92, .ref 93, .ref 94, .int (nI bl), .ref 95, .ref 96, .ref 97, .int (nI tn), .ref 98, .ref 99, .ref 100, .ref 101, .ref 102, .ref 103])) := ⟨_, rfl⟩
      refine pw_put rfl d_Md_taken_29 (fp_Md_75 _ _) hm (Nat.le_of_ble_eq_true rfl) (fun _ => ⟨rfl, rfl⟩) eh_3.symm ?_
      refine pw_aload_n d_Md_taken_32 rfl rfl ?_
      refine pw_get d_Md_taken_33 fl_Md_75 (zg_eq eh_3 hm) rfl ?_
      refine pw_if_le 43 d_Md_taken_36 (by decide) (fun q_t => ?_) (fun q_t => ?_)
      · obtain ⟨i, hi, rfl⟩ := (zrg htn).mp (z1 q_i)
        refine pw_iload_n d_Md_taken_43 rfl rfl ?_
        refine pw_if_ne 56 d_Md_taken_44 (by decide) (fun q_w => ?_) (fun q_w => ?_)
        · refine pw_aload_n d_Md_taken_56 rfl rfl ?_
          refine pw_get d_Md_taken_57 fl_Md_53 (zg_eq eh_3 hm) rfl ?_
          refine pw_iload_n d_Md_taken_60 rfl rfl ?_
          refine pw_iald d_Md_taken_61 (zg_ne eh_3 (by decide) h99) rfl rfl (by omega) (by decide) ?_
          refine pw_ireturn d_Md_taken_62 rfl (by decide) (by decide) ?_
          have q_1 : w = 1 := (z011 (z1 q_j)).resolve_left q_w
          exact ⟨_, rfl, (zsm_st zsm_rf eh_3 (zMP_in (by decide) (by decide))), Or.inr ⟨i, hi, rfl, Or.inr ⟨q_1, rfl⟩, ⟨(zg_eq eh_3 hm), (zg_ne eh_3 (by decide) h85), (zg_ne eh_3 (by decide) h86), (zg_ne eh_3 (by decide) h87), (zg_ne eh_3 (by decide) h88), (zg_ne eh_3 (by decide) h89), (zg_ne eh_3 (by decide) h90), (zg_ne eh_3 (by decide) h91), (zg_ne eh_3 (by decide) h92), (zg_ne eh_3 (by decide) h93), ⟨_, (zg_ne eh_3 (by decide) h94)⟩, (zg_ne eh_3 (by decide) h95), (zg_ne eh_3 (by decide) h96), (zg_ne eh_3 (by decide) h97), (zg_ne eh_3 (by decide) h98), (zg_ne eh_3 (by decide) h99), ⟨_, (zg_ne eh_3 (by decide) h100)⟩, ⟨_, (zg_ne eh_3 (by decide) h101)⟩, ⟨_, (zg_ne eh_3 (by decide) h102)⟩, ⟨_, (zg_ne eh_3 (by decide) h103)⟩⟩⟩⟩
        · refine pw_aload_n d_Md_taken_47 rfl rfl ?_
          refine pw_get d_Md_taken_48 fl_Md_50 (zg_eq eh_3 hm) rfl ?_
          refine pw_iload_n d_Md_taken_51 rfl rfl ?_
          refine pw_iald d_Md_taken_52 (zg_ne eh_3 (by decide) h98) rfl rfl (by omega) (by decide) ?_
          refine pw_goto 62 d_Md_taken_53 (by decide) ?_
          refine pw_ireturn d_Md_taken_62 rfl (by decide) (by decide) ?_
          exact ⟨_, rfl, (zsm_st zsm_rf eh_3 (zMP_in (by decide) (by decide))), Or.inr ⟨i, hi, rfl, Or.inl ⟨q_w, rfl⟩, ⟨(zg_eq eh_3 hm), (zg_ne eh_3 (by decide) h85), (zg_ne eh_3 (by decide) h86), (zg_ne eh_3 (by decide) h87), (zg_ne eh_3 (by decide) h88), (zg_ne eh_3 (by decide) h89), (zg_ne eh_3 (by decide) h90), (zg_ne eh_3 (by decide) h91), (zg_ne eh_3 (by decide) h92), (zg_ne eh_3 (by decide) h93), ⟨_, (zg_ne eh_3 (by decide) h94)⟩, (zg_ne eh_3 (by decide) h95), (zg_ne eh_3 (by decide) h96), (zg_ne eh_3 (by decide) h97), (zg_ne eh_3 (by decide) h98), (zg_ne eh_3 (by decide) h99), ⟨_, (zg_ne eh_3 (by decide) h100)⟩, ⟨_, (zg_ne eh_3 (by decide) h101)⟩, ⟨_, (zg_ne eh_3 (by decide) h102)⟩, ⟨_, (zg_ne eh_3 (by decide) h103)⟩⟩⟩⟩
      · exact absurd (show (0 : Int32) ≤ 0 by decide) q_t
