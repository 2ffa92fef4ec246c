set_option maxRecDepth 20000 in
set_option maxHeartbeats 2000000 in
theorem c_Points_add {G : zG} {h : zH} {c : Nat} {x y z q a b : Nat → Int32} (hp : zPt h c x y z q a b) (hc : c < 220) {px py pz pq : Int32} : PW G M_Points_add (zroom 0 0 0) false (fun r h' => r = .inl none ∧ zPt h' (c + 1) (upd x c px) (upd y c py) (upd z c pz) (upd q c pq) (upd a c 0) (upd b c 0) ∧ zsm [36, 37, 38, 39, 40, 41, 42] h h') 0 (zentry 5 [.ref 36, .int (px), .int (py), .int (pz), .int (pq)]) [] h 0 0 := by
  show PW G M_Points_add (zroom 0 0 0) false _ 0 [some (.ref 36), some (.int (px)), some (.int (py)), some (.int (pz)), some (.int (pq))] [] h 0 0
  refine pw_aload_n d_Points_add_0 rfl rfl ?_
  refine pw_get d_Points_add_1 fl_Points_28 hp.1 rfl ?_
  refine pw_sipush (x := 220) d_Points_add_4 (by decide) ?_
  refine pw_icmp_ge 81 d_Points_add_7 (by decide) (fun q => absurd q (nI_ge (b := 220) hc (by decide))) (fun _ => ?_)
  refine pw_aload_n d_Points_add_10 rfl rfl ?_
  refine pw_get d_Points_add_11 fl_Points_9 hp.1 rfl ?_
  refine pw_aload_n d_Points_add_14 rfl rfl ?_
  refine pw_get d_Points_add_15 fl_Points_28 hp.1 rfl ?_
  refine pw_iload_n d_Points_add_18 rfl rfl ?_
  obtain ⟨h_1, eh_1⟩ : ∃ x_9, x_9 = List.set h (37) (.inl (0, 220, .inl (upd x c (px)))) := ⟨_, rfl⟩
  refine pw_iast rfl d_Points_add_19 hp.2.1 rfl rfl hc (by decide) eh_1.symm ?_
  refine pw_aload_n d_Points_add_20 rfl rfl ?_
  refine pw_get d_Points_add_21 fl_Points_13 (zg_ne eh_1 (by decide) hp.1) rfl ?_
  refine pw_aload_n d_Points_add_24 rfl rfl ?_
  refine pw_get d_Points_add_25 fl_Points_28 (zg_ne eh_1 (by decide) hp.1) rfl ?_
  refine pw_iload_n d_Points_add_28 rfl rfl ?_
  obtain ⟨h_2, eh_2⟩ : ∃ x_9, x_9 = List.set h_1 (38) (.inl (0, 220, .inl (upd y c (py)))) := ⟨_, rfl⟩
  refine pw_iast rfl d_Points_add_29 (zg_ne eh_1 (by decide) hp.2.2.1) rfl rfl hc (by decide) eh_2.symm ?_
  refine pw_aload_n d_Points_add_30 rfl rfl ?_
  refine pw_get d_Points_add_31 fl_Points_16 (zg_ne eh_2 (by decide) (zg_ne eh_1 (by decide) hp.1)) rfl ?_
  refine pw_aload_n d_Points_add_34 rfl rfl ?_
  refine pw_get d_Points_add_35 fl_Points_28 (zg_ne eh_2 (by decide) (zg_ne eh_1 (by decide) hp.1)) rfl ?_
  refine pw_iload_n d_Points_add_38 rfl rfl ?_
  obtain ⟨h_3, eh_3⟩ : ∃ x_9, x_9 = List.set h_2 (39) (.inl (0, 220, .inl (upd z c (pz)))) := ⟨_, rfl⟩
  refine pw_iast rfl d_Points_add_39 (zg_ne eh_2 (by decide) (zg_ne eh_1 (by decide) hp.2.2.2.1)) rfl rfl hc (by decide) eh_3.symm ?_
  refine pw_aload_n d_Points_add_40 rfl rfl ?_
  refine pw_get d_Points_add_41 fl_Points_19 (zg_ne eh_3 (by decide) (zg_ne eh_2 (by decide) (zg_ne eh_1 (by decide) hp.1))) rfl ?_
  refine pw_aload_n d_Points_add_44 rfl rfl ?_
  refine pw_get d_Points_add_45 fl_Points_28 (zg_ne eh_3 (by decide) (zg_ne eh_2 (by decide) (zg_ne eh_1 (by decide) hp.1))) rfl ?_
  refine pw_iload d_Points_add_48 rfl ?_
  obtain ⟨h_4, eh_4⟩ : ∃ x_9, x_9 = List.set h_3 (40) (.inl (0, 220, .inl (upd q c (pq)))) := ⟨_, rfl⟩
  refine pw_iast rfl d_Points_add_50 (zg_ne eh_3 (by decide) (zg_ne eh_2 (by decide) (zg_ne eh_1 (by decide) hp.2.2.2.2.1))) rfl rfl hc (by decide) eh_4.symm ?_
  refine pw_aload_n d_Points_add_51 rfl rfl ?_
  refine pw_get d_Points_add_52 fl_Points_22 (zg_ne eh_4 (by decide) (zg_ne eh_3 (by decide) (zg_ne eh_2 (by decide) (zg_ne eh_1 (by decide) hp.1)))) rfl ?_
  refine pw_aload_n d_Points_add_55 rfl rfl ?_
  refine pw_get d_Points_add_56 fl_Points_28 (zg_ne eh_4 (by decide) (zg_ne eh_3 (by decide) (zg_ne eh_2 (by decide) (zg_ne eh_1 (by decide) hp.1)))) rfl ?_
  refine pw_iconst (x := 0) d_Points_add_59 (by decide) ?_
  obtain ⟨h_5, eh_5⟩ : ∃ x_9, x_9 = List.set h_4 (41) (.inl (0, 220, .inl (upd a c (0)))) := ⟨_, rfl⟩
  refine pw_iast rfl d_Points_add_60 (zg_ne eh_4 (by decide) (zg_ne eh_3 (by decide) (zg_ne eh_2 (by decide) (zg_ne eh_1 (by decide) hp.2.2.2.2.2.1)))) rfl rfl hc (by decide) eh_5.symm ?_
  refine pw_aload_n d_Points_add_61 rfl rfl ?_
  refine pw_get d_Points_add_62 fl_Points_25 (zg_ne eh_5 (by decide) (zg_ne eh_4 (by decide) (zg_ne eh_3 (by decide) (zg_ne eh_2 (by decide) (zg_ne eh_1 (by decide) hp.1))))) rfl ?_
  refine pw_aload_n d_Points_add_65 rfl rfl ?_
  refine pw_get d_Points_add_66 fl_Points_28 (zg_ne eh_5 (by decide) (zg_ne eh_4 (by decide) (zg_ne eh_3 (by decide) (zg_ne eh_2 (by decide) (zg_ne eh_1 (by decide) hp.1))))) rfl ?_
  refine pw_iconst (x := 0) d_Points_add_69 (by decide) ?_
  obtain ⟨h_6, eh_6⟩ : ∃ x_9, x_9 = List.set h_5 (42) (.inl (0, 220, .inl (upd b c (0)))) := ⟨_, rfl⟩
  refine pw_iast rfl d_Points_add_70 (zg_ne eh_5 (by decide) (zg_ne eh_4 (by decide) (zg_ne eh_3 (by decide) (zg_ne eh_2 (by decide) (zg_ne eh_1 (by decide) hp.2.2.2.2.2.2))))) rfl rfl hc (by decide) eh_6.symm ?_
  refine pw_aload_n d_Points_add_71 rfl rfl ?_
  refine pw_dup d_Points_add_72 rfl ?_
  refine pw_get d_Points_add_73 fl_Points_28 (zg_ne eh_6 (by decide) (zg_ne eh_5 (by decide) (zg_ne eh_4 (by decide) (zg_ne eh_3 (by decide) (zg_ne eh_2 (by decide) (zg_ne eh_1 (by decide) hp.1)))))) rfl ?_
  refine pw_iconst (x := 1) d_Points_add_76 (by decide) ?_
  refine pw_iadd d_Points_add_77 ?_
  obtain ⟨h_7, eh_7⟩ : ∃ x_9, x_9 = List.set h_6 (36) (.inr (3, [.ref 37, .ref 38, .ref 39, .ref 40, .ref 41, .ref 42, .int ((nI c + 1))])) := ⟨_, rfl⟩
  refine pw_put rfl d_Points_add_78 (fp_Points_28 _ _) (zg_ne eh_6 (by decide) (zg_ne eh_5 (by decide) (zg_ne eh_4 (by decide) (zg_ne eh_3 (by decide) (zg_ne eh_2 (by decide) (zg_ne eh_1 (by decide) hp.1)))))) (Nat.le_of_ble_eq_true rfl) (fun _ => ⟨rfl, rfl⟩) eh_7.symm ?_
  refine pw_return d_Points_add_81 rfl (by decide) (by decide) ?_
  exact ⟨rfl, ⟨(by rw [← nI_1 c]; exact (zg_eq eh_7 (zg_ne eh_6 (by decide) (zg_ne eh_5 (by decide) (zg_ne eh_4 (by decide) (zg_ne eh_3 (by decide) (zg_ne eh_2 (by decide) (zg_ne eh_1 (by decide) hp.1)))))))), (zg_ne eh_7 (by decide) (zg_ne eh_6 (by decide) (zg_ne eh_5 (by decide) (zg_ne eh_4 (by decide) (zg_ne eh_3 (by decide) (zg_ne eh_2 (by decide) (zg_eq eh_1 hp.2.1))))))), (zg_ne eh_7 (by decide) (zg_ne eh_6 (by decide) (zg_ne eh_5 (by decide) (zg_ne eh_4 (by decide) (zg_ne eh_3 (by decide) (zg_eq eh_2 (zg_ne eh_1 (by decide) hp.2.2.1))))))), (zg_ne eh_7 (by decide) (zg_ne eh_6 (by decide) (zg_ne eh_5 (by decide) (zg_ne eh_4 (by decide) (zg_eq eh_3 (zg_ne eh_2 (by decide) (zg_ne eh_1 (by decide) hp.2.2.2.1))))))), (zg_ne eh_7 (by decide) (zg_ne eh_6 (by decide) (zg_ne eh_5 (by decide) (zg_eq eh_4 (zg_ne eh_3 (by decide) (zg_ne eh_2 (by decide) (zg_ne eh_1 (by decide) hp.2.2.2.2.1))))))), (zg_ne eh_7 (by decide) (zg_ne eh_6 (by decide) (zg_eq eh_5 (zg_ne eh_4 (by decide) (zg_ne eh_3 (by decide) (zg_ne eh_2 (by decide) (zg_ne eh_1 (by decide) hp.2.2.2.2.2.1))))))), (zg_ne eh_7 (by decide) (zg_eq eh_6 (zg_ne eh_5 (by decide) (zg_ne eh_4 (by decide) (zg_ne eh_3 (by decide) (zg_ne eh_2 (by decide) (zg_ne eh_1 (by decide) hp.2.2.2.2.2.2)))))))⟩, (zsm_st (zsm_st (zsm_st (zsm_st (zsm_st (zsm_st (zsm_st zsm_rf eh_1 (by decide)) eh_2 (by decide)) eh_3 (by decide)) eh_4 (by decide)) eh_5 (by decide)) eh_6 (by decide)) eh_7 (by decide))⟩
set_option maxRecDepth 20000 in
set_option maxHeartbeats 2000000 in
theorem l_has {G : zG} {h : zH} {c : Nat} {x y z q a b : Nat → Int32} (hp : zPt h c x y z q a b) (hc : c ≤ 220) {px py pz pq : Int32} : ∀ (n i : Nat), c - i < n → i ≤ c → (∀ p, p < i → ¬ (x p = px ∧ y p = py ∧ z p = pz ∧ q p = pq)) → PW G M_Points_has (zroom 0 0 0) true (fun r h' => ∃ t : Int32, r = .inl (some (.int t)) ∧ h' = h ∧ ((t = 1 ∧ ∃ p, p < c ∧ x p = px ∧ y p = py ∧ z p = pz ∧ q p = pq) ∨ (t = 0 ∧ ¬ ∃ p, p < c ∧ x p = px ∧ y p = py ∧ z p = pz ∧ q p = pq))) 3 [some (.ref 36), some (.int (px)), some (.int (py)), some (.int (pz)), some (.int (pq)), some (.int (nI i))] [] h 0 0 := by
  intro n
  induction n with
  | zero => intro i hn; exact absurd hn (Nat.not_lt_zero _)
  | succ n ih =>
    intro i hn hi hv
    refine pw_iload d_Points_has_3 rfl ?_
    refine pw_aload_n d_Points_has_5 rfl rfl ?_
    refine pw_get d_Points_has_6 fl_Points_28 hp.1 rfl ?_
    refine pw_icmp_ge 65 d_Points_has_9 (by decide) (fun q_c => ?_) (fun q_c => ?_)
    · refine pw_iconst (x := 0) d_Points_has_65 (by decide) ?_
      refine pw_zreturn d_Points_has_66 rfl (by decide) (by decide) (by decide) ?_
      have hic : i = c := by have := (nI_leI (a := c) (b := i) (by omega) (by omega)).mp q_c; omega
      exact ⟨0, rfl, rfl, Or.inr ⟨rfl, by subst hic; exact fun ⟨p, h1, h2⟩ => hv p h1 h2⟩⟩
    · have hic : i < c := by have := mt (nI_leI (a := c) (b := i) (by omega) (by omega)).mpr q_c; omega
      refine pw_aload_n d_Points_has_12 rfl rfl ?_
      refine pw_get d_Points_has_13 fl_Points_9 hp.1 rfl ?_
      refine pw_iload d_Points_has_16 rfl ?_
      refine pw_iald d_Points_has_18 hp.2.1 rfl rfl (by omega) (by decide) ?_
      refine pw_iload_n d_Points_has_19 rfl rfl ?_
      refine pw_icmp_ne 59 d_Points_has_20 (by decide) (fun q_1 => ?_) (fun q_1 => ?_)
      · refine pw_iinc (y := nI (i + 1)) d_Points_has_59 rfl (nI_1 i) (by decide) (pl' := [some (.ref 36), some (.int (px)), some (.int (py)), some (.int (pz)), some (.int (pq)), some (.int (nI (i + 1)))]) rfl ?_
        refine pw_goto 3 d_Points_has_62 (by decide) ?_
        exact ih (i + 1) (by omega) (by omega) (fun p hp => by rcases Nat.lt_succ_iff_lt_or_eq.mp hp with h1 | rfl; exact hv p h1; grind)
      · refine pw_aload_n d_Points_has_23 rfl rfl ?_
        refine pw_get d_Points_has_24 fl_Points_13 hp.1 rfl ?_
        refine pw_iload d_Points_has_27 rfl ?_
        refine pw_iald d_Points_has_29 hp.2.2.1 rfl rfl (by omega) (by decide) ?_
        refine pw_iload_n d_Points_has_30 rfl rfl ?_
        refine pw_icmp_ne 59 d_Points_has_31 (by decide) (fun q_2 => ?_) (fun q_2 => ?_)
        · refine pw_iinc (y := nI (i + 1)) d_Points_has_59 rfl (nI_1 i) (by decide) (pl' := [some (.ref 36), some (.int (px)), some (.int (py)), some (.int (pz)), some (.int (pq)), some (.int (nI (i + 1)))]) rfl ?_
          refine pw_goto 3 d_Points_has_62 (by decide) ?_
          exact ih (i + 1) (by omega) (by omega) (fun p hp => by rcases Nat.lt_succ_iff_lt_or_eq.mp hp with h1 | rfl; exact hv p h1; grind)
        · refine pw_aload_n d_Points_has_34 rfl rfl ?_
          refine pw_get d_Points_has_35 fl_Points_16 hp.1 rfl ?_
          refine pw_iload d_Points_has_38 rfl ?_
          refine pw_iald d_Points_has_40 hp.2.2.2.1 rfl rfl (by omega) (by decide) ?_
          refine pw_iload_n d_Points_has_41 rfl rfl ?_
          refine pw_icmp_ne 59 d_Points_has_42 (by decide) (fun q_3 => ?_) (fun q_3 => ?_)
          · refine pw_iinc (y := nI (i + 1)) d_Points_has_59 rfl (nI_1 i) (by decide) (pl' := [some (.ref 36), some (.int (px)), some (.int (py)), some (.int (pz)), some (.int (pq)), some (.int (nI (i + 1)))]) rfl ?_
            refine pw_goto 3 d_Points_has_62 (by decide) ?_
            exact ih (i + 1) (by omega) (by omega) (fun p hp => by rcases Nat.lt_succ_iff_lt_or_eq.mp hp with h1 | rfl; exact hv p h1; grind)
          · refine pw_aload_n d_Points_has_45 rfl rfl ?_
            refine pw_get d_Points_has_46 fl_Points_19 hp.1 rfl ?_
            refine pw_iload d_Points_has_49 rfl ?_
            refine pw_iald d_Points_has_51 hp.2.2.2.2.1 rfl rfl (by omega) (by decide) ?_
            refine pw_iload d_Points_has_52 rfl ?_
            refine pw_icmp_ne 59 d_Points_has_54 (by decide) (fun q_4 => ?_) (fun q_4 => ?_)
            · refine pw_iinc (y := nI (i + 1)) d_Points_has_59 rfl (nI_1 i) (by decide) (pl' := [some (.ref 36), some (.int (px)), some (.int (py)), some (.int (pz)), some (.int (pq)), some (.int (nI (i + 1)))]) rfl ?_
              refine pw_goto 3 d_Points_has_62 (by decide) ?_
              exact ih (i + 1) (by omega) (by omega) (fun p hp => by rcases Nat.lt_succ_iff_lt_or_eq.mp hp with h1 | rfl; exact hv p h1; grind)
            · refine pw_iconst (x := 1) d_Points_has_57 (by decide) ?_
              refine pw_zreturn d_Points_has_58 rfl (by decide) (by decide) (by decide) ?_
              exact ⟨1, rfl, rfl, Or.inl ⟨rfl, i, hic, by grind⟩⟩
set_option maxRecDepth 20000 in
set_option maxHeartbeats 2000000 in
theorem c_has {G : zG} {h : zH} {c : Nat} {x y z q a b : Nat → Int32} (hp : zPt h c x y z q a b) (hc : c ≤ 220) {px py pz pq : Int32} : PW G M_Points_has (zroom 0 0 0) true (fun r h' => ∃ t : Int32, r = .inl (some (.int t)) ∧ h' = h ∧ ((t = 1 ∧ ∃ p, p < c ∧ x p = px ∧ y p = py ∧ z p = pz ∧ q p = pq) ∨ (t = 0 ∧ ¬ ∃ p, p < c ∧ x p = px ∧ y p = py ∧ z p = pz ∧ q p = pq))) 0 (zentry 6 [.ref 36, .int (px), .int (py), .int (pz), .int (pq)]) [] h 0 0 := by
  show PW G M_Points_has (zroom 0 0 0) true _ 0 [some (.ref 36), some (.int (px)), some (.int (py)), some (.int (pz)), some (.int (pq)), none] [] h 0 0
  refine pw_iconst (x := 0) d_Points_has_0 (by decide) ?_
  refine pw_istore d_Points_has_1 (by decide) (pl' := [some (.ref 36), some (.int (px)), some (.int (py)), some (.int (pz)), some (.int (pq)), some (.int (0))]) rfl ?_
  exact l_has hp hc (c + 1) 0 (by omega) (by omega) (fun p hp => absurd hp (Nat.not_lt_zero _))
set_option maxRecDepth 20000 in
set_option maxHeartbeats 2000000 in
theorem c_isInBox {G : zG} {h : zH} {jc bc sx sy sz kn : Int32} (hr : h[34]? = some (.inr (4, [.ref 35, .ref 36, .ref 43, .ref 44, .ref 45, .ref 46, .int (jc), .int (bc), .int (sx), .int (sy), .int (sz), .ref 47, .ref 48, .ref 49, .ref 50, .ref 51, .int (kn)]))) {x y z q : Int32} : PW G M_Rock_isInBox (zroom 0 0 0) true (zr (some (.int (if 0 ≤ x ∧ x ≤ sx * q ∧ 0 ≤ y ∧ y ≤ sy * q ∧ 0 ≤ z ∧ z ≤ sz * q then 1 else 0))) h) 0 (zentry 5 [.ref 34, .int (x), .int (y), .int (z), .int (q)]) [] h 0 0 := by
  show PW G M_Rock_isInBox (zroom 0 0 0) true _ 0 [some (.ref 34), some (.int (x)), some (.int (y)), some (.int (z)), some (.int (q))] [] h 0 0
  refine pw_iload_n d_Rock_isInBox_0 rfl rfl ?_
  refine pw_if_lt 49 d_Rock_isInBox_1 (by decide) (fun q_1 => ?_) (fun q_1 => ?_)
  · refine pw_iconst (x := 0) d_Rock_isInBox_49 (by decide) ?_
    refine pw_zreturn d_Rock_isInBox_50 rfl (by decide) (by decide) (by decide) ?_
    exact ⟨by rw [if_neg (by grind [zlt, zle])], rfl⟩
  · refine pw_iload_n d_Rock_isInBox_4 rfl rfl ?_
    refine pw_aload_n d_Rock_isInBox_5 rfl rfl ?_
    refine pw_get d_Rock_isInBox_6 fl_Rock_66 hr rfl ?_
    refine pw_iload d_Rock_isInBox_9 rfl ?_
    refine pw_imul d_Rock_isInBox_11 ?_
    refine pw_icmp_gt 49 d_Rock_isInBox_12 (by decide) (fun q_2 => ?_) (fun q_2 => ?_)
    · refine pw_iconst (x := 0) d_Rock_isInBox_49 (by decide) ?_
      refine pw_zreturn d_Rock_isInBox_50 rfl (by decide) (by decide) (by decide) ?_
      exact ⟨by rw [if_neg (by grind [zlt, zle])], rfl⟩
    · refine pw_iload_n d_Rock_isInBox_15 rfl rfl ?_
      refine pw_if_lt 49 d_Rock_isInBox_16 (by decide) (fun q_3 => ?_) (fun q_3 => ?_)
      · refine pw_iconst (x := 0) d_Rock_isInBox_49 (by decide) ?_
        refine pw_zreturn d_Rock_isInBox_50 rfl (by decide) (by decide) (by decide) ?_
        exact ⟨by rw [if_neg (by grind [zlt, zle])], rfl⟩
      · refine pw_iload_n d_Rock_isInBox_19 rfl rfl ?_
        refine pw_aload_n d_Rock_isInBox_20 rfl rfl ?_
        refine pw_get d_Rock_isInBox_21 fl_Rock_69 hr rfl ?_
        refine pw_iload d_Rock_isInBox_24 rfl ?_
        refine pw_imul d_Rock_isInBox_26 ?_
        refine pw_icmp_gt 49 d_Rock_isInBox_27 (by decide) (fun q_4 => ?_) (fun q_4 => ?_)
        · refine pw_iconst (x := 0) d_Rock_isInBox_49 (by decide) ?_
          refine pw_zreturn d_Rock_isInBox_50 rfl (by decide) (by decide) (by decide) ?_
          exact ⟨by rw [if_neg (by grind [zlt, zle])], rfl⟩
        · refine pw_iload_n d_Rock_isInBox_30 rfl rfl ?_
          refine pw_if_lt 49 d_Rock_isInBox_31 (by decide) (fun q_5 => ?_) (fun q_5 => ?_)
          · refine pw_iconst (x := 0) d_Rock_isInBox_49 (by decide) ?_
            refine pw_zreturn d_Rock_isInBox_50 rfl (by decide) (by decide) (by decide) ?_
            exact ⟨by rw [if_neg (by grind [zlt, zle])], rfl⟩
          · refine pw_iload_n d_Rock_isInBox_34 rfl rfl ?_
            refine pw_aload_n d_Rock_isInBox_35 rfl rfl ?_
            refine pw_get d_Rock_isInBox_36 fl_Rock_72 hr rfl ?_
            refine pw_iload d_Rock_isInBox_39 rfl ?_
            refine pw_imul d_Rock_isInBox_41 ?_
            refine pw_icmp_gt 49 d_Rock_isInBox_42 (by decide) (fun q_6 => ?_) (fun q_6 => ?_)
            · refine pw_iconst (x := 0) d_Rock_isInBox_49 (by decide) ?_
              refine pw_zreturn d_Rock_isInBox_50 rfl (by decide) (by decide) (by decide) ?_
              exact ⟨by rw [if_neg (by grind [zlt, zle])], rfl⟩
            · refine pw_iconst (x := 1) d_Rock_isInBox_45 (by decide) ?_
              refine pw_goto 50 d_Rock_isInBox_46 (by decide) ?_
              refine pw_zreturn d_Rock_isInBox_50 rfl (by decide) (by decide) (by decide) ?_
              exact ⟨by rw [if_pos (by grind [zlt, zle])], rfl⟩
