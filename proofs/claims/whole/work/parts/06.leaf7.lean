set_option maxRecDepth 20000 in
set_option maxHeartbeats 2000000 in
theorem c_addBlock {G : zG} {h : zH} {jc bc : Nat} {sx sy sz kn : Int32} {sd fc cc nu pb so : Nat → Int32} (hr : zRk h jc bc sx sy sz kn sd fc cc nu pb so) (hbc : bc < 64) {s : Nat} (hs : s < 64) {fb cn : Int32} : PW G M_Rock_addBlock (zroom 0 0 0) false (fun r h' => r = .inl none ∧ zRk h' jc (bc + 1) sx sy sz kn (upd sd bc (nI s)) (upd fc bc fb) (upd cc bc cn) (upd nu s (nI bc)) pb so ∧ zsm [34, 43, 44, 45, 46] h h') 0 (zentry 4 [.ref 34, .int (nI s), .int (fb), .int (cn)]) [] h 0 0 := by
  show PW G M_Rock_addBlock (zroom 0 0 0) false _ 0 [some (.ref 34), some (.int (nI s)), some (.int (fb)), some (.int (cn))] [] h 0 0
  refine pw_aload_n d_Rock_addBlock_0 rfl rfl ?_
  refine pw_get d_Rock_addBlock_1 fl_Rock_41 hr.1 rfl ?_
  refine pw_bipush (x := 64) d_Rock_addBlock_4 (by decide) ?_
  refine pw_icmp_ge 59 d_Rock_addBlock_6 (by decide) (fun q => absurd q (nI_ge (b := 64) hbc (by decide))) (fun _ => ?_)
  refine pw_aload_n d_Rock_addBlock_9 rfl rfl ?_
  refine pw_get d_Rock_addBlock_10 fl_Rock_24 hr.1 rfl ?_
  refine pw_aload_n d_Rock_addBlock_13 rfl rfl ?_
  refine pw_get d_Rock_addBlock_14 fl_Rock_41 hr.1 rfl ?_
  refine pw_iload_n d_Rock_addBlock_17 rfl rfl ?_
  obtain ⟨h_1, eh_1⟩ : ∃ x_9, x_9 = List.set h (43) (.inl (0, 64, .inl (upd sd bc (nI s)))) := ⟨_, rfl⟩
  refine pw_iast rfl d_Rock_addBlock_18 hr.2.1 rfl rfl hbc (by decide) eh_1.symm ?_
  refine pw_aload_n d_Rock_addBlock_19 rfl rfl ?_
  refine pw_get d_Rock_addBlock_20 fl_Rock_28 (zg_ne eh_1 (by decide) hr.1) rfl ?_
  refine pw_aload_n d_Rock_addBlock_23 rfl rfl ?_
  refine pw_get d_Rock_addBlock_24 fl_Rock_41 (zg_ne eh_1 (by decide) hr.1) rfl ?_
  refine pw_iload_n d_Rock_addBlock_27 rfl rfl ?_
  obtain ⟨h_2, eh_2⟩ : ∃ x_9, x_9 = List.set h_1 (44) (.inl (0, 64, .inl (upd fc bc (fb)))) := ⟨_, rfl⟩
  refine pw_iast rfl d_Rock_addBlock_28 (zg_ne eh_1 (by decide) hr.2.2.1) rfl rfl hbc (by decide) eh_2.symm ?_
  refine pw_aload_n d_Rock_addBlock_29 rfl rfl ?_
  refine pw_get d_Rock_addBlock_30 fl_Rock_31 (zg_ne eh_2 (by decide) (zg_ne eh_1 (by decide) hr.1)) rfl ?_
  refine pw_aload_n d_Rock_addBlock_33 rfl rfl ?_
  refine pw_get d_Rock_addBlock_34 fl_Rock_41 (zg_ne eh_2 (by decide) (zg_ne eh_1 (by decide) hr.1)) rfl ?_
  refine pw_iload_n d_Rock_addBlock_37 rfl rfl ?_
  obtain ⟨h_3, eh_3⟩ : ∃ x_9, x_9 = List.set h_2 (45) (.inl (0, 64, .inl (upd cc bc (cn)))) := ⟨_, rfl⟩
  refine pw_iast rfl d_Rock_addBlock_38 (zg_ne eh_2 (by decide) (zg_ne eh_1 (by decide) hr.2.2.2.1)) rfl rfl hbc (by decide) eh_3.symm ?_
  refine pw_aload_n d_Rock_addBlock_39 rfl rfl ?_
  refine pw_get d_Rock_addBlock_40 fl_Rock_34 (zg_ne eh_3 (by decide) (zg_ne eh_2 (by decide) (zg_ne eh_1 (by decide) hr.1))) rfl ?_
  refine pw_iload_n d_Rock_addBlock_43 rfl rfl ?_
  refine pw_aload_n d_Rock_addBlock_44 rfl rfl ?_
  refine pw_get d_Rock_addBlock_45 fl_Rock_41 (zg_ne eh_3 (by decide) (zg_ne eh_2 (by decide) (zg_ne eh_1 (by decide) hr.1))) rfl ?_
  obtain ⟨h_4, eh_4⟩ : ∃ x_9, x_9 = List.set h_3 (46) (.inl (0, 64, .inl (upd nu s (nI bc)))) := ⟨_, rfl⟩
  refine pw_iast rfl d_Rock_addBlock_48 (zg_ne eh_3 (by decide) (zg_ne eh_2 (by decide) (zg_ne eh_1 (by decide) hr.2.2.2.2.1))) rfl rfl hs (by decide) eh_4.symm ?_
  refine pw_aload_n d_Rock_addBlock_49 rfl rfl ?_
  refine pw_dup d_Rock_addBlock_50 rfl ?_
  refine pw_get d_Rock_addBlock_51 fl_Rock_41 (zg_ne eh_4 (by decide) (zg_ne eh_3 (by decide) (zg_ne eh_2 (by decide) (zg_ne eh_1 (by decide) hr.1)))) rfl ?_
  refine pw_iconst (x := 1) d_Rock_addBlock_54 (by decide) ?_
  refine pw_iadd d_Rock_addBlock_55 ?_
  obtain ⟨h_5, eh_5⟩ : ∃ x_9, x_9 = List.set h_4 (34) (.inr (4, [.ref 35, .ref 36, .ref 43, .ref 44, .ref 45, .ref 46, .int (nI jc), .int ((nI bc + 1)), .int (sx), .int (sy), .int (sz), .ref 47, .ref 48, .ref 49, .ref 50, .ref 51, .int (kn)])) := ⟨_, rfl⟩
  refine pw_put rfl d_Rock_addBlock_56 (fp_Rock_41 _ _) (zg_ne eh_4 (by decide) (zg_ne eh_3 (by decide) (zg_ne eh_2 (by decide) (zg_ne eh_1 (by decide) hr.1)))) (Nat.le_of_ble_eq_true rfl) (fun _ => ⟨rfl, rfl⟩) eh_5.symm ?_
  refine pw_return d_Rock_addBlock_59 rfl (by decide) (by decide) ?_
  exact ⟨rfl, ⟨(by rw [← nI_1 bc]; exact (zg_eq eh_5 (zg_ne eh_4 (by decide) (zg_ne eh_3 (by decide) (zg_ne eh_2 (by decide) (zg_ne eh_1 (by decide) hr.1)))))), (zg_ne eh_5 (by decide) (zg_ne eh_4 (by decide) (zg_ne eh_3 (by decide) (zg_ne eh_2 (by decide) (zg_eq eh_1 hr.2.1))))), (zg_ne eh_5 (by decide) (zg_ne eh_4 (by decide) (zg_ne eh_3 (by decide) (zg_eq eh_2 (zg_ne eh_1 (by decide) hr.2.2.1))))), (zg_ne eh_5 (by decide) (zg_ne eh_4 (by decide) (zg_eq eh_3 (zg_ne eh_2 (by decide) (zg_ne eh_1 (by decide) hr.2.2.2.1))))), (zg_ne eh_5 (by decide) (zg_eq eh_4 (zg_ne eh_3 (by decide) (zg_ne eh_2 (by decide) (zg_ne eh_1 (by decide) hr.2.2.2.2.1))))), (zg_ne eh_5 (by decide) (zg_ne eh_4 (by decide) (zg_ne eh_3 (by decide) (zg_ne eh_2 (by decide) (zg_ne eh_1 (by decide) hr.2.2.2.2.2.1))))), (zg_ne eh_5 (by decide) (zg_ne eh_4 (by decide) (zg_ne eh_3 (by decide) (zg_ne eh_2 (by decide) (zg_ne eh_1 (by decide) hr.2.2.2.2.2.2)))))⟩, (zsm_st (zsm_st (zsm_st (zsm_st (zsm_st zsm_rf eh_1 (by decide)) eh_2 (by decide)) eh_3 (by decide)) eh_4 (by decide)) eh_5 (by decide))⟩
/-- the first i places 0 -/
def zcl (i : Nat) (a : Nat → Int32) : Nat → Int32 := fun p => if p < i then 0 else a p
theorem zcl_0 {a : Nat → Int32} : zcl 0 a = a := by funext p; simp [zcl]
theorem zcl_s {i : Nat} {a : Nat → Int32} : upd (zcl i a) i 0 = zcl (i + 1) a := by
  funext p
  simp only [upd, zcl]
  by_cases h : p = i
  · subst h; simp
  · by_cases h2 : p < i
    · simp [h, h2, Nat.lt_succ_of_lt h2]
    · have h3 : ¬ p < i + 1 := by omega
      simp [h, h2, h3]
set_option maxRecDepth 20000 in
set_option maxHeartbeats 2000000 in
theorem l_putAllBack {G : zG} {h0 : zH} {tc dc : Nat} {op : Int32} {tk tb ty : Nat → Int32} {Q : zO → zH → Prop} (K : ∀ h', zWp h' 0 dc op (zcl 64 tk) tb ty → zsm [0, 31, 32, 33] h0 h' → Q (.inl none) h') : ∀ (n i : Nat) (h : zH), 64 - i < n → i ≤ 64 → zWp h tc dc op (zcl i tk) tb ty → zsm [0, 31, 32, 33] h0 h → PW G M_WP_putAllBack (zroom 0 0 0) false Q 2 [some (.ref 0), some (.int (nI i))] [] h 0 0 := by
  intro n
  induction n with
  | zero => intro i h hn; exact absurd hn (Nat.not_lt_zero _)
  | succ n ih =>
    intro i h hn hi hw hz
    refine pw_iload_n d_WP_putAllBack_2 rfl rfl ?_
    refine pw_bipush (x := 64) d_WP_putAllBack_3 (by decide) ?_
    refine pw_icmp_ge 21 d_WP_putAllBack_5 (by decide) (fun q_c => ?_) (fun q_c => ?_)
    · have hic : i = 64 := by have := (nI_leI (a := 64) (b := i) (by decide) (by omega)).mp q_c; omega
      subst hic
      refine pw_aload_n d_WP_putAllBack_21 rfl rfl ?_
      refine pw_iconst (x := 0) d_WP_putAllBack_22 (by decide) ?_
      obtain ⟨h_1, eh_1⟩ : ∃ x_9, x_9 = List.set h (0) (.inr (5, [.ref 34, .ref 1, .ref 29, .ref 30, .ref 31, .ref 32, .ref 33, .int (0), .int (nI dc), .int (op)])) := ⟨_, rfl⟩
      refine pw_put rfl d_WP_putAllBack_23 (fp_WP_38 _ _) hw.1 (Nat.le_of_ble_eq_true rfl) (fun _ => ⟨rfl, rfl⟩) eh_1.symm ?_
      refine pw_return d_WP_putAllBack_26 rfl (by decide) (by decide) ?_
      exact K _ ⟨(zg_eq eh_1 hw.1), (zg_ne eh_1 (by decide) hw.2.1), (zg_ne eh_1 (by decide) hw.2.2.1), (zg_ne eh_1 (by decide) hw.2.2.2)⟩ (zsm_tr hz (zsm_st zsm_rf eh_1 (by decide)) (fun _ h => h))
    · have hic : i < 64 := by have := mt (nI_leI (a := 64) (b := i) (by decide) (by omega)).mpr q_c; omega
      refine pw_aload_n d_WP_putAllBack_8 rfl rfl ?_
      refine pw_get d_WP_putAllBack_9 fl_WP_27 hw.1 rfl ?_
      refine pw_iload_n d_WP_putAllBack_12 rfl rfl ?_
      refine pw_iconst (x := 0) d_WP_putAllBack_13 (by decide) ?_
      obtain ⟨h_2, eh_2⟩ : ∃ x_9, x_9 = List.set h (31) (.inl (1, 64, .inl (upd (zcl i tk) i (0)))) := ⟨_, rfl⟩
      refine pw_zast rfl d_WP_putAllBack_14 hw.2.1 rfl rfl hic (by decide) (Or.inl rfl) eh_2.symm ?_
      refine pw_iinc (y := nI (i + 1)) d_WP_putAllBack_15 rfl (nI_1 i) (by decide) (pl' := [some (.ref 0), some (.int (nI (i + 1)))]) rfl ?_
      refine pw_goto 2 d_WP_putAllBack_18 (by decide) ?_
      exact ih (i + 1) _ (by omega) (by omega) ⟨(zg_ne eh_2 (by decide) hw.1), (by rw [← zcl_s]; exact (zg_eq eh_2 hw.2.1)), (zg_ne eh_2 (by decide) hw.2.2.1), (zg_ne eh_2 (by decide) hw.2.2.2)⟩ (zsm_tr hz (zsm_st zsm_rf eh_2 (by decide)) (fun _ h => h))
set_option maxRecDepth 20000 in
set_option maxHeartbeats 2000000 in
theorem c_putAllBack {G : zG} {h : zH} {tc dc : Nat} {op : Int32} {tk tb ty : Nat → Int32} (hw : zWp h tc dc op tk tb ty) : PW G M_WP_putAllBack (zroom 0 0 0) false (fun r h' => r = .inl none ∧ zWp h' 0 dc op (zcl 64 tk) tb ty ∧ zsm [0, 31, 32, 33] h h') 0 (zentry 2 [.ref 0]) [] h 0 0 := by
  show PW G M_WP_putAllBack (zroom 0 0 0) false _ 0 [some (.ref 0), none] [] h 0 0
  refine pw_iconst (x := 0) d_WP_putAllBack_0 (by decide) ?_
  refine pw_istore_n d_WP_putAllBack_1 rfl (by decide) (pl' := [some (.ref 0), some (.int (0))]) rfl ?_
  exact l_putAllBack (fun h' h1 h2 => ⟨rfl, h1, h2⟩) 65 0 h (by decide) (by decide) (by rw [zcl_0]; exact hw) zsm_rf
set_option maxRecDepth 20000 in
set_option maxHeartbeats 2000000 in
theorem c_putAway {G : zG} {h : zH} {tc dc : Nat} {op : Int32} {tk tb ty : Nat → Int32} (hw : zWp h tc dc op tk tb ty) (htc : tc < 64) {k : Nat} (hk : k < 64) {by_ : Int32} : PW G M_WP_putAway (zroom 0 0 0) false (fun r h' => r = .inl none ∧ zWp h' (tc + 1) dc op (upd tk k 1) (upd tb tc (nI k)) (upd ty tc by_) ∧ zsm [0, 31, 32, 33] h h') 0 (zentry 3 [.ref 0, .int (nI k), .int (by_)]) [] h 0 0 := by
  show PW G M_WP_putAway (zroom 0 0 0) false _ 0 [some (.ref 0), some (.int (nI k)), some (.int (by_))] [] h 0 0
  refine pw_aload_n d_WP_putAway_0 rfl rfl ?_
  refine pw_get d_WP_putAway_1 fl_WP_38 hw.1 rfl ?_
  refine pw_bipush (x := 64) d_WP_putAway_4 (by decide) ?_
  refine pw_icmp_ge 46 d_WP_putAway_6 (by decide) (fun q => absurd q (nI_ge (b := 64) htc (by decide))) (fun _ => ?_)
  refine pw_aload_n d_WP_putAway_9 rfl rfl ?_
  refine pw_get d_WP_putAway_10 fl_WP_27 hw.1 rfl ?_
  refine pw_iload_n d_WP_putAway_13 rfl rfl ?_
  refine pw_iconst (x := 1) d_WP_putAway_14 (by decide) ?_
  obtain ⟨h_1, eh_1⟩ : ∃ x_9, x_9 = List.set h (31) (.inl (1, 64, .inl (upd tk k (1)))) := ⟨_, rfl⟩
  refine pw_zast rfl d_WP_putAway_15 hw.2.1 rfl rfl hk (by decide) (Or.inr rfl) eh_1.symm ?_
  refine pw_aload_n d_WP_putAway_16 rfl rfl ?_
  refine pw_get d_WP_putAway_17 fl_WP_31 (zg_ne eh_1 (by decide) hw.1) rfl ?_
  refine pw_aload_n d_WP_putAway_20 rfl rfl ?_
  refine pw_get d_WP_putAway_21 fl_WP_38 (zg_ne eh_1 (by decide) hw.1) rfl ?_
  refine pw_iload_n d_WP_putAway_24 rfl rfl ?_
  obtain ⟨h_2, eh_2⟩ : ∃ x_9, x_9 = List.set h_1 (32) (.inl (0, 64, .inl (upd tb tc (nI k)))) := ⟨_, rfl⟩
  refine pw_iast rfl d_WP_putAway_25 (zg_ne eh_1 (by decide) hw.2.2.1) rfl rfl htc (by decide) eh_2.symm ?_
  refine pw_aload_n d_WP_putAway_26 rfl rfl ?_
  refine pw_get d_WP_putAway_27 fl_WP_35 (zg_ne eh_2 (by decide) (zg_ne eh_1 (by decide) hw.1)) rfl ?_
  refine pw_aload_n d_WP_putAway_30 rfl rfl ?_
  refine pw_get d_WP_putAway_31 fl_WP_38 (zg_ne eh_2 (by decide) (zg_ne eh_1 (by decide) hw.1)) rfl ?_
  refine pw_iload_n d_WP_putAway_34 rfl rfl ?_
  obtain ⟨h_3, eh_3⟩ : ∃ x_9, x_9 = List.set h_2 (33) (.inl (0, 64, .inl (upd ty tc (by_)))) := ⟨_, rfl⟩
  refine pw_iast rfl d_WP_putAway_35 (zg_ne eh_2 (by decide) (zg_ne eh_1 (by decide) hw.2.2.2)) rfl rfl htc (by decide) eh_3.symm ?_
  refine pw_aload_n d_WP_putAway_36 rfl rfl ?_
  refine pw_dup d_WP_putAway_37 rfl ?_
  refine pw_get d_WP_putAway_38 fl_WP_38 (zg_ne eh_3 (by decide) (zg_ne eh_2 (by decide) (zg_ne eh_1 (by decide) hw.1))) rfl ?_
  refine pw_iconst (x := 1) d_WP_putAway_41 (by decide) ?_
  refine pw_iadd d_WP_putAway_42 ?_
  obtain ⟨h_4, eh_4⟩ : ∃ x_9, x_9 = List.set h_3 (0) (.inr (5, [.ref 34, .ref 1, .ref 29, .ref 30, .ref 31, .ref 32, .ref 33, .int ((nI tc + 1)), .int (nI dc), .int (op)])) := ⟨_, rfl⟩
  refine pw_put rfl d_WP_putAway_43 (fp_WP_38 _ _) (zg_ne eh_3 (by decide) (zg_ne eh_2 (by decide) (zg_ne eh_1 (by decide) hw.1))) (Nat.le_of_ble_eq_true rfl) (fun _ => ⟨rfl, rfl⟩) eh_4.symm ?_
  refine pw_return d_WP_putAway_46 rfl (by decide) (by decide) ?_
  exact ⟨rfl, ⟨(by rw [← nI_1 tc]; exact (zg_eq eh_4 (zg_ne eh_3 (by decide) (zg_ne eh_2 (by decide) (zg_ne eh_1 (by decide) hw.1))))), (zg_ne eh_4 (by decide) (zg_ne eh_3 (by decide) (zg_ne eh_2 (by decide) (zg_eq eh_1 hw.2.1)))), (zg_ne eh_4 (by decide) (zg_ne eh_3 (by decide) (zg_eq eh_2 (zg_ne eh_1 (by decide) hw.2.2.1)))), (zg_ne eh_4 (by decide) (zg_eq eh_3 (zg_ne eh_2 (by decide) (zg_ne eh_1 (by decide) hw.2.2.2))))⟩, (zsm_st (zsm_st (zsm_st (zsm_st zsm_rf eh_1 (by decide)) eh_2 (by decide)) eh_3 (by decide)) eh_4 (by decide))⟩
set_option maxRecDepth 20000 in
set_option maxHeartbeats 2000000 in
theorem c_needBlock {G : zG} {h : zH} {tc dc : Nat} {op : Int32} {tk tb ty : Nat → Int32} (hw : zWp h tc dc op tk tb ty) {jc bc : Nat} {sx sy sz kn : Int32} {sd fc cc nu pb so : Nat → Int32} (hr : zRk h jc bc sx sy sz kn sd fc cc nu pb so) {k : Nat} (hk : k < bc) (hbc : bc ≤ 64) : PW G M_WP_needBlock (zroom 0 0 0) true (zr none h) 0 (zentry 2 [.ref 0, .int (nI k)]) [] h 0 0 := by
  show PW G M_WP_needBlock (zroom 0 0 0) true _ 0 [some (.ref 0), some (.int (nI k))] [] h 0 0
  refine pw_iload_n d_WP_needBlock_0 rfl rfl ?_
  refine pw_if_lt 15 d_WP_needBlock_1 (by decide) (fun q => absurd q (nI_pos (by omega))) (fun _ => ?_)
  refine pw_iload_n d_WP_needBlock_4 rfl rfl ?_
  refine pw_aload_n d_WP_needBlock_5 rfl rfl ?_
  refine pw_get d_WP_needBlock_6 fl_WP_57 hw.1 rfl ?_
  refine pw_get d_WP_needBlock_9 fl_WP_115 hr.1 rfl ?_
  refine pw_icmp_lt 25 d_WP_needBlock_12 (by decide) (fun _ => ?_) (fun q => absurd (nI_lt hk (by omega)) q)
  refine pw_return d_WP_needBlock_25 rfl (by decide) (by decide) ?_
  exact ⟨rfl, rfl⟩
set_option maxRecDepth 20000 in
set_option maxHeartbeats 2000000 in
theorem t_needBlock {G : zG} {h : zH} {tc dc : Nat} {op : Int32} {tk tb ty : Nat → Int32} (hw : zWp h tc dc op tk tb ty) {jc bc : Nat} {sx sy sz kn : Int32} {sd fc cc nu pb so : Nat → Int32} (hr : zRk h jc bc sx sy sz kn sd fc cc nu pb so) {k : Int32} (hk : k < 0 ∨ ¬ k < nI bc) : PW G M_WP_needBlock (zroom 6 1 6) true (fun r h' => r = .inr (9, h.length) ∧ h' = h ++ [.inr (9, [])]) 0 (zentry 2 [.ref 0, .int (k)]) [] h 0 0 := by
  show PW G M_WP_needBlock (zroom 6 1 6) true _ 0 [some (.ref 0), some (.int (k))] [] h 0 0
  refine pw_iload_n d_WP_needBlock_0 rfl rfl ?_
  refine pw_if_lt 15 d_WP_needBlock_1 (by decide) (fun q_a => ?_) (fun q_a => ?_)
  · exact pw_throw (tx := "no such block") (names := xn) rfl d_WP_needBlock_15 d_WP_needBlock_18 d_WP_needBlock_19 d_WP_needBlock_21 d_WP_needBlock_24 xc_IOB xl_IOB rfl (by decide +kernel) xa_IOB rfl (by decide) (by decide) (by decide) (by decide) ⟨rfl, rfl⟩
  · refine pw_iload_n d_WP_needBlock_4 rfl rfl ?_
    refine pw_aload_n d_WP_needBlock_5 rfl rfl ?_
    refine pw_get d_WP_needBlock_6 fl_WP_57 hw.1 rfl ?_
    refine pw_get d_WP_needBlock_9 fl_WP_115 hr.1 rfl ?_
    refine pw_icmp_lt 25 d_WP_needBlock_12 (by decide) (fun q_b => ?_) (fun q_b => ?_)
    · refine pw_return d_WP_needBlock_25 rfl (by decide) (by decide) ?_
      exact absurd q_b (hk.resolve_left q_a)
    · exact pw_throw (tx := "no such block") (names := xn) rfl d_WP_needBlock_15 d_WP_needBlock_18 d_WP_needBlock_19 d_WP_needBlock_21 d_WP_needBlock_24 xc_IOB xl_IOB rfl (by decide +kernel) xa_IOB rfl (by decide) (by decide) (by decide) (by decide) ⟨rfl, rfl⟩
