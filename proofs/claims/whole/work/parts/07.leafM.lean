/-- sorting in, from place k down -/
def zsi (x y z q : Nat → Int32) (p : Nat) : Nat → (Nat → Int32) → (Nat → Int32)
  | 0, s => upd s 0 (nI p)
  | k + 1, s => if (x p * q (s k).toNatClampNeg < x (s k).toNatClampNeg * q p ∨ (x p * q (s k).toNatClampNeg = x (s k).toNatClampNeg * q p ∧ (y p * q (s k).toNatClampNeg < y (s k).toNatClampNeg * q p ∨ (y p * q (s k).toNatClampNeg = y (s k).toNatClampNeg * q p ∧ z p * q (s k).toNatClampNeg < z (s k).toNatClampNeg * q p)))) then zsi x y z q p k (upd s (k + 1) (s k)) else upd s (k + 1) (nI p)
set_option maxRecDepth 20000 in
set_option maxHeartbeats 2000000 in
theorem l_sortIn {G : zG} {h0 : zH} {c : Nat} {x y z q a b : Nat → Int32} {jc bc : Nat} {sx sy sz kn fo : Int32} {sd fc cc nu pb T : Nat → Int32} {p : Nat} (hpp : p < 220) {Q : zO → zH → Prop} (K : ∀ h, zRk h jc bc sx sy sz kn sd fc cc nu pb T → zsm [48] h0 h → Q (.inl none) h) : ∀ (k : Nat) (s : Nat → Int32) (h : zH), (∀ i, i < k → ∃ r, r < 220 ∧ s i = nI r) → k < 220 → zRk h jc bc sx sy sz kn sd fc cc nu pb s → zPt h c x y z q a b → zsm [48] h0 h → zsi x y z q p k s = T → PW G M_Rock_sortIn (zroom 2 0 0) false Q 2 [some (.ref 34), some (.int (nI p)), some (.int fo), some (.int (nI k))] [] h 0 0 := by
  intro k
  induction k with
  | zero =>
    intro s h hs hk hr hp hz hT
    refine pw_iload_n d_Rock_sortIn_2 rfl rfl ?_
    refine pw_if_le 45 d_Rock_sortIn_3 (by decide) (fun _ => ?_) (fun q => absurd (Int32.le_refl 0) q)
    refine pw_aload_n d_Rock_sortIn_45 rfl rfl ?_
    refine pw_get d_Rock_sortIn_46 fl_Rock_47 hr.1 rfl ?_
    refine pw_iload_n d_Rock_sortIn_49 rfl rfl ?_
    refine pw_iload_n d_Rock_sortIn_50 rfl rfl ?_
    obtain ⟨h_1, eh_1⟩ : ∃ x_9, x_9 = List.set h (48) (.inl (0, 220, .inl (upd s 0 (nI p)))) := ⟨_, rfl⟩
    refine pw_iast rfl d_Rock_sortIn_51 hr.2.2.2.2.2.2 rfl rfl (by decide) (by decide) eh_1.symm ?_
    refine pw_return d_Rock_sortIn_52 rfl (by decide) (by decide) ?_
    have hT2 : upd s 0 (nI p) = T := hT
    subst hT2
    exact K _ ⟨(zg_ne eh_1 (by decide) hr.1), (zg_ne eh_1 (by decide) hr.2.1), (zg_ne eh_1 (by decide) hr.2.2.1), (zg_ne eh_1 (by decide) hr.2.2.2.1), (zg_ne eh_1 (by decide) hr.2.2.2.2.1), (zg_ne eh_1 (by decide) hr.2.2.2.2.2.1), (zg_eq eh_1 hr.2.2.2.2.2.2)⟩ (zsm_tr hz (zsm_st zsm_rf eh_1 (by decide)) (fun _ q => q))
  | succ m ih =>
    intro s h hs hk hr hp hz hT
    refine pw_iload_n d_Rock_sortIn_2 rfl rfl ?_
    refine pw_if_le 45 d_Rock_sortIn_3 (by decide) (fun q => absurd q (nI_nle (by omega) (by omega))) (fun _ => ?_)
    refine pw_aload_n d_Rock_sortIn_6 rfl rfl ?_
    refine pw_get d_Rock_sortIn_7 fl_Rock_20 hr.1 rfl ?_
    refine pw_iload_n d_Rock_sortIn_10 rfl rfl ?_
    refine pw_aload_n d_Rock_sortIn_11 rfl rfl ?_
    refine pw_get d_Rock_sortIn_12 fl_Rock_47 hr.1 rfl ?_
    refine pw_iload_n d_Rock_sortIn_15 rfl rfl ?_
    refine pw_iconst (x := 1) d_Rock_sortIn_16 (by decide) ?_
    refine pw_isub d_Rock_sortIn_17 ?_
    rw [nI_pred m]
    refine pw_iald d_Rock_sortIn_18 hr.2.2.2.2.2.2 rfl rfl (show m < 220 by omega) (by decide) ?_
    obtain ⟨r, hr2, er⟩ := hs m (by omega)
    rw [er]
    refine pw_callV1 (R' := (zroom 1 0 0)) (h2 := h) [.int (nI p), .int (nI r)] (fun q => nomatch q) d_Rock_sortIn_19 lk_Rock_124 hp.1 rfl rfl rfl (c_isBefore hp hpp hr2) ?_
    refine pw_if_eq 45 d_Rock_sortIn_22 (by decide) (fun q_l => ?_) (fun q_l => ?_)
    · refine pw_aload_n d_Rock_sortIn_45 rfl rfl ?_
      refine pw_get d_Rock_sortIn_46 fl_Rock_47 hr.1 rfl ?_
      refine pw_iload_n d_Rock_sortIn_49 rfl rfl ?_
      refine pw_iload_n d_Rock_sortIn_50 rfl rfl ?_
      obtain ⟨h_1, eh_1⟩ : ∃ x_9, x_9 = List.set h (48) (.inl (0, 220, .inl (upd s (m + 1) (nI p)))) := ⟨_, rfl⟩
      refine pw_iast rfl d_Rock_sortIn_51 hr.2.2.2.2.2.2 rfl rfl (show m + 1 < 220 by omega) (by decide) eh_1.symm ?_
      refine pw_return d_Rock_sortIn_52 rfl (by decide) (by decide) ?_
      have hT2 := hT
      simp only [zsi] at hT2
      rw [er, nI_clamp (by omega), if_neg (z0 q_l)] at hT2
      subst hT2
      exact K _ ⟨(zg_ne eh_1 (by decide) hr.1), (zg_ne eh_1 (by decide) hr.2.1), (zg_ne eh_1 (by decide) hr.2.2.1), (zg_ne eh_1 (by decide) hr.2.2.2.1), (zg_ne eh_1 (by decide) hr.2.2.2.2.1), (zg_ne eh_1 (by decide) hr.2.2.2.2.2.1), (zg_eq eh_1 hr.2.2.2.2.2.2)⟩ (zsm_tr hz (zsm_st zsm_rf eh_1 (by decide)) (fun _ q => q))
    · refine pw_aload_n d_Rock_sortIn_25 rfl rfl ?_
      refine pw_get d_Rock_sortIn_26 fl_Rock_47 hr.1 rfl ?_
      refine pw_iload_n d_Rock_sortIn_29 rfl rfl ?_
      refine pw_aload_n d_Rock_sortIn_30 rfl rfl ?_
      refine pw_get d_Rock_sortIn_31 fl_Rock_47 hr.1 rfl ?_
      refine pw_iload_n d_Rock_sortIn_34 rfl rfl ?_
      refine pw_iconst (x := 1) d_Rock_sortIn_35 (by decide) ?_
      refine pw_isub d_Rock_sortIn_36 ?_
      rw [nI_pred m]
      refine pw_iald d_Rock_sortIn_37 hr.2.2.2.2.2.2 rfl rfl (show m < 220 by omega) (by decide) ?_
      obtain ⟨h_2, eh_2⟩ : ∃ x_9, x_9 = List.set h (48) (.inl (0, 220, .inl (upd s (m + 1) (s m)))) := ⟨_, rfl⟩
      refine pw_iast rfl d_Rock_sortIn_38 hr.2.2.2.2.2.2 rfl rfl (show m + 1 < 220 by omega) (by decide) eh_2.symm ?_
      refine pw_iinc (y := nI m) d_Rock_sortIn_39 rfl (pk_m1 m) (by decide) (pl' := [some (.ref 34), some (.int (nI p)), some (.int (fo)), some (.int (nI m))]) rfl ?_
      refine pw_goto 2 d_Rock_sortIn_42 (by decide) ?_
      have hT2 := hT
      simp only [zsi] at hT2
      rw [er, nI_clamp (by omega), if_pos (z1 q_l)] at hT2
      refine ih _ _ (fun i hi => ?_) (by omega) ⟨(zg_ne eh_2 (by decide) hr.1), (zg_ne eh_2 (by decide) hr.2.1), (zg_ne eh_2 (by decide) hr.2.2.1), (zg_ne eh_2 (by decide) hr.2.2.2.1), (zg_ne eh_2 (by decide) hr.2.2.2.2.1), (zg_ne eh_2 (by decide) hr.2.2.2.2.2.1), (zg_eq eh_2 hr.2.2.2.2.2.2)⟩ (zPt_sm (S := [48]) (zsm_st zsm_rf eh_2 (by decide)) (fun j a1 a2 => by simp only [List.mem_singleton]; omega) hp) (zsm_tr hz (zsm_st zsm_rf eh_2 (by decide)) (fun _ q => q)) (by rw [er]; exact hT2)
      rw [pk_un (by omega)]
      exact hs i (by omega)
