set_option maxRecDepth 20000 in
set_option maxHeartbeats 2000000 in
theorem t_blockN {G : zG} {h : zH} {tc dc : Nat} {op : Int32} {tk tb ty : Nat → Int32} {jc bc : Nat} {sx sy sz kn : Int32} {sd fc cc nu pb so : Nat → Int32} {A B C D : Nat → Int32} {S : zPS} {dx dy dz : Nat → Int32} {p1 p2 p3 : Int32} (hC : cAll h tc dc op tk tb ty jc bc sx sy sz kn sd fc cc nu pb so A B C D S dx dy dz p1 p2 p3) {k w : Int32} (hno : k < 0 ∨ ¬ k < nI bc) : PW G M_WP_block (zroom 7 1 6) true (fun r h' => r = .inr (9, h.length) ∧ h' = h ++ [.inr (9, [])]) 0 (zentry 3 [.ref 0, .int (k), .int (w)]) [] h 0 0 := by
  show PW G M_WP_block (zroom 7 1 6) true _ 0 [some (.ref 0), some (.int (k)), some (.int (w))] [] h 0 0
  obtain ⟨hw, hr, hpl, hp, hcr, ho, hdr⟩ := hC
  refine pw_aload_n d_WP_block_0 rfl rfl ?_
  refine pw_iload_n d_WP_block_1 rfl rfl ?_
  exact pw_callVT (R' := (zroom 6 1 6)) [.int (k)] (fun _ => rfl) d_WP_block_2 lk_WP_118 hw.1 rfl rfl (by intro v hv; simp at hv; subst hv; rfl) (Nat.le_of_ble_eq_true rfl) ⟨by decide, by decide, by decide, by decide⟩ (by decide) rfl (t_needBlock hw hr hno) (fun r h' q => ⟨_, q.1⟩) (fun r h' q => q)
set_option maxRecDepth 20000 in
set_option maxHeartbeats 2000000 in
theorem t_cornerN {G : zG} {h : zH} {tc dc : Nat} {op : Int32} {tk tb ty : Nat → Int32} {jc bc : Nat} {sx sy sz kn : Int32} {sd fc cc nu pb so : Nat → Int32} {A B C D : Nat → Int32} {S : zPS} {dx dy dz : Nat → Int32} {p1 p2 p3 : Int32} (hC : cAll h tc dc op tk tb ty jc bc sx sy sz kn sd fc cc nu pb so A B C D S dx dy dz p1 p2 p3) {k i w : Int32} (hno : k < 0 ∨ ¬ k < nI bc) : PW G M_WP_corner (zroom 7 1 6) true (fun r h' => r = .inr (9, h.length) ∧ h' = h ++ [.inr (9, [])]) 0 (zentry 5 [.ref 0, .int (k), .int (i), .int (w)]) [] h 0 0 := by
  show PW G M_WP_corner (zroom 7 1 6) true _ 0 [some (.ref 0), some (.int (k)), some (.int (i)), some (.int (w)), none] [] h 0 0
  obtain ⟨hw, hr, hpl, hp, hcr, ho, hdr⟩ := hC
  refine pw_aload_n d_WP_corner_0 rfl rfl ?_
  refine pw_iload_n d_WP_corner_1 rfl rfl ?_
  exact pw_callVT (R' := (zroom 6 1 6)) [.int (k)] (fun _ => rfl) d_WP_corner_2 lk_WP_118 hw.1 rfl rfl (by intro v hv; simp at hv; subst hv; rfl) (Nat.le_of_ble_eq_true rfl) ⟨by decide, by decide, by decide, by decide⟩ (by decide) rfl (t_needBlock hw hr hno) (fun r h' q => ⟨_, q.1⟩) (fun r h' q => q)
set_option maxRecDepth 20000 in
set_option maxHeartbeats 2000000 in
theorem t_besideN {G : zG} {h : zH} {tc dc : Nat} {op : Int32} {tk tb ty : Nat → Int32} {jc bc : Nat} {sx sy sz kn : Int32} {sd fc cc nu pb so : Nat → Int32} {A B C D : Nat → Int32} {S : zPS} {dx dy dz : Nat → Int32} {p1 p2 p3 : Int32} (hC : cAll h tc dc op tk tb ty jc bc sx sy sz kn sd fc cc nu pb so A B C D S dx dy dz p1 p2 p3) {k j : Int32} (hno : k < 0 ∨ ¬ k < nI bc) : PW G M_WP_beside (zroom 7 1 6) true (fun r h' => r = .inr (9, h.length) ∧ h' = h ++ [.inr (9, [])]) 0 (zentry 3 [.ref 0, .int (k), .int (j)]) [] h 0 0 := by
  show PW G M_WP_beside (zroom 7 1 6) true _ 0 [some (.ref 0), some (.int (k)), some (.int (j))] [] h 0 0
  obtain ⟨hw, hr, hpl, hp, hcr, ho, hdr⟩ := hC
  refine pw_aload_n d_WP_beside_0 rfl rfl ?_
  refine pw_iload_n d_WP_beside_1 rfl rfl ?_
  exact pw_callVT (R' := (zroom 6 1 6)) [.int (k)] (fun _ => rfl) d_WP_beside_2 lk_WP_118 hw.1 rfl rfl (by intro v hv; simp at hv; subst hv; rfl) (Nat.le_of_ble_eq_true rfl) ⟨by decide, by decide, by decide, by decide⟩ (by decide) rfl (t_needBlock hw hr hno) (fun r h' q => ⟨_, q.1⟩) (fun r h' q => q)
set_option maxRecDepth 20000 in
set_option maxHeartbeats 2000000 in
theorem t_goesN {G : zG} {h : zH} {tc dc : Nat} {op : Int32} {tk tb ty : Nat → Int32} {jc bc : Nat} {sx sy sz kn : Int32} {sd fc cc nu pb so : Nat → Int32} {A B C D : Nat → Int32} {S : zPS} {dx dy dz : Nat → Int32} {p1 p2 p3 : Int32} (hC : cAll h tc dc op tk tb ty jc bc sx sy sz kn sd fc cc nu pb so A B C D S dx dy dz p1 p2 p3) {k j : Int32} (hno : k < 0 ∨ ¬ k < nI bc) : PW G M_WP_goes (zroom 7 1 6) true (fun r h' => r = .inr (9, h.length) ∧ h' = h ++ [.inr (9, [])]) 0 (zentry 3 [.ref 0, .int (k), .int (j)]) [] h 0 0 := by
  show PW G M_WP_goes (zroom 7 1 6) true _ 0 [some (.ref 0), some (.int (k)), some (.int (j))] [] h 0 0
  obtain ⟨hw, hr, hpl, hp, hcr, ho, hdr⟩ := hC
  refine pw_aload_n d_WP_goes_0 rfl rfl ?_
  refine pw_iload_n d_WP_goes_1 rfl rfl ?_
  exact pw_callVT (R' := (zroom 6 1 6)) [.int (k)] (fun _ => rfl) d_WP_goes_2 lk_WP_118 hw.1 rfl rfl (by intro v hv; simp at hv; subst hv; rfl) (Nat.le_of_ble_eq_true rfl) ⟨by decide, by decide, by decide, by decide⟩ (by decide) rfl (t_needBlock hw hr hno) (fun r h' q => ⟨_, q.1⟩) (fun r h' q => q)
set_option maxRecDepth 20000 in
set_option maxHeartbeats 2000000 in
theorem t_takeN {G : zG} {h : zH} {tc dc : Nat} {op : Int32} {tk tb ty : Nat → Int32} {jc bc : Nat} {sx sy sz kn : Int32} {sd fc cc nu pb so : Nat → Int32} {A B C D : Nat → Int32} {S : zPS} {dx dy dz : Nat → Int32} {p1 p2 p3 : Int32} (hC : cAll h tc dc op tk tb ty jc bc sx sy sz kn sd fc cc nu pb so A B C D S dx dy dz p1 p2 p3) {k : Int32} (hno : k < 0 ∨ ¬ k < nI bc) : PW G M_WP_take (zroom 7 1 6) true (fun r h' => r = .inr (9, h.length) ∧ h' = h ++ [.inr (9, [])]) 0 (zentry 3 [.ref 0, .int (k)]) [] h 0 0 := by
  show PW G M_WP_take (zroom 7 1 6) true _ 0 [some (.ref 0), some (.int (k)), none] [] h 0 0
  obtain ⟨hw, hr, hpl, hp, hcr, ho, hdr⟩ := hC
  refine pw_aload_n d_WP_take_0 rfl rfl ?_
  refine pw_iload_n d_WP_take_1 rfl rfl ?_
  exact pw_callVT (R' := (zroom 6 1 6)) [.int (k)] (fun _ => rfl) d_WP_take_2 lk_WP_118 hw.1 rfl rfl (by intro v hv; simp at hv; subst hv; rfl) (Nat.le_of_ble_eq_true rfl) ⟨by decide, by decide, by decide, by decide⟩ (by decide) rfl (t_needBlock hw hr hno) (fun r h' q => ⟨_, q.1⟩) (fun r h' q => q)
set_option maxRecDepth 20000 in
set_option maxHeartbeats 2000000 in
theorem t_modeN {G : zG} {h : zH} {tc dc : Nat} {op : Int32} {tk tb ty : Nat → Int32} {jc bc : Nat} {sx sy sz kn : Int32} {sd fc cc nu pb so : Nat → Int32} {A B C D : Nat → Int32} {S : zPS} {dx dy dz : Nat → Int32} {p1 p2 p3 : Int32} (hC : cAll h tc dc op tk tb ty jc bc sx sy sz kn sd fc cc nu pb so A B C D S dx dy dz p1 p2 p3) {k : Int32} (hno : k < 0 ∨ ¬ k < nI bc) : PW G M_WP_mode (zroom 7 1 6) true (fun r h' => r = .inr (9, h.length) ∧ h' = h ++ [.inr (9, [])]) 0 (zentry 2 [.ref 0, .int (k)]) [] h 0 0 := by
  show PW G M_WP_mode (zroom 7 1 6) true _ 0 [some (.ref 0), some (.int (k))] [] h 0 0
  obtain ⟨hw, hr, hpl, hp, hcr, ho, hdr⟩ := hC
  refine pw_aload_n d_WP_mode_0 rfl rfl ?_
  refine pw_iload_n d_WP_mode_1 rfl rfl ?_
  exact pw_callVT (R' := (zroom 6 1 6)) [.int (k)] (fun _ => rfl) d_WP_mode_2 lk_WP_118 hw.1 rfl rfl (by intro v hv; simp at hv; subst hv; rfl) (Nat.le_of_ble_eq_true rfl) ⟨by decide, by decide, by decide, by decide⟩ (by decide) rfl (t_needBlock hw hr hno) (fun r h' q => ⟨_, q.1⟩) (fun r h' q => q)
set_option maxRecDepth 20000 in
set_option maxHeartbeats 2000000 in
theorem r_block {G : zG} {h : zH} {tc dc : Nat} {op : Int32} {tk tb ty : Nat → Int32} {jc bc : Nat} {kn : Int32} {NX NY NZ : Nat} {sd fc cc nu pb so : Nat → Int32} {A B C D : Nat → Int32} {S : zPS} {dx dy dz : Nat → Int32} {p1 p2 p3 : Int32} (hC : cAll h tc dc op tk tb ty jc bc (nI NX) (nI NY) (nI NZ) kn sd fc cc nu pb so A B C D S dx dy dz p1 p2 p3) (hN : (1 ≤ NX ∧ NX ≤ 8) ∧ (1 ≤ NY ∧ NY ≤ 8) ∧ (1 ≤ NZ ∧ NZ ≤ 8)) {k : Nat} (hk : k < bc) (hbc : bc ≤ 64) (hjc : jc ≤ 6) {w : Int32} (hw04 : w = 0 ∨ w = 1 ∨ w = 2 ∨ w = 3 ∨ w = 4) : PW G M_WP_block (zroom 3 0 0) true (fun r h' => ∃ t : Int32, r = .inl (some (.int t)) ∧ zsm zKP h h' ∧ ((w = 0 ∧ t = sd k) ∨ (w = 1 ∧ t = fc k) ∨ (w = 2 ∧ t = cc k) ∨ (w = 3 ∧ t = nI (zc3 (fun x y z => zOnS A B C D jc (sd k) (nI x) (nI y) (nI z)) NY NZ NX)) ∨ (w = 4 ∧ t = if tk k = 0 then 0 else 1)) ∧ cAll h' tc dc op tk tb ty jc bc (nI NX) (nI NY) (nI NZ) kn sd fc cc nu pb so A B C D S dx dy dz p1 p2 p3) 0 (zentry 3 [.ref 0, .int (nI k), .int (w)]) [] h 0 0 := by
  show PW G M_WP_block (zroom 3 0 0) true _ 0 [some (.ref 0), some (.int (nI k)), some (.int (w))] [] h 0 0
  obtain ⟨hw, hr, hpl, hp, hcr, ho, hdr⟩ := hC
  refine pw_aload_n d_WP_block_0 rfl rfl ?_
  refine pw_iload_n d_WP_block_1 rfl rfl ?_
  refine pw_callV0 (R' := (zroom 0 0 0)) (h2 := h) [.int (nI k)] (fun _ => rfl) d_WP_block_2 lk_WP_118 hw.1 rfl rfl rfl (c_needBlock hw hr hk hbc) ?_
  refine pw_iload_n d_WP_block_5 rfl rfl ?_
  rcases hw04 with rfl | rfl | rfl | rfl | rfl
  · refine pw_tabIn (tgt := 40) d_WP_block_6 (by decide) (by decide) rfl (by decide) ?_
    refine pw_aload_n d_WP_block_40 rfl rfl ?_
    refine pw_get d_WP_block_41 fl_WP_57 hw.1 rfl ?_
    refine pw_get d_WP_block_44 fl_WP_122 hr.1 rfl ?_
    refine pw_iload_n d_WP_block_47 rfl rfl ?_
    refine pw_iald d_WP_block_48 hr.2.1 rfl rfl (by omega) (by decide) ?_
    refine pw_ireturn d_WP_block_49 rfl (by decide) (by decide) ?_
    exact ⟨_, rfl, zsm_rf, Or.inl ⟨rfl, rfl⟩, ⟨hw, hr, hpl, hp, hcr, ho, hdr⟩⟩
  · refine pw_tabIn (tgt := 50) d_WP_block_6 (by decide) (by decide) rfl (by decide) ?_
    refine pw_aload_n d_WP_block_50 rfl rfl ?_
    refine pw_get d_WP_block_51 fl_WP_57 hw.1 rfl ?_
    refine pw_get d_WP_block_54 fl_WP_125 hr.1 rfl ?_
    refine pw_iload_n d_WP_block_57 rfl rfl ?_
    refine pw_iald d_WP_block_58 hr.2.2.1 rfl rfl (by omega) (by decide) ?_
    refine pw_ireturn d_WP_block_59 rfl (by decide) (by decide) ?_
    exact ⟨_, rfl, zsm_rf, Or.inr (Or.inl ⟨rfl, rfl⟩), ⟨hw, hr, hpl, hp, hcr, ho, hdr⟩⟩
  · refine pw_tabIn (tgt := 60) d_WP_block_6 (by decide) (by decide) rfl (by decide) ?_
    refine pw_aload_n d_WP_block_60 rfl rfl ?_
    refine pw_get d_WP_block_61 fl_WP_57 hw.1 rfl ?_
    refine pw_get d_WP_block_64 fl_WP_128 hr.1 rfl ?_
    refine pw_iload_n d_WP_block_67 rfl rfl ?_
    refine pw_iald d_WP_block_68 hr.2.2.2.1 rfl rfl (by omega) (by decide) ?_
    refine pw_ireturn d_WP_block_69 rfl (by decide) (by decide) ?_
    exact ⟨_, rfl, zsm_rf, Or.inr (Or.inr (Or.inl ⟨rfl, rfl⟩)), ⟨hw, hr, hpl, hp, hcr, ho, hdr⟩⟩
  · refine pw_tabIn (tgt := 70) d_WP_block_6 (by decide) (by decide) rfl (by decide) ?_
    refine pw_aload_n d_WP_block_70 rfl rfl ?_
    refine pw_get d_WP_block_71 fl_WP_57 hw.1 rfl ?_
    refine pw_iload_n d_WP_block_74 rfl rfl ?_
    refine pw_callV1 (R' := (zroom 2 0 0)) (h2 := h) [.int (nI k)] (fun _ => rfl) d_WP_block_75 lk_WP_131 hr.1 rfl rfl rfl (c_countWholePoints hr hjc hpl (show k < 64 by omega) hN.1.2 hN.2.1.2 hN.2.2.2 hN.1.1 hN.2.1.1 hN.2.2.1) ?_
    refine pw_ireturn d_WP_block_78 rfl (by decide) (by decide) ?_
    exact ⟨_, rfl, zsm_rf, Or.inr (Or.inr (Or.inr (Or.inl ⟨rfl, rfl⟩))), ⟨hw, hr, hpl, hp, hcr, ho, hdr⟩⟩
  · refine pw_tabIn (tgt := 79) d_WP_block_6 (by decide) (by decide) rfl (by decide) ?_
    refine pw_aload_n d_WP_block_79 rfl rfl ?_
    refine pw_get d_WP_block_80 fl_WP_27 hw.1 rfl ?_
    refine pw_iload_n d_WP_block_83 rfl rfl ?_
    refine pw_zald d_WP_block_84 hw.2.1 rfl rfl (by omega) (by decide) ?_
    refine pw_if_eq 92 d_WP_block_85 (by decide) (fun q_k => ?_) (fun q_k => ?_)
    · refine pw_iconst (x := 0) d_WP_block_92 (by decide) ?_
      refine pw_ireturn d_WP_block_93 rfl (by decide) (by decide) ?_
      exact ⟨_, rfl, zsm_rf, Or.inr (Or.inr (Or.inr (Or.inr (⟨rfl, (if_pos q_k).symm⟩)))), ⟨hw, hr, hpl, hp, hcr, ho, hdr⟩⟩
    · refine pw_iconst (x := 1) d_WP_block_88 (by decide) ?_
      refine pw_goto 93 d_WP_block_89 (by decide) ?_
      refine pw_ireturn d_WP_block_93 rfl (by decide) (by decide) ?_
      exact ⟨_, rfl, zsm_rf, Or.inr (Or.inr (Or.inr (Or.inr (⟨rfl, (if_neg q_k).symm⟩)))), ⟨hw, hr, hpl, hp, hcr, ho, hdr⟩⟩
set_option maxRecDepth 20000 in
set_option maxHeartbeats 2000000 in
theorem t_blockW {G : zG} {h : zH} {tc dc : Nat} {op : Int32} {tk tb ty : Nat → Int32} {jc bc : Nat} {sx sy sz kn : Int32} {sd fc cc nu pb so : Nat → Int32} {A B C D : Nat → Int32} {S : zPS} {dx dy dz : Nat → Int32} {p1 p2 p3 : Int32} (hC : cAll h tc dc op tk tb ty jc bc sx sy sz kn sd fc cc nu pb so A B C D S dx dy dz p1 p2 p3) {k : Nat} (hk : k < bc) (hbc : bc ≤ 64) {w : Int32} (hno : ¬ (0 ≤ w ∧ w ≤ 4)) : PW G M_WP_block (zroom 6 1 6) true (fun r h' => r = .inr (9, h.length) ∧ h' = h ++ [.inr (9, [])]) 0 (zentry 3 [.ref 0, .int (nI k), .int (w)]) [] h 0 0 := by
  show PW G M_WP_block (zroom 6 1 6) true _ 0 [some (.ref 0), some (.int (nI k)), some (.int (w))] [] h 0 0
  obtain ⟨hw, hr, hpl, hp, hcr, ho, hdr⟩ := hC
  refine pw_aload_n d_WP_block_0 rfl rfl ?_
  refine pw_iload_n d_WP_block_1 rfl rfl ?_
  refine pw_callV0 (R' := (zroom 0 0 0)) (h2 := h) [.int (nI k)] (fun _ => rfl) d_WP_block_2 lk_WP_118 hw.1 rfl rfl rfl (c_needBlock hw hr hk hbc) ?_
  refine pw_iload_n d_WP_block_5 rfl rfl ?_
  refine pw_tabOut (tgt := 94) d_WP_block_6 (zout4 hno) (by decide) ?_
  exact pw_throw (tx := "what is 0 to 4") (names := xn) rfl d_WP_block_94 d_WP_block_97 d_WP_block_98 d_WP_block_100 d_WP_block_103 xc_IOB xl_IOB rfl (by decide +kernel) xa_IOB rfl (by decide) (by decide) (by decide) (by decide) ⟨rfl, rfl⟩
set_option maxRecDepth 20000 in
set_option maxHeartbeats 2000000 in
theorem r_beside {G : zG} {h : zH} {tc dc : Nat} {op : Int32} {tk tb ty : Nat → Int32} {jc bc : Nat} {sx sy sz kn : Int32} {sd fc cc nu pb so : Nat → Int32} {A B C D : Nat → Int32} {S : zPS} {dx dy dz : Nat → Int32} {p1 p2 p3 : Int32} (hC : cAll h tc dc op tk tb ty jc bc sx sy sz kn sd fc cc nu pb so A B C D S dx dy dz p1 p2 p3) {k : Nat} (hk : k < bc) (hbc : bc ≤ 64) {j s9 : Nat} (hj : j < jc) (hjc : jc ≤ 6) (hs9 : s9 < 64) (hsd : sd k = nI s9) : PW G M_WP_beside (zroom 2 0 0) true (fun r h' => ∃ t : Int32, r = .inl (some (.int t)) ∧ zsm zKP h h' ∧ (((fc k >>> (nI j &&& 31)) &&& 1 = 1 ∧ t = nu (s9 ^^^ (1 <<< j))) ∨ (¬ (fc k >>> (nI j &&& 31)) &&& 1 = 1 ∧ t = -1)) ∧ cAll h' tc dc op tk tb ty jc bc sx sy sz kn sd fc cc nu pb so A B C D S dx dy dz p1 p2 p3) 0 (zentry 3 [.ref 0, .int (nI k), .int (nI j)]) [] h 0 0 := by
  show PW G M_WP_beside (zroom 2 0 0) true _ 0 [some (.ref 0), some (.int (nI k)), some (.int (nI j))] [] h 0 0
  obtain ⟨hw, hr, hpl, hp, hcr, ho, hdr⟩ := hC
  refine pw_aload_n d_WP_beside_0 rfl rfl ?_
  refine pw_iload_n d_WP_beside_1 rfl rfl ?_
  refine pw_callV0 (R' := (zroom 0 0 0)) (h2 := h) [.int (nI k)] (fun _ => rfl) d_WP_beside_2 lk_WP_118 hw.1 rfl rfl rfl (c_needBlock hw hr hk hbc) ?_
  refine pw_iload_n d_WP_beside_5 rfl rfl ?_
  refine pw_if_lt 20 d_WP_beside_6 (by decide) (fun q => absurd q (nI_pos (by omega))) (fun _ => ?_)
  refine pw_iload_n d_WP_beside_9 rfl rfl ?_
  refine pw_aload_n d_WP_beside_10 rfl rfl ?_
  refine pw_get d_WP_beside_11 fl_WP_57 hw.1 rfl ?_
  refine pw_get d_WP_beside_14 fl_WP_78 hr.1 rfl ?_
  refine pw_icmp_lt 30 d_WP_beside_17 (by decide) (fun _ => ?_) (fun q => absurd (nI_lt hj (by omega)) q)
  refine pw_aload_n d_WP_beside_30 rfl rfl ?_
  refine pw_get d_WP_beside_31 fl_WP_57 hw.1 rfl ?_
  refine pw_iload_n d_WP_beside_34 rfl rfl ?_
  refine pw_iload_n d_WP_beside_35 rfl rfl ?_
  refine pw_callV1 (R' := (zroom 1 0 0)) (h2 := h) [.int (nI k), .int (nI j)] (fun _ => rfl) d_WP_beside_36 lk_WP_167 hr.1 rfl rfl rfl (c_neighbour hr (show k < 64 by omega) hs9 (show j < 6 by omega) hsd) ?_
  refine pw_ireturn d_WP_beside_39 rfl (by decide) (by decide) ?_
  by_cases hb : (fc k >>> (nI j &&& 31)) &&& 1 = 1
  · exact ⟨_, rfl, zsm_rf, Or.inl ⟨hb, if_pos hb⟩, ⟨hw, hr, hpl, hp, hcr, ho, hdr⟩⟩
  · exact ⟨_, rfl, zsm_rf, Or.inr ⟨hb, if_neg hb⟩, ⟨hw, hr, hpl, hp, hcr, ho, hdr⟩⟩
set_option maxRecDepth 20000 in
set_option maxHeartbeats 2000000 in
theorem t_besideJ {G : zG} {h : zH} {tc dc : Nat} {op : Int32} {tk tb ty : Nat → Int32} {jc bc : Nat} {sx sy sz kn : Int32} {sd fc cc nu pb so : Nat → Int32} {A B C D : Nat → Int32} {S : zPS} {dx dy dz : Nat → Int32} {p1 p2 p3 : Int32} (hC : cAll h tc dc op tk tb ty jc bc sx sy sz kn sd fc cc nu pb so A B C D S dx dy dz p1 p2 p3) {k : Nat} (hk : k < bc) (hbc : bc ≤ 64) {j : Int32} (hjc : jc ≤ 6) (hno : ¬ ∃ J, J < jc ∧ j = nI J) : PW G M_WP_beside (zroom 6 1 6) true (fun r h' => r = .inr (9, h.length) ∧ h' = h ++ [.inr (9, [])]) 0 (zentry 3 [.ref 0, .int (nI k), .int (j)]) [] h 0 0 := by
  show PW G M_WP_beside (zroom 6 1 6) true _ 0 [some (.ref 0), some (.int (nI k)), some (.int (j))] [] h 0 0
  obtain ⟨hw, hr, hpl, hp, hcr, ho, hdr⟩ := hC
  refine pw_aload_n d_WP_beside_0 rfl rfl ?_
  refine pw_iload_n d_WP_beside_1 rfl rfl ?_
  refine pw_callV0 (R' := (zroom 0 0 0)) (h2 := h) [.int (nI k)] (fun _ => rfl) d_WP_beside_2 lk_WP_118 hw.1 rfl rfl rfl (c_needBlock hw hr hk hbc) ?_
  refine pw_iload_n d_WP_beside_5 rfl rfl ?_
  refine pw_if_lt 20 d_WP_beside_6 (by decide) (fun q_a => ?_) (fun q_a => ?_)
  · exact pw_throw (tx := "no such joint") (names := xn) rfl d_WP_beside_20 d_WP_beside_23 d_WP_beside_24 d_WP_beside_26 d_WP_beside_29 xc_IOB xl_IOB rfl (by decide +kernel) xa_IOB rfl (by decide) (by decide) (by decide) (by decide) ⟨rfl, rfl⟩
  · refine pw_iload_n d_WP_beside_9 rfl rfl ?_
    refine pw_aload_n d_WP_beside_10 rfl rfl ?_
    refine pw_get d_WP_beside_11 fl_WP_57 hw.1 rfl ?_
    refine pw_get d_WP_beside_14 fl_WP_78 hr.1 rfl ?_
    refine pw_icmp_lt 30 d_WP_beside_17 (by decide) (fun q_b => ?_) (fun q_b => ?_)
    · obtain ⟨J, h1, rfl⟩ := nI_of q_a
      exact absurd ⟨J, (nI_ltI h1 (by omega)).mp q_b, rfl⟩ hno
    · exact pw_throw (tx := "no such joint") (names := xn) rfl d_WP_beside_20 d_WP_beside_23 d_WP_beside_24 d_WP_beside_26 d_WP_beside_29 xc_IOB xl_IOB rfl (by decide +kernel) xa_IOB rfl (by decide) (by decide) (by decide) (by decide) ⟨rfl, rfl⟩
