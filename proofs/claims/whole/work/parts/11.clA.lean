/-- all rows of the class -/
def cAll (h : zH) (tc dc : Nat) (op : Int32) (tk tb ty : Nat → Int32) (jc bc : Nat) (sx sy sz kn : Int32) (sd fc cc nu pb so : Nat → Int32) (A B C D : Nat → Int32) (S : zPS) (dx dy dz : Nat → Int32) (p1 p2 p3 : Int32) : Prop := zWp h tc dc op tk tb ty ∧ zRk h jc bc sx sy sz kn sd fc cc nu pb so ∧ zPl h A B C D ∧ zPp h S ∧ zCr h ∧ (∃ (F : Int32) (ix iy iz ux uy uz : Nat → Int32) (l1 l2 l3 : Int32), zHo h F ix iy iz ux uy uz l1 l2 l3) ∧ zDr h dx dy dz p1 p2 p3
/-- its places -/
def zKP : List Nat := List.range 84
theorem zKP_in {j : Nat} (h : j < 84) : j ∈ zKP := List.mem_range.mpr h
theorem zKP_no {j : Nat} (h : 84 ≤ j) : j ∉ zKP := fun hm => by have := List.mem_range.mp hm; omega
theorem zKP_tp : ∀ j, j ∈ zTP → j ∈ zKP := by decide
theorem zsm_kp {S : List Nat} {h h' : zH} (hz : zsm S h h') (hS : ∀ j, j ∈ S → j ∈ zKP) : zsm zKP h h' := zsm_tr zsm_rf hz hS
theorem zsw_kp {w : Nat → Prop} {h h' : zH} (hz : zsw w h h') (hS : ∀ j, w j → j < 84) : zsm zKP h h' := ⟨hz.1, fun j hj => hz.2 j (fun q => hj (zKP_in (hS j q)))⟩
set_option maxRecDepth 20000 in
set_option maxHeartbeats 2000000 in
theorem r_blocks {G : zG} {h : zH} {tc dc : Nat} {op : Int32} {tk tb ty : Nat → Int32} {jc bc : Nat} {sx sy sz kn : Int32} {sd fc cc nu pb so : Nat → Int32} {A B C D : Nat → Int32} {S : zPS} {dx dy dz : Nat → Int32} {p1 p2 p3 : Int32} (hC : cAll h tc dc op tk tb ty jc bc sx sy sz kn sd fc cc nu pb so A B C D S dx dy dz p1 p2 p3)  : PW G M_WP_blocks (zroom 0 0 0) true (fun r h' => ∃ t : Int32, r = .inl (some (.int t)) ∧ zsm zKP h h' ∧ t = nI bc ∧ cAll h' tc dc op tk tb ty jc bc sx sy sz kn sd fc cc nu pb so A B C D S dx dy dz p1 p2 p3) 0 (zentry 1 [.ref 0]) [] h 0 0 := by
  show PW G M_WP_blocks (zroom 0 0 0) true _ 0 [some (.ref 0)] [] h 0 0
  obtain ⟨hw, hr, hpl, hp, hcr, ho, hdr⟩ := hC
  refine pw_aload_n d_WP_blocks_0 rfl rfl ?_
  refine pw_get d_WP_blocks_1 fl_WP_57 hw.1 rfl ?_
  refine pw_get d_WP_blocks_4 fl_WP_115 hr.1 rfl ?_
  refine pw_ireturn d_WP_blocks_7 rfl (by decide) (by decide) ?_
  exact ⟨_, rfl, zsm_rf, rfl, ⟨hw, hr, hpl, hp, hcr, ho, hdr⟩⟩
set_option maxRecDepth 20000 in
set_option maxHeartbeats 2000000 in
theorem r_told {G : zG} {h : zH} {tc dc : Nat} {op : Int32} {tk tb ty : Nat → Int32} {jc bc : Nat} {sx sy sz kn : Int32} {sd fc cc nu pb so : Nat → Int32} {A B C D : Nat → Int32} {S : zPS} {dx dy dz : Nat → Int32} {p1 p2 p3 : Int32} (hC : cAll h tc dc op tk tb ty jc bc sx sy sz kn sd fc cc nu pb so A B C D S dx dy dz p1 p2 p3) {w : Int32} (hw03 : w = 0 ∨ w = 1 ∨ w = 2 ∨ w = 3) : PW G M_WP_told (zroom 0 0 0) true (fun r h' => ∃ t : Int32, r = .inl (some (.int t)) ∧ zsm zKP h h' ∧ ((w = 0 ∧ t = nI jc) ∨ (w = 1 ∧ t = nI dc) ∨ (w = 2 ∧ t = nI tc) ∨ (w = 3 ∧ t = nI S.1)) ∧ cAll h' tc dc op tk tb ty jc bc sx sy sz kn sd fc cc nu pb so A B C D S dx dy dz p1 p2 p3) 0 (zentry 2 [.ref 0, .int (w)]) [] h 0 0 := by
  show PW G M_WP_told (zroom 0 0 0) true _ 0 [some (.ref 0), some (.int (w))] [] h 0 0
  obtain ⟨hw, hr, hpl, hp, hcr, ho, hdr⟩ := hC
  refine pw_iload_n d_WP_told_0 rfl rfl ?_
  rcases hw03 with rfl | rfl | rfl | rfl
  · refine pw_tabIn (tgt := 32) d_WP_told_1 (by decide) (by decide) rfl (by decide) ?_
    refine pw_aload_n d_WP_told_32 rfl rfl ?_
    refine pw_get d_WP_told_33 fl_WP_57 hw.1 rfl ?_
    refine pw_get d_WP_told_36 fl_WP_78 hr.1 rfl ?_
    refine pw_ireturn d_WP_told_39 rfl (by decide) (by decide) ?_
    exact ⟨_, rfl, zsm_rf, Or.inl ⟨rfl, rfl⟩, ⟨hw, hr, hpl, hp, hcr, ho, hdr⟩⟩
  · refine pw_tabIn (tgt := 40) d_WP_told_1 (by decide) (by decide) rfl (by decide) ?_
    refine pw_aload_n d_WP_told_40 rfl rfl ?_
    refine pw_get d_WP_told_41 fl_WP_42 hw.1 rfl ?_
    refine pw_ireturn d_WP_told_44 rfl (by decide) (by decide) ?_
    exact ⟨_, rfl, zsm_rf, Or.inr (Or.inl ⟨rfl, rfl⟩), ⟨hw, hr, hpl, hp, hcr, ho, hdr⟩⟩
  · refine pw_tabIn (tgt := 45) d_WP_told_1 (by decide) (by decide) rfl (by decide) ?_
    refine pw_aload_n d_WP_told_45 rfl rfl ?_
    refine pw_get d_WP_told_46 fl_WP_38 hw.1 rfl ?_
    refine pw_ireturn d_WP_told_49 rfl (by decide) (by decide) ?_
    exact ⟨_, rfl, zsm_rf, Or.inr (Or.inr (Or.inl ⟨rfl, rfl⟩)), ⟨hw, hr, hpl, hp, hcr, ho, hdr⟩⟩
  · refine pw_tabIn (tgt := 50) d_WP_told_1 (by decide) (by decide) rfl (by decide) ?_
    refine pw_aload_n d_WP_told_50 rfl rfl ?_
    refine pw_get d_WP_told_51 fl_WP_57 hw.1 rfl ?_
    refine pw_get d_WP_told_54 fl_WP_142 hr.1 rfl ?_
    refine pw_get d_WP_told_57 fl_WP_198 hp.1 rfl ?_
    refine pw_ireturn d_WP_told_60 rfl (by decide) (by decide) ?_
    exact ⟨_, rfl, zsm_rf, Or.inr (Or.inr (Or.inr ⟨rfl, rfl⟩)), ⟨hw, hr, hpl, hp, hcr, ho, hdr⟩⟩
theorem zout3 {w : Int32} (h : ¬ (0 ≤ w ∧ w ≤ 3)) : w.toInt < 0 ∨ 3 < w.toInt := by
  rw [Int32.le_iff_toInt_le, Int32.le_iff_toInt_le, show (0 : Int32).toInt = 0 from by decide, show (3 : Int32).toInt = 3 from by decide] at h
  omega
theorem zout4 {w : Int32} (h : ¬ (0 ≤ w ∧ w ≤ 4)) : w.toInt < 0 ∨ 4 < w.toInt := by
  rw [Int32.le_iff_toInt_le, Int32.le_iff_toInt_le, show (0 : Int32).toInt = 0 from by decide, show (4 : Int32).toInt = 4 from by decide] at h
  omega
set_option maxRecDepth 20000 in
set_option maxHeartbeats 2000000 in
theorem t_told {G : zG} {h : zH} {tc dc : Nat} {op : Int32} {tk tb ty : Nat → Int32} {jc bc : Nat} {sx sy sz kn : Int32} {sd fc cc nu pb so : Nat → Int32} {A B C D : Nat → Int32} {S : zPS} {dx dy dz : Nat → Int32} {p1 p2 p3 : Int32} (hC : cAll h tc dc op tk tb ty jc bc sx sy sz kn sd fc cc nu pb so A B C D S dx dy dz p1 p2 p3) {w : Int32} (hno : ¬ (0 ≤ w ∧ w ≤ 3)) : PW G M_WP_told (zroom 6 1 6) true (fun r h' => r = .inr (9, h.length) ∧ h' = h ++ [.inr (9, [])]) 0 (zentry 2 [.ref 0, .int (w)]) [] h 0 0 := by
  show PW G M_WP_told (zroom 6 1 6) true _ 0 [some (.ref 0), some (.int (w))] [] h 0 0
  obtain ⟨hw, hr, hpl, hp, hcr, ho, hdr⟩ := hC
  refine pw_iload_n d_WP_told_0 rfl rfl ?_
  refine pw_tabOut (tgt := 61) d_WP_told_1 (zout3 hno) (by decide) ?_
  exact pw_throw (tx := "what is 0 to 3") (names := xn) rfl d_WP_told_61 d_WP_told_64 d_WP_told_65 d_WP_told_67 d_WP_told_70 xc_IOB xl_IOB rfl (by decide +kernel) xa_IOB rfl (by decide) (by decide) (by decide) (by decide) ⟨rfl, rfl⟩
set_option maxRecDepth 20000 in
set_option maxHeartbeats 2000000 in
theorem r_find {G : zG} {h : zH} {tc dc : Nat} {op : Int32} {tk tb ty : Nat → Int32} {jc bc : Nat} {sx sy sz kn : Int32} {sd fc cc nu pb so : Nat → Int32} {A B C D : Nat → Int32} {S : zPS} {dx dy dz : Nat → Int32} {p1 p2 p3 : Int32} (hC : cAll h tc dc op tk tb ty jc bc sx sy sz kn sd fc cc nu pb so A B C D S dx dy dz p1 p2 p3) {s9 : Int32} : PW G M_WP_find (zroom 0 0 0) true (fun r h' => ∃ t : Int32, r = .inl (some (.int t)) ∧ zsm zKP h h' ∧ ((∃ m, m < 64 ∧ s9 = nI m ∧ t = nu m) ∨ ((∀ m, m < 64 → ¬ s9 = nI m) ∧ t = -1)) ∧ cAll h' tc dc op tk tb ty jc bc sx sy sz kn sd fc cc nu pb so A B C D S dx dy dz p1 p2 p3) 0 (zentry 2 [.ref 0, .int (s9)]) [] h 0 0 := by
  show PW G M_WP_find (zroom 0 0 0) true _ 0 [some (.ref 0), some (.int (s9))] [] h 0 0
  obtain ⟨hw, hr, hpl, hp, hcr, ho, hdr⟩ := hC
  refine pw_iload_n d_WP_find_0 rfl rfl ?_
  refine pw_if_lt 10 d_WP_find_1 (by decide) (fun q_a => ?_) (fun q_a => ?_)
  · refine pw_iconst (x := (-1)) d_WP_find_10 (by decide) ?_
    refine pw_goto 23 d_WP_find_11 (by decide) ?_
    refine pw_ireturn d_WP_find_23 rfl (by decide) (by decide) ?_
    exact ⟨-1, rfl, zsm_rf, Or.inr ⟨by intro m hm e; rw [e] at q_a; exact nI_pos (by omega) q_a, rfl⟩, ⟨hw, hr, hpl, hp, hcr, ho, hdr⟩⟩
  · refine pw_iload_n d_WP_find_4 rfl rfl ?_
    refine pw_bipush (x := 64) d_WP_find_5 (by decide) ?_
    refine pw_icmp_lt 14 d_WP_find_7 (by decide) (fun q_b => ?_) (fun q_b => ?_)
    · obtain ⟨m, hm, rfl⟩ : ∃ m, m < 64 ∧ s9 = nI m := by
        obtain ⟨m, h1, rfl⟩ := nI_of q_a
        exact ⟨m, (nI_ltI (b := 64) h1 (by decide)).mp q_b, rfl⟩
      refine pw_aload_n d_WP_find_14 rfl rfl ?_
      refine pw_get d_WP_find_15 fl_WP_57 hw.1 rfl ?_
      refine pw_get d_WP_find_18 fl_WP_162 hr.1 rfl ?_
      refine pw_iload_n d_WP_find_21 rfl rfl ?_
      refine pw_iald d_WP_find_22 hr.2.2.2.2.1 rfl rfl hm (by decide) ?_
      refine pw_ireturn d_WP_find_23 rfl (by decide) (by decide) ?_
      exact ⟨_, rfl, zsm_rf, Or.inl ⟨m, hm, rfl, rfl⟩, ⟨hw, hr, hpl, hp, hcr, ho, hdr⟩⟩
    · refine pw_iconst (x := (-1)) d_WP_find_10 (by decide) ?_
      refine pw_goto 23 d_WP_find_11 (by decide) ?_
      refine pw_ireturn d_WP_find_23 rfl (by decide) (by decide) ?_
      exact ⟨-1, rfl, zsm_rf, Or.inr ⟨by intro m hm e; rw [e] at q_b; exact q_b (nI_lt (b := 64) hm (by decide)), rfl⟩, ⟨hw, hr, hpl, hp, hcr, ho, hdr⟩⟩
set_option maxRecDepth 20000 in
set_option maxHeartbeats 2000000 in
theorem r_taken {G : zG} {h : zH} {tc dc : Nat} {op : Int32} {tk tb ty : Nat → Int32} {jc bc : Nat} {sx sy sz kn : Int32} {sd fc cc nu pb so : Nat → Int32} {A B C D : Nat → Int32} {S : zPS} {dx dy dz : Nat → Int32} {p1 p2 p3 : Int32} (hC : cAll h tc dc op tk tb ty jc bc sx sy sz kn sd fc cc nu pb so A B C D S dx dy dz p1 p2 p3) {i : Nat} {w : Int32} (hi : i < tc) (htc : tc ≤ 64) (hw01 : w = 0 ∨ w = 1) : PW G M_WP_taken (zroom 0 0 0) true (fun r h' => ∃ t : Int32, r = .inl (some (.int t)) ∧ zsm zKP h h' ∧ ((w = 0 ∧ t = tb i) ∨ (w = 1 ∧ t = ty i)) ∧ cAll h' tc dc op tk tb ty jc bc sx sy sz kn sd fc cc nu pb so A B C D S dx dy dz p1 p2 p3) 0 (zentry 3 [.ref 0, .int (nI i), .int (w)]) [] h 0 0 := by
  show PW G M_WP_taken (zroom 0 0 0) true _ 0 [some (.ref 0), some (.int (nI i)), some (.int (w))] [] h 0 0
  obtain ⟨hw, hr, hpl, hp, hcr, ho, hdr⟩ := hC
  refine pw_iload_n d_WP_taken_0 rfl rfl ?_
  refine pw_if_lt 12 d_WP_taken_1 (by decide) (fun q => absurd q (nI_pos (by omega))) (fun _ => ?_)
  refine pw_iload_n d_WP_taken_4 rfl rfl ?_
  refine pw_aload_n d_WP_taken_5 rfl rfl ?_
  refine pw_get d_WP_taken_6 fl_WP_38 hw.1 rfl ?_
  refine pw_icmp_lt 22 d_WP_taken_9 (by decide) (fun _ => ?_) (fun q => absurd (nI_lt hi (by omega)) q)
  refine pw_iload_n d_WP_taken_22 rfl rfl ?_
  refine pw_if_lt 31 d_WP_taken_23 (by decide) (fun q => absurd q (by rcases hw01 with rfl | rfl <;> decide)) (fun _ => ?_)
  refine pw_iload_n d_WP_taken_26 rfl rfl ?_
  refine pw_iconst (x := 1) d_WP_taken_27 (by decide) ?_
  refine pw_icmp_le 41 d_WP_taken_28 (by decide) (fun _ => ?_) (fun q => absurd (by rcases hw01 with rfl | rfl <;> decide) q)
  refine pw_iload_n d_WP_taken_41 rfl rfl ?_
  refine pw_if_ne 54 d_WP_taken_42 (by decide) (fun q_w => ?_) (fun q_w => ?_)
  · refine pw_aload_n d_WP_taken_54 rfl rfl ?_
    refine pw_get d_WP_taken_55 fl_WP_35 hw.1 rfl ?_
    refine pw_iload_n d_WP_taken_58 rfl rfl ?_
    refine pw_iald d_WP_taken_59 hw.2.2.2 rfl rfl (by omega) (by decide) ?_
    refine pw_ireturn d_WP_taken_60 rfl (by decide) (by decide) ?_
    exact ⟨_, rfl, zsm_rf, Or.inr ⟨hw01.resolve_left q_w, rfl⟩, ⟨hw, hr, hpl, hp, hcr, ho, hdr⟩⟩
  · refine pw_aload_n d_WP_taken_45 rfl rfl ?_
    refine pw_get d_WP_taken_46 fl_WP_31 hw.1 rfl ?_
    refine pw_iload_n d_WP_taken_49 rfl rfl ?_
    refine pw_iald d_WP_taken_50 hw.2.2.1 rfl rfl (by omega) (by decide) ?_
    refine pw_goto 60 d_WP_taken_51 (by decide) ?_
    refine pw_ireturn d_WP_taken_60 rfl (by decide) (by decide) ?_
    exact ⟨_, rfl, zsm_rf, Or.inl ⟨q_w, rfl⟩, ⟨hw, hr, hpl, hp, hcr, ho, hdr⟩⟩
set_option maxRecDepth 20000 in
set_option maxHeartbeats 2000000 in
theorem t_taken {G : zG} {h : zH} {tc dc : Nat} {op : Int32} {tk tb ty : Nat → Int32} {jc bc : Nat} {sx sy sz kn : Int32} {sd fc cc nu pb so : Nat → Int32} {A B C D : Nat → Int32} {S : zPS} {dx dy dz : Nat → Int32} {p1 p2 p3 : Int32} (hC : cAll h tc dc op tk tb ty jc bc sx sy sz kn sd fc cc nu pb so A B C D S dx dy dz p1 p2 p3) {k w : Int32} (htc : tc ≤ 64) (hno : ¬ ((∃ i, i < tc ∧ k = nI i) ∧ 0 ≤ w ∧ w ≤ 1)) : PW G M_WP_taken (zroom 6 1 6) true (fun r h' => r = .inr (9, h.length) ∧ h' = h ++ [.inr (9, [])]) 0 (zentry 3 [.ref 0, .int (k), .int (w)]) [] h 0 0 := by
  show PW G M_WP_taken (zroom 6 1 6) true _ 0 [some (.ref 0), some (.int (k)), some (.int (w))] [] h 0 0
  obtain ⟨hw, hr, hpl, hp, hcr, ho, hdr⟩ := hC
  refine pw_iload_n d_WP_taken_0 rfl rfl ?_
  refine pw_if_lt 12 d_WP_taken_1 (by decide) (fun q_a => ?_) (fun q_a => ?_)
  · exact pw_throw (tx := "not so many blocks are taken") (names := xn) rfl d_WP_taken_12 d_WP_taken_15 d_WP_taken_16 d_WP_taken_18 d_WP_taken_21 xc_IOB xl_IOB rfl (by decide +kernel) xa_IOB rfl (by decide) (by decide) (by decide) (by decide) ⟨rfl, rfl⟩
  · refine pw_iload_n d_WP_taken_4 rfl rfl ?_
    refine pw_aload_n d_WP_taken_5 rfl rfl ?_
    refine pw_get d_WP_taken_6 fl_WP_38 hw.1 rfl ?_
    refine pw_icmp_lt 22 d_WP_taken_9 (by decide) (fun q_b => ?_) (fun q_b => ?_)
    · refine pw_iload_n d_WP_taken_22 rfl rfl ?_
      refine pw_if_lt 31 d_WP_taken_23 (by decide) (fun q_c => ?_) (fun q_c => ?_)
      · exact pw_throw (tx := "what is 0 or 1") (names := xn) rfl d_WP_taken_31 d_WP_taken_34 d_WP_taken_35 d_WP_taken_37 d_WP_taken_40 xc_IOB xl_IOB rfl (by decide +kernel) xa_IOB rfl (by decide) (by decide) (by decide) (by decide) ⟨rfl, rfl⟩
      · refine pw_iload_n d_WP_taken_26 rfl rfl ?_
        refine pw_iconst (x := 1) d_WP_taken_27 (by decide) ?_
        refine pw_icmp_le 41 d_WP_taken_28 (by decide) (fun q_d => ?_) (fun q_d => ?_)
        · refine absurd ⟨?_, zlt.mp q_c, q_d⟩ hno
          obtain ⟨i, h1, rfl⟩ := nI_of q_a
          exact ⟨i, (nI_ltI h1 (by omega)).mp q_b, rfl⟩
        · exact pw_throw (tx := "what is 0 or 1") (names := xn) rfl d_WP_taken_31 d_WP_taken_34 d_WP_taken_35 d_WP_taken_37 d_WP_taken_40 xc_IOB xl_IOB rfl (by decide +kernel) xa_IOB rfl (by decide) (by decide) (by decide) (by decide) ⟨rfl, rfl⟩
    · exact pw_throw (tx := "not so many blocks are taken") (names := xn) rfl d_WP_taken_12 d_WP_taken_15 d_WP_taken_16 d_WP_taken_18 d_WP_taken_21 xc_IOB xl_IOB rfl (by decide +kernel) xa_IOB rfl (by decide) (by decide) (by decide) (by decide) ⟨rfl, rfl⟩
theorem zWS_no {j : Nat} (h : j ≠ 0 ∧ (j < 31 ∨ 33 < j)) : j ∉ [0, 31, 32, 33] := by simp only [List.mem_cons, List.not_mem_nil, or_false]; omega
theorem cWS {h h1 : zH} {jc bc : Nat} {sx sy sz kn : Int32} {sd fc cc nu pb so A B C D : Nat → Int32} {S : zPS} {dx dy dz : Nat → Int32} {p1 p2 p3 : Int32} (hz : zsm [0, 31, 32, 33] h h1) (hr : zRk h jc bc sx sy sz kn sd fc cc nu pb so) (hpl : zPl h A B C D) (hp : zPp h S) (hcr : zCr h) (ho : (∃ (F : Int32) (ix iy iz ux uy uz : Nat → Int32) (l1 l2 l3 : Int32), zHo h F ix iy iz ux uy uz l1 l2 l3)) (hdr : zDr h dx dy dz p1 p2 p3) : zRk h1 jc bc sx sy sz kn sd fc cc nu pb so ∧ zPl h1 A B C D ∧ zPp h1 S ∧ zCr h1 ∧ (∃ (F : Int32) (ix iy iz ux uy uz : Nat → Int32) (l1 l2 l3 : Int32), zHo h1 F ix iy iz ux uy uz l1 l2 l3) ∧ zDr h1 dx dy dz p1 p2 p3 := by
  have k : ∀ {j : Nat} {c : zE}, j ≠ 0 ∧ (j < 31 ∨ 33 < j) → h[j]? = some c → h1[j]? = some c := fun hj hc => zsm_at hz (zWS_no hj) hc
  refine ⟨⟨k (by omega) hr.1, k (by omega) hr.2.1, k (by omega) hr.2.2.1, k (by omega) hr.2.2.2.1, k (by omega) hr.2.2.2.2.1, k (by omega) hr.2.2.2.2.2.1, k (by omega) hr.2.2.2.2.2.2⟩, ⟨k (by omega) hpl.1, fun j hj => k (by omega) (hpl.2.1 j hj), fun j hj => k (by omega) (hpl.2.2 j hj)⟩, ⟨k (by omega) hp.1, k (by omega) hp.2.1, k (by omega) hp.2.2.1, k (by omega) hp.2.2.2.1, k (by omega) hp.2.2.2.2.1, k (by omega) hp.2.2.2.2.2.1, k (by omega) hp.2.2.2.2.2.2⟩, ?_, ?_, ⟨k (by omega) hdr.1, fun j hj => k (by omega) (hdr.2.1 j hj), k (by omega) hdr.2.2⟩⟩
  · obtain ⟨⟨a1, a2, a3, e1⟩, ⟨b1, b2, b3, e2⟩, ⟨c1, c2, c3, e3⟩⟩ := hcr
    exact ⟨⟨a1, a2, a3, k (by omega) e1⟩, ⟨b1, b2, b3, k (by omega) e2⟩, ⟨c1, c2, c3, k (by omega) e3⟩⟩
  · obtain ⟨F, ix, iy, iz, ux, uy, uz, l1, l2, l3, ho⟩ := ho
    exact ⟨F, ix, iy, iz, ux, uy, uz, l1, l2, l3, zHo_29 hz ho⟩
set_option maxRecDepth 20000 in
set_option maxHeartbeats 2000000 in
theorem r_back {G : zG} {h : zH} {tc dc : Nat} {op : Int32} {tk tb ty : Nat → Int32} {jc bc : Nat} {sx sy sz kn : Int32} {sd fc cc nu pb so : Nat → Int32} {A B C D : Nat → Int32} {S : zPS} {dx dy dz : Nat → Int32} {p1 p2 p3 : Int32} (hC : cAll h tc dc op tk tb ty jc bc sx sy sz kn sd fc cc nu pb so A B C D S dx dy dz p1 p2 p3)  : PW G M_WP_back (zroom 1 0 0) false (fun r h' => ∃ t : Int32, r = .inl (some (.int t)) ∧ zsm zKP h h' ∧ t = nI tc ∧ cAll h' 0 dc op (zcl 64 tk) tb ty jc bc sx sy sz kn sd fc cc nu pb so A B C D S dx dy dz p1 p2 p3) 0 (zentry 2 [.ref 0]) [] h 0 0 := by
  show PW G M_WP_back (zroom 1 0 0) false _ 0 [some (.ref 0), none] [] h 0 0
  obtain ⟨hw, hr, hpl, hp, hcr, ho, hdr⟩ := hC
  refine pw_aload_n d_WP_back_0 rfl rfl ?_
  refine pw_get d_WP_back_1 fl_WP_38 hw.1 rfl ?_
  refine pw_istore_n d_WP_back_4 rfl (by decide) (pl' := [some (.ref 0), some (.int (nI tc))]) rfl ?_
  refine pw_aload_n d_WP_back_5 rfl rfl ?_
  refine pw_callVu (R' := (zroom 0 0 0)) [] (fun q => nomatch q) d_WP_back_6 lk_WP_86 hw.1 rfl rfl rfl (c_putAllBack hw) (fun h1 hh => ?_)
  refine pw_iload_n d_WP_back_9 rfl rfl ?_
  refine pw_ireturn d_WP_back_10 rfl (by decide) (by decide) ?_
  have hk := cWS hh.2 hr hpl hp hcr ho hdr
  exact ⟨_, rfl, zsm_kp hh.2 (by decide), rfl, hh.1, hk.1, hk.2.1, hk.2.2.1, hk.2.2.2.1, hk.2.2.2.2.1, hk.2.2.2.2.2⟩
