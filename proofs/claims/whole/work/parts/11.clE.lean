theorem c48 {h h1 : zH} {tc dc : Nat} {op : Int32} {tk tb ty : Nat → Int32} {A B C D : Nat → Int32} {S : zPS} {dx dy dz : Nat → Int32} {p1 p2 p3 : Int32} (hz : zsm [48] h h1) (hw : zWp h tc dc op tk tb ty) (hpl : zPl h A B C D) (hp : zPp h S) (hcr : zCr h) (ho : (∃ (F : Int32) (ix iy iz ux uy uz : Nat → Int32) (l1 l2 l3 : Int32), zHo h F ix iy iz ux uy uz l1 l2 l3)) (hdr : zDr h dx dy dz p1 p2 p3) : zWp h1 tc dc op tk tb ty ∧ zPl h1 A B C D ∧ zPp h1 S ∧ zCr h1 ∧ (∃ (F : Int32) (ix iy iz ux uy uz : Nat → Int32) (l1 l2 l3 : Int32), zHo h1 F ix iy iz ux uy uz l1 l2 l3) ∧ zDr h1 dx dy dz p1 p2 p3 := by
  have k : ∀ {j : Nat} {c : zE}, j ≠ 48 → h[j]? = some c → h1[j]? = some c := fun hj hc => zsm_at hz (by simpa using hj) hc
  refine ⟨⟨k (by omega) hw.1, k (by omega) hw.2.1, k (by omega) hw.2.2.1, k (by omega) hw.2.2.2⟩, ⟨k (by omega) hpl.1, fun j hj => k (by omega) (hpl.2.1 j hj), fun j hj => k (by omega) (hpl.2.2 j hj)⟩, ⟨k (by omega) hp.1, k (by omega) hp.2.1, k (by omega) hp.2.2.1, k (by omega) hp.2.2.2.1, k (by omega) hp.2.2.2.2.1, k (by omega) hp.2.2.2.2.2.1, k (by omega) hp.2.2.2.2.2.2⟩, ?_, ?_, ⟨k (by omega) hdr.1, fun j hj => k (by omega) (hdr.2.1 j hj), k (by omega) hdr.2.2⟩⟩
  · obtain ⟨⟨a1, a2, a3, e1⟩, ⟨b1, b2, b3, e2⟩, ⟨c1, c2, c3, e3⟩⟩ := hcr
    exact ⟨⟨a1, a2, a3, k (by omega) e1⟩, ⟨b1, b2, b3, k (by omega) e2⟩, ⟨c1, c2, c3, k (by omega) e3⟩⟩
  · obtain ⟨F, ix, iy, iz, ux, uy, uz, l1, l2, l3, ho⟩ := ho
    exact ⟨F, ix, iy, iz, ux, uy, uz, l1, l2, l3, k (by omega) ho.1, k (by omega) ho.2.1, k (by omega) ho.2.2.1, k (by omega) ho.2.2.2.1, fun j hj => k (by omega) (ho.2.2.2.2.1 j hj), fun j hj => k (by omega) (ho.2.2.2.2.2 j hj)⟩
set_option maxRecDepth 20000 in
set_option maxHeartbeats 2000000 in
theorem r_corner {G : zG} {h : zH} {tc dc : Nat} {op : Int32} {tk tb ty : Nat → Int32} {jc bc : Nat} {sx sy sz kn : Int32} {sd fc cc nu pb so : Nat → Int32} {A B C D : Nat → Int32} {S : zPS} {dx dy dz : Nat → Int32} {p1 p2 p3 : Int32} (hC : cAll h tc dc op tk tb ty jc bc sx sy sz kn sd fc cc nu pb so A B C D S dx dy dz p1 p2 p3) {k : Nat} (hk : k < bc) (hbc : bc ≤ 64) (hS : S.1 ≤ 220) (hcc : cc k = nI (zcp (sd k ||| 1344) S.2.1 S.2.2.1 S.2.2.2.1 S.2.2.2.2.1 S.2.2.2.2.2.1 S.2.2.2.2.2.2 so S.1).1) {i : Nat} (hi : i < (zcp (sd k ||| 1344) S.2.1 S.2.2.1 S.2.2.2.1 S.2.2.2.2.1 S.2.2.2.2.2.1 S.2.2.2.2.2.2 so S.1).1) {w : Int32} (hw03 : w = 0 ∨ w = 1 ∨ w = 2 ∨ w = 3) : PW G M_WP_corner (zroom 4 0 0) false (fun r h' => ∃ t : Int32, r = .inl (some (.int t)) ∧ zsm zKP h h' ∧ (∃ p9, p9 < 220 ∧ (zcp (sd k ||| 1344) S.2.1 S.2.2.1 S.2.2.2.1 S.2.2.2.2.1 S.2.2.2.2.2.1 S.2.2.2.2.2.2 so S.1).2 i = nI p9 ∧ ((w = 0 ∧ t = S.2.1 p9) ∨ (w = 1 ∧ t = S.2.2.1 p9) ∨ (w = 2 ∧ t = S.2.2.2.1 p9) ∨ (w = 3 ∧ t = S.2.2.2.2.1 p9))) ∧ cAll h' tc dc op tk tb ty jc bc sx sy sz kn sd fc cc nu pb ((zcp (sd k ||| 1344) S.2.1 S.2.2.1 S.2.2.2.1 S.2.2.2.2.1 S.2.2.2.2.2.1 S.2.2.2.2.2.2 so S.1).2) A B C D S dx dy dz p1 p2 p3) 0 (zentry 5 [.ref 0, .int (nI k), .int (nI i), .int (w)]) [] h 0 0 := by
  show PW G M_WP_corner (zroom 4 0 0) false _ 0 [some (.ref 0), some (.int (nI k)), some (.int (nI i)), some (.int (w)), none] [] h 0 0
  obtain ⟨hw, hr, hpl, hp, hcr, ho, hdr⟩ := hC
  have hok := zcp_ok (sd k ||| 1344) S.2.1 S.2.2.1 S.2.2.2.1 S.2.2.2.2.1 S.2.2.2.2.2.1 S.2.2.2.2.2.2 so S.1 hS
  obtain ⟨p9, hp220, hp9⟩ := hok.2 i hi
  refine pw_aload_n d_WP_corner_0 rfl rfl ?_
  refine pw_iload_n d_WP_corner_1 rfl rfl ?_
  refine pw_callV0 (R' := (zroom 0 0 0)) (h2 := h) [.int (nI k)] (fun q => nomatch q) d_WP_corner_2 lk_WP_118 hw.1 rfl rfl rfl (c_needBlock hw hr hk hbc) ?_
  refine pw_iload_n d_WP_corner_5 rfl rfl ?_
  refine pw_if_lt 22 d_WP_corner_6 (by decide) (fun q => absurd q (nI_pos (by omega))) (fun _ => ?_)
  refine pw_iload_n d_WP_corner_9 rfl rfl ?_
  refine pw_aload_n d_WP_corner_10 rfl rfl ?_
  refine pw_get d_WP_corner_11 fl_WP_57 hw.1 rfl ?_
  refine pw_get d_WP_corner_14 fl_WP_128 hr.1 rfl ?_
  refine pw_iload_n d_WP_corner_17 rfl rfl ?_
  refine pw_iald d_WP_corner_18 hr.2.2.2.1 rfl rfl (by omega) (by decide) ?_
  refine pw_icmp_lt 32 d_WP_corner_19 (by decide) (fun _ => ?_) (fun q => absurd (by rw [hcc]; exact nI_lt hi (by omega)) q)
  refine pw_aload_n d_WP_corner_32 rfl rfl ?_
  refine pw_get d_WP_corner_33 fl_WP_57 hw.1 rfl ?_
  refine pw_iload_n d_WP_corner_36 rfl rfl ?_
  refine pw_iload_n d_WP_corner_37 rfl rfl ?_
  refine pw_callVq (R' := (zroom 3 0 0)) [.int (nI k), .int (nI i)] (fun q => nomatch q) d_WP_corner_38 lk_WP_138 hr.1 rfl rfl rfl (c_cornerPoint hp hS hr (show k < 64 by omega) (show i < 220 by omega)) (fun r h' q => ⟨_, q.1⟩) (fun v h1 hh => ?_)
  obtain ⟨hh1, hh2, hh3⟩ := hh
  cases hh1
  obtain ⟨hw1, hpl1, hp1, hcr1, ho1, hdr1⟩ := c48 hh3 hw hpl hp hcr ho hdr
  refine pw_istore d_WP_corner_41 (by decide) (pl' := [some (.ref 0), some (.int (nI k)), some (.int (nI i)), some (.int (w)), some (.int ((zcp (sd k ||| 1344) S.2.1 S.2.2.1 S.2.2.2.1 S.2.2.2.2.1 S.2.2.2.2.2.1 S.2.2.2.2.2.2 so S.1).2 i))]) rfl ?_
  refine pw_iload_n d_WP_corner_43 rfl rfl ?_
  rcases hw03 with rfl | rfl | rfl | rfl
  · refine pw_tabIn (tgt := 76) d_WP_corner_44 (by decide) (by decide) rfl (by decide) ?_
    refine pw_aload_n d_WP_corner_76 rfl rfl ?_
    refine pw_get d_WP_corner_77 fl_WP_57 (zsm_at hh3 (by decide) hw.1) rfl ?_
    refine pw_get d_WP_corner_80 fl_WP_142 hh2.1 rfl ?_
    refine pw_get d_WP_corner_83 fl_WP_146 (zsm_at hh3 (by decide) hp.1) rfl ?_
    refine pw_iload d_WP_corner_86 rfl ?_
    refine pw_iald d_WP_corner_88 (zsm_at hh3 (by decide) hp.2.1) rfl hp9 hp220 (by decide) ?_
    refine pw_ireturn d_WP_corner_89 rfl (by decide) (by decide) ?_
    exact ⟨_, rfl, (zsm_kp hh3 (by decide)), ⟨p9, hp220, hp9, Or.inl ⟨rfl, rfl⟩⟩, ⟨hw1, hh2, hpl1, hp1, hcr1, ho1, hdr1⟩⟩
  · refine pw_tabIn (tgt := 90) d_WP_corner_44 (by decide) (by decide) rfl (by decide) ?_
    refine pw_aload_n d_WP_corner_90 rfl rfl ?_
    refine pw_get d_WP_corner_91 fl_WP_57 (zsm_at hh3 (by decide) hw.1) rfl ?_
    refine pw_get d_WP_corner_94 fl_WP_142 hh2.1 rfl ?_
    refine pw_get d_WP_corner_97 fl_WP_151 (zsm_at hh3 (by decide) hp.1) rfl ?_
    refine pw_iload d_WP_corner_100 rfl ?_
    refine pw_iald d_WP_corner_102 (zsm_at hh3 (by decide) hp.2.2.1) rfl hp9 hp220 (by decide) ?_
    refine pw_ireturn d_WP_corner_103 rfl (by decide) (by decide) ?_
    exact ⟨_, rfl, (zsm_kp hh3 (by decide)), ⟨p9, hp220, hp9, Or.inr (Or.inl ⟨rfl, rfl⟩)⟩, ⟨hw1, hh2, hpl1, hp1, hcr1, ho1, hdr1⟩⟩
  · refine pw_tabIn (tgt := 104) d_WP_corner_44 (by decide) (by decide) rfl (by decide) ?_
    refine pw_aload_n d_WP_corner_104 rfl rfl ?_
    refine pw_get d_WP_corner_105 fl_WP_57 (zsm_at hh3 (by decide) hw.1) rfl ?_
    refine pw_get d_WP_corner_108 fl_WP_142 hh2.1 rfl ?_
    refine pw_get d_WP_corner_111 fl_WP_154 (zsm_at hh3 (by decide) hp.1) rfl ?_
    refine pw_iload d_WP_corner_114 rfl ?_
    refine pw_iald d_WP_corner_116 (zsm_at hh3 (by decide) hp.2.2.2.1) rfl hp9 hp220 (by decide) ?_
    refine pw_ireturn d_WP_corner_117 rfl (by decide) (by decide) ?_
    exact ⟨_, rfl, (zsm_kp hh3 (by decide)), ⟨p9, hp220, hp9, Or.inr (Or.inr (Or.inl ⟨rfl, rfl⟩))⟩, ⟨hw1, hh2, hpl1, hp1, hcr1, ho1, hdr1⟩⟩
  · refine pw_tabIn (tgt := 118) d_WP_corner_44 (by decide) (by decide) rfl (by decide) ?_
    refine pw_aload_n d_WP_corner_118 rfl rfl ?_
    refine pw_get d_WP_corner_119 fl_WP_57 (zsm_at hh3 (by decide) hw.1) rfl ?_
    refine pw_get d_WP_corner_122 fl_WP_142 hh2.1 rfl ?_
    refine pw_get d_WP_corner_125 fl_WP_157 (zsm_at hh3 (by decide) hp.1) rfl ?_
    refine pw_iload d_WP_corner_128 rfl ?_
    refine pw_iald d_WP_corner_130 (zsm_at hh3 (by decide) hp.2.2.2.2.1) rfl hp9 hp220 (by decide) ?_
    refine pw_ireturn d_WP_corner_131 rfl (by decide) (by decide) ?_
    exact ⟨_, rfl, (zsm_kp hh3 (by decide)), ⟨p9, hp220, hp9, Or.inr (Or.inr (Or.inr (⟨rfl, rfl⟩)))⟩, ⟨hw1, hh2, hpl1, hp1, hcr1, ho1, hdr1⟩⟩
set_option maxRecDepth 20000 in
set_option maxHeartbeats 2000000 in
theorem t_cornerI {G : zG} {h : zH} {tc dc : Nat} {op : Int32} {tk tb ty : Nat → Int32} {jc bc : Nat} {sx sy sz kn : Int32} {sd fc cc nu pb so : Nat → Int32} {A B C D : Nat → Int32} {S : zPS} {dx dy dz : Nat → Int32} {p1 p2 p3 : Int32} (hC : cAll h tc dc op tk tb ty jc bc sx sy sz kn sd fc cc nu pb so A B C D S dx dy dz p1 p2 p3) {k : Nat} (hk : k < bc) (hbc : bc ≤ 64) (hS : S.1 ≤ 220) (hcc : cc k = nI (zcp (sd k ||| 1344) S.2.1 S.2.2.1 S.2.2.2.1 S.2.2.2.2.1 S.2.2.2.2.2.1 S.2.2.2.2.2.2 so S.1).1) {i w : Int32} (hno : ¬ ∃ I9, I9 < (zcp (sd k ||| 1344) S.2.1 S.2.2.1 S.2.2.2.1 S.2.2.2.2.1 S.2.2.2.2.2.1 S.2.2.2.2.2.2 so S.1).1 ∧ i = nI I9) : PW G M_WP_corner (zroom 6 1 6) true (fun r h' => r = .inr (9, h.length) ∧ h' = h ++ [.inr (9, [])]) 0 (zentry 5 [.ref 0, .int (nI k), .int (i), .int (w)]) [] h 0 0 := by
  show PW G M_WP_corner (zroom 6 1 6) true _ 0 [some (.ref 0), some (.int (nI k)), some (.int (i)), some (.int (w)), none] [] h 0 0
  obtain ⟨hw, hr, hpl, hp, hcr, ho, hdr⟩ := hC
  refine pw_aload_n d_WP_corner_0 rfl rfl ?_
  refine pw_iload_n d_WP_corner_1 rfl rfl ?_
  refine pw_callV0 (R' := (zroom 0 0 0)) (h2 := h) [.int (nI k)] (fun _ => rfl) d_WP_corner_2 lk_WP_118 hw.1 rfl rfl rfl (c_needBlock hw hr hk hbc) ?_
  refine pw_iload_n d_WP_corner_5 rfl rfl ?_
  refine pw_if_lt 22 d_WP_corner_6 (by decide) (fun q_a => ?_) (fun q_a => ?_)
  · exact pw_throw (tx := "no such corner") (names := xn) rfl d_WP_corner_22 d_WP_corner_25 d_WP_corner_26 d_WP_corner_28 d_WP_corner_31 xc_IOB xl_IOB rfl (by decide +kernel) xa_IOB rfl (by decide) (by decide) (by decide) (by decide) ⟨rfl, rfl⟩
  · refine pw_iload_n d_WP_corner_9 rfl rfl ?_
    refine pw_aload_n d_WP_corner_10 rfl rfl ?_
    refine pw_get d_WP_corner_11 fl_WP_57 hw.1 rfl ?_
    refine pw_get d_WP_corner_14 fl_WP_128 hr.1 rfl ?_
    refine pw_iload_n d_WP_corner_17 rfl rfl ?_
    refine pw_iald d_WP_corner_18 hr.2.2.2.1 rfl rfl (by omega) (by decide) ?_
    refine pw_icmp_lt 32 d_WP_corner_19 (by decide) (fun q_b => ?_) (fun q_b => ?_)
    · obtain ⟨J, h1, rfl⟩ := nI_of q_a
      rw [hcc] at q_b
      have hok := zcp_ok (sd k ||| 1344) S.2.1 S.2.2.1 S.2.2.2.1 S.2.2.2.2.1 S.2.2.2.2.2.1 S.2.2.2.2.2.2 so S.1 hS
      exact absurd ⟨J, (nI_ltI h1 (by omega)).mp q_b, rfl⟩ hno
    · exact pw_throw (tx := "no such corner") (names := xn) rfl d_WP_corner_22 d_WP_corner_25 d_WP_corner_26 d_WP_corner_28 d_WP_corner_31 xc_IOB xl_IOB rfl (by decide +kernel) xa_IOB rfl (by decide) (by decide) (by decide) (by decide) ⟨rfl, rfl⟩
set_option maxRecDepth 20000 in
set_option maxHeartbeats 2000000 in
theorem t_cornerW {G : zG} {h : zH} {tc dc : Nat} {op : Int32} {tk tb ty : Nat → Int32} {jc bc : Nat} {sx sy sz kn : Int32} {sd fc cc nu pb so : Nat → Int32} {A B C D : Nat → Int32} {S : zPS} {dx dy dz : Nat → Int32} {p1 p2 p3 : Int32} (hC : cAll h tc dc op tk tb ty jc bc sx sy sz kn sd fc cc nu pb so A B C D S dx dy dz p1 p2 p3) {k : Nat} (hk : k < bc) (hbc : bc ≤ 64) (hS : S.1 ≤ 220) (hcc : cc k = nI (zcp (sd k ||| 1344) S.2.1 S.2.2.1 S.2.2.2.1 S.2.2.2.2.1 S.2.2.2.2.2.1 S.2.2.2.2.2.2 so S.1).1) {i : Nat} (hi : i < (zcp (sd k ||| 1344) S.2.1 S.2.2.1 S.2.2.2.1 S.2.2.2.2.1 S.2.2.2.2.2.1 S.2.2.2.2.2.2 so S.1).1) {w : Int32} (hno : ¬ (0 ≤ w ∧ w ≤ 3)) : PW G M_WP_corner (zroom 6 1 6) false (fun r h' => ∃ h1, zsm zKP h h1 ∧ cAll h1 tc dc op tk tb ty jc bc sx sy sz kn sd fc cc nu pb ((zcp (sd k ||| 1344) S.2.1 S.2.2.1 S.2.2.2.1 S.2.2.2.2.1 S.2.2.2.2.2.1 S.2.2.2.2.2.2 so S.1).2) A B C D S dx dy dz p1 p2 p3 ∧ r = .inr (9, h1.length) ∧ h' = h1 ++ [.inr (9, [])]) 0 (zentry 5 [.ref 0, .int (nI k), .int (nI i), .int (w)]) [] h 0 0 := by
  show PW G M_WP_corner (zroom 6 1 6) false _ 0 [some (.ref 0), some (.int (nI k)), some (.int (nI i)), some (.int (w)), none] [] h 0 0
  obtain ⟨hw, hr, hpl, hp, hcr, ho, hdr⟩ := hC
  have hok := zcp_ok (sd k ||| 1344) S.2.1 S.2.2.1 S.2.2.2.1 S.2.2.2.2.1 S.2.2.2.2.2.1 S.2.2.2.2.2.2 so S.1 hS
  obtain ⟨p9, hp220, hp9⟩ := hok.2 i hi
  refine pw_aload_n d_WP_corner_0 rfl rfl ?_
  refine pw_iload_n d_WP_corner_1 rfl rfl ?_
  refine pw_callV0 (R' := (zroom 0 0 0)) (h2 := h) [.int (nI k)] (fun q => nomatch q) d_WP_corner_2 lk_WP_118 hw.1 rfl rfl rfl (c_needBlock hw hr hk hbc) ?_
  refine pw_iload_n d_WP_corner_5 rfl rfl ?_
  refine pw_if_lt 22 d_WP_corner_6 (by decide) (fun q => absurd q (nI_pos (by omega))) (fun _ => ?_)
  refine pw_iload_n d_WP_corner_9 rfl rfl ?_
  refine pw_aload_n d_WP_corner_10 rfl rfl ?_
  refine pw_get d_WP_corner_11 fl_WP_57 hw.1 rfl ?_
  refine pw_get d_WP_corner_14 fl_WP_128 hr.1 rfl ?_
  refine pw_iload_n d_WP_corner_17 rfl rfl ?_
  refine pw_iald d_WP_corner_18 hr.2.2.2.1 rfl rfl (by omega) (by decide) ?_
  refine pw_icmp_lt 32 d_WP_corner_19 (by decide) (fun _ => ?_) (fun q => absurd (by rw [hcc]; exact nI_lt hi (by omega)) q)
  refine pw_aload_n d_WP_corner_32 rfl rfl ?_
  refine pw_get d_WP_corner_33 fl_WP_57 hw.1 rfl ?_
  refine pw_iload_n d_WP_corner_36 rfl rfl ?_
  refine pw_iload_n d_WP_corner_37 rfl rfl ?_
  refine pw_callVq (R' := (zroom 3 0 0)) [.int (nI k), .int (nI i)] (fun q => nomatch q) d_WP_corner_38 lk_WP_138 hr.1 rfl rfl rfl (c_cornerPoint hp hS hr (show k < 64 by omega) (show i < 220 by omega)) (fun r h' q => ⟨_, q.1⟩) (fun v h1 hh => ?_)
  obtain ⟨hh1, hh2, hh3⟩ := hh
  cases hh1
  obtain ⟨hw1, hpl1, hp1, hcr1, ho1, hdr1⟩ := c48 hh3 hw hpl hp hcr ho hdr
  refine pw_istore d_WP_corner_41 (by decide) (pl' := [some (.ref 0), some (.int (nI k)), some (.int (nI i)), some (.int (w)), some (.int ((zcp (sd k ||| 1344) S.2.1 S.2.2.1 S.2.2.2.1 S.2.2.2.2.1 S.2.2.2.2.2.1 S.2.2.2.2.2.2 so S.1).2 i))]) rfl ?_
  refine pw_iload_n d_WP_corner_43 rfl rfl ?_
  refine pw_tabOut (tgt := 132) d_WP_corner_44 (zout3 hno) (by decide) ?_
  refine pw_rebase (R' := (zroom 6 1 6)) ⟨by decide, by decide, by decide, by decide⟩ rfl (pw_throw (tx := "what is 0 to 3") (names := xn) rfl d_WP_corner_132 d_WP_corner_135 d_WP_corner_136 d_WP_corner_138 d_WP_corner_141 xc_IOB xl_IOB rfl (by decide +kernel) xa_IOB rfl (by decide) (by decide) (by decide) (by decide) ?_)
  exact ⟨h1, zsm_kp hh3 (by decide), ⟨hw1, hh2, hpl1, hp1, hcr1, ho1, hdr1⟩, rfl, rfl⟩
theorem cHS {h h1 : zH} {tc dc : Nat} {op : Int32} {tk tb ty : Nat → Int32} {jc bc : Nat} {sx sy sz kn : Int32} {sd fc cc nu pb so A B C D : Nat → Int32} {S : zPS} {dx dy dz : Nat → Int32} {p1 p2 p3 : Int32} (hz : zsm zHS h h1) (hw : zWp h tc dc op tk tb ty) (hr : zRk h jc bc sx sy sz kn sd fc cc nu pb so) (hpl : zPl h A B C D) (hp : zPp h S) (hcr : zCr h) (hdr : zDr h dx dy dz p1 p2 p3) : zWp h1 tc dc op tk tb ty ∧ zRk h1 jc bc sx sy sz kn sd fc cc nu pb so ∧ zPl h1 A B C D ∧ zPp h1 S ∧ zCr h1 ∧ zDr h1 dx dy dz p1 p2 p3 := by
  refine ⟨zWp_sm hz hw, zRk_sm hz hr, zPl_sm hz hpl, zPt_sm hz (fun j a1 a2 => zHS_no (by omega)) hp, ?_, zDr_sm hz hdr⟩
  obtain ⟨⟨a1, a2, a3, e1⟩, ⟨b1, b2, b3, e2⟩, ⟨c1, c2, c3, e3⟩⟩ := hcr
  exact ⟨⟨a1, a2, a3, zsm_at hz (zHS_no (by omega)) e1⟩, ⟨b1, b2, b3, zsm_at hz (zHS_no (by omega)) e2⟩, ⟨c1, c2, c3, zsm_at hz (zHS_no (by omega)) e3⟩⟩
theorem zHS_kp : ∀ j, j ∈ zHS → j ∈ zKP := by decide
set_option maxRecDepth 20000 in
set_option maxHeartbeats 2000000 in
theorem r_goes {G : zG} {h : zH} {tc dc : Nat} {op : Int32} {tk tb ty : Nat → Int32} {jc bc : Nat} {sx sy sz kn : Int32} {sd fc cc nu pb so : Nat → Int32} {A B C D : Nat → Int32} {S : zPS} {dx dy dz : Nat → Int32} {p1 p2 p3 : Int32} (hC : cAll h tc dc op tk tb ty jc bc sx sy sz kn sd fc cc nu pb so A B C D S dx dy dz p1 p2 p3) {k : Nat} (hk : k < bc) (hbc : bc ≤ 64) (hnu : ∀ m, m < 64 → nu m = -1 ∨ ∃ o, o < 64 ∧ nu m = nI o) (htk : ∀ o, o < 64 → tk o = 0 ∨ tk o = 1) {s9 : Nat} (hs9 : s9 < 64) (hsd : sd k = nI s9) {d : Nat} (hd : d < dc) (hdc : dc ≤ 8) : PW G M_WP_goes (zroom 4 0 0) false (fun r h' => ∃ t : Int32, r = .inl (some (.int t)) ∧ zsm zKP h h' ∧ ((t = 1 ∧ (tk k = 0 ∧ zGw op tk sd fc nu A B C k s9 (dx d) (dy d) (dz d))) ∨ (t = 0 ∧ ¬ (tk k = 0 ∧ zGw op tk sd fc nu A B C k s9 (dx d) (dy d) (dz d)))) ∧ cAll h' tc dc op tk tb ty jc bc sx sy sz kn sd fc cc nu pb so A B C D S dx dy dz p1 p2 p3) 0 (zentry 3 [.ref 0, .int (nI k), .int (nI d)]) [] h 0 0 := by
  show PW G M_WP_goes (zroom 4 0 0) false _ 0 [some (.ref 0), some (.int (nI k)), some (.int (nI d))] [] h 0 0
  obtain ⟨hw, hr, hpl, hp, hcr, ho, hdr⟩ := hC
  refine pw_aload_n d_WP_goes_0 rfl rfl ?_
  refine pw_iload_n d_WP_goes_1 rfl rfl ?_
  refine pw_callV0 (R' := (zroom 0 0 0)) (h2 := h) [.int (nI k)] (fun q => nomatch q) d_WP_goes_2 lk_WP_118 hw.1 rfl rfl rfl (c_needBlock hw hr hk hbc) ?_
  refine pw_iload_n d_WP_goes_5 rfl rfl ?_
  refine pw_if_lt 17 d_WP_goes_6 (by decide) (fun q => absurd q (nI_pos (by omega))) (fun _ => ?_)
  refine pw_iload_n d_WP_goes_9 rfl rfl ?_
  refine pw_aload_n d_WP_goes_10 rfl rfl ?_
  refine pw_get d_WP_goes_11 fl_WP_42 hw.1 rfl ?_
  refine pw_icmp_lt 27 d_WP_goes_14 (by decide) (fun _ => ?_) (fun q => absurd (nI_lt hd (by omega)) q)
  refine pw_aload_n d_WP_goes_27 rfl rfl ?_
  refine pw_get d_WP_goes_28 fl_WP_27 hw.1 rfl ?_
  refine pw_iload_n d_WP_goes_31 rfl rfl ?_
  refine pw_zald d_WP_goes_32 hw.2.1 rfl rfl (by omega) (by decide) ?_
  refine pw_if_eq 38 d_WP_goes_33 (by decide) (fun q_k => ?_) (fun q_k => ?_)
  · refine pw_aload_n d_WP_goes_38 rfl rfl ?_
    refine pw_iload_n d_WP_goes_39 rfl rfl ?_
    obtain ⟨F0, jx, jy, jz, ux, uy, uz, l1, l2, l3, ho⟩ := ho
    refine pw_callVu (R' := (zroom 3 0 0)) [.int (nI k)] (fun q => nomatch q) d_WP_goes_40 lk_WP_172 hw.1 rfl rfl rfl (c_lookAtHold hw hr hpl hnu htk (show k < 64 by omega) hs9 hsd ho) (fun h1 hh => ?_)
    obtain ⟨F, ix, iy, iz, ho1, hz, hv1, hv2⟩ := hh
    obtain ⟨hw1, hr1, hpl1, hp1, hcr1, hdr1⟩ := cHS hz hw hr hpl hp hcr hdr
    refine pw_aload_n d_WP_goes_43 rfl rfl ?_
    refine pw_get d_WP_goes_44 fl_WP_12 hw1.1 rfl ?_
    refine pw_aload_n d_WP_goes_47 rfl rfl ?_
    refine pw_get d_WP_goes_48 fl_WP_18 hw1.1 rfl ?_
    refine pw_iload_n d_WP_goes_51 rfl rfl ?_
    refine pw_aald (y := 76 + d) d_WP_goes_52 hdr1.1 rfl rfl (by omega) (by decide) (zDrs_at (by omega)) ?_
    refine pw_callVt (R' := (zroom 1 0 0)) [.ref (76 + d)] (fun q => nomatch q) d_WP_goes_53 lk_WP_175 ho1.1 rfl rfl rfl (c_lets ho1 (hdr1.2.1 d (by omega))) (fun t ht => ?_)
    refine pw_zreturn d_WP_goes_56 rfl (by rcases ht with ⟨e, -⟩ | ⟨e, -⟩; exact Or.inr e; exact Or.inl e) (by decide) (by decide) ?_
    rcases ht with ⟨rfl, h1⟩ | ⟨rfl, h1⟩
    · exact ⟨1, rfl, zsm_kp hz zHS_kp, Or.inl ⟨rfl, q_k, (zgo hv1 hv2).mp h1⟩, ⟨hw1, hr1, hpl1, hp1, hcr1, ⟨_, _, _, _, _, _, _, _, _, _, ho1⟩, hdr1⟩⟩
    · exact ⟨0, rfl, zsm_kp hz zHS_kp, Or.inr ⟨rfl, fun z => h1 ((zgo hv1 hv2).mpr z.2)⟩, ⟨hw1, hr1, hpl1, hp1, hcr1, ⟨_, _, _, _, _, _, _, _, _, _, ho1⟩, hdr1⟩⟩
  · refine pw_iconst (x := 0) d_WP_goes_36 (by decide) ?_
    refine pw_zreturn d_WP_goes_37 rfl (by decide) (by decide) (by decide) ?_
    exact ⟨0, rfl, zsm_rf, Or.inr ⟨rfl, fun z => q_k z.1⟩, ⟨hw, hr, hpl, hp, hcr, ho, hdr⟩⟩
set_option maxRecDepth 20000 in
set_option maxHeartbeats 2000000 in
theorem t_goesD {G : zG} {h : zH} {tc dc : Nat} {op : Int32} {tk tb ty : Nat → Int32} {jc bc : Nat} {sx sy sz kn : Int32} {sd fc cc nu pb so : Nat → Int32} {A B C D : Nat → Int32} {S : zPS} {dx dy dz : Nat → Int32} {p1 p2 p3 : Int32} (hC : cAll h tc dc op tk tb ty jc bc sx sy sz kn sd fc cc nu pb so A B C D S dx dy dz p1 p2 p3) {k : Nat} (hk : k < bc) (hbc : bc ≤ 64) {j : Int32} (hdc : dc ≤ 8) (hno : ¬ ∃ J, J < dc ∧ j = nI J) : PW G M_WP_goes (zroom 6 1 6) true (fun r h' => r = .inr (9, h.length) ∧ h' = h ++ [.inr (9, [])]) 0 (zentry 3 [.ref 0, .int (nI k), .int (j)]) [] h 0 0 := by
  show PW G M_WP_goes (zroom 6 1 6) true _ 0 [some (.ref 0), some (.int (nI k)), some (.int (j))] [] h 0 0
  obtain ⟨hw, hr, hpl, hp, hcr, ho, hdr⟩ := hC
  refine pw_aload_n d_WP_goes_0 rfl rfl ?_
  refine pw_iload_n d_WP_goes_1 rfl rfl ?_
  refine pw_callV0 (R' := (zroom 0 0 0)) (h2 := h) [.int (nI k)] (fun _ => rfl) d_WP_goes_2 lk_WP_118 hw.1 rfl rfl rfl (c_needBlock hw hr hk hbc) ?_
  refine pw_iload_n d_WP_goes_5 rfl rfl ?_
  refine pw_if_lt 17 d_WP_goes_6 (by decide) (fun q_a => ?_) (fun q_a => ?_)
  · exact pw_throw (tx := "no such direction") (names := xn) rfl d_WP_goes_17 d_WP_goes_20 d_WP_goes_21 d_WP_goes_23 d_WP_goes_26 xc_IOB xl_IOB rfl (by decide +kernel) xa_IOB rfl (by decide) (by decide) (by decide) (by decide) ⟨rfl, rfl⟩
  · refine pw_iload_n d_WP_goes_9 rfl rfl ?_
    refine pw_aload_n d_WP_goes_10 rfl rfl ?_
    refine pw_get d_WP_goes_11 fl_WP_42 hw.1 rfl ?_
    refine pw_icmp_lt 27 d_WP_goes_14 (by decide) (fun q_b => ?_) (fun q_b => ?_)
    · obtain ⟨J, h1, rfl⟩ := nI_of q_a
      exact absurd ⟨J, (nI_ltI h1 (by omega)).mp q_b, rfl⟩ hno
    · exact pw_throw (tx := "no such direction") (names := xn) rfl d_WP_goes_17 d_WP_goes_20 d_WP_goes_21 d_WP_goes_23 d_WP_goes_26 xc_IOB xl_IOB rfl (by decide +kernel) xa_IOB rfl (by decide) (by decide) (by decide) (by decide) ⟨rfl, rfl⟩
