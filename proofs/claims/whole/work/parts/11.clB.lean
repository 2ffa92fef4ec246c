set_option maxRecDepth 20000 in
set_option maxHeartbeats 2000000 in
theorem r_open0 {G : zG} {h : zH} {tc dc : Nat} {op : Int32} {tk tb ty : Nat → Int32} {jc bc : Nat} {sx sy sz kn : Int32} {sd fc cc nu pb so : Nat → Int32} {A B C D : Nat → Int32} {S : zPS} {dx dy dz : Nat → Int32} {p1 p2 p3 : Int32} (hC : cAll h tc dc op tk tb ty jc bc sx sy sz kn sd fc cc nu pb so A B C D S dx dy dz p1 p2 p3) {f : Nat} (h6 : 6 ≤ f) (h12 : f < 12) {b : Int32} (hb : (if (op >>> (nI f &&& 31)) &&& 1 = 1 then 1 else 0) = b) : PW G M_WP_open (zroom 1 0 0) true (fun r h' => ∃ t : Int32, r = .inl (some (.int t)) ∧ zsm zKP h h' ∧ t = 0 ∧ cAll h' tc dc op tk tb ty jc bc sx sy sz kn sd fc cc nu pb so A B C D S dx dy dz p1 p2 p3) 0 (zentry 4 [.ref 0, .int (nI f), .int (b)]) [] h 0 0 := by
  show PW G M_WP_open (zroom 1 0 0) true _ 0 [some (.ref 0), some (.int (nI f)), some (.int (b)), none] [] h 0 0
  obtain ⟨hw, hr, hpl, hp, hcr, ho, hdr⟩ := hC
  refine pw_iload_n d_WP_open_0 rfl rfl ?_
  refine pw_bipush (x := 6) d_WP_open_1 (by decide) ?_
  refine pw_icmp_lt 12 d_WP_open_3 (by decide) (fun q => absurd q (fun z => absurd ((nI_ltI (a := f) (b := 6) (by omega) (by decide)).mp z) (by omega))) (fun _ => ?_)
  refine pw_iload_n d_WP_open_6 rfl rfl ?_
  refine pw_bipush (x := 12) d_WP_open_7 (by decide) ?_
  refine pw_icmp_lt 22 d_WP_open_9 (by decide) (fun _ => ?_) (fun q => absurd (nI_lt (b := 12) h12 (by decide)) q)
  refine pw_aload_n d_WP_open_22 rfl rfl ?_
  refine pw_get d_WP_open_23 fl_WP_45 hw.1 rfl ?_
  refine pw_iload_n d_WP_open_26 rfl rfl ?_
  refine pw_callS1 (R' := (zroom 0 0 0)) (h2 := h) [.int (op), .int (nI f)] (fun _ => rfl) d_WP_open_27 lk_WP_101 rfl rfl c_hasBit ?_
  refine pw_iload_n d_WP_open_30 rfl rfl ?_
  refine pw_icmp_eq 38 d_WP_open_31 (by decide) (fun _ => ?_) (fun q => absurd hb q)
  refine pw_iconst (x := 0) d_WP_open_38 (by decide) ?_
  refine pw_istore_n d_WP_open_39 rfl (by decide) (pl' := [some (.ref 0), some (.int (nI f)), some (.int (b)), some (.int (0))]) rfl ?_
  refine pw_iload_n d_WP_open_40 rfl rfl ?_
  refine pw_if_eq 56 d_WP_open_41 (by decide) (fun _ => ?_) (fun q => absurd rfl q)
  refine pw_iload_n d_WP_open_56 rfl rfl ?_
  refine pw_zreturn d_WP_open_57 rfl (Or.inl rfl) (by decide) (by decide) ?_
  exact ⟨0, rfl, zsm_rf, rfl, ⟨hw, hr, hpl, hp, hcr, ho, hdr⟩⟩
set_option maxRecDepth 20000 in
set_option maxHeartbeats 2000000 in
theorem r_open1 {G : zG} {h : zH} {tc dc : Nat} {op : Int32} {tk tb ty : Nat → Int32} {jc bc : Nat} {sx sy sz kn : Int32} {sd fc cc nu pb so : Nat → Int32} {A B C D : Nat → Int32} {S : zPS} {dx dy dz : Nat → Int32} {p1 p2 p3 : Int32} (hC : cAll h tc dc op tk tb ty jc bc sx sy sz kn sd fc cc nu pb so A B C D S dx dy dz p1 p2 p3) {f : Nat} (h6 : 6 ≤ f) (h12 : f < 12) {b : Int32} (hb : ¬ (if (op >>> (nI f &&& 31)) &&& 1 = 1 then 1 else 0) = b) : PW G M_WP_open (zroom 1 0 0) false (fun r h' => ∃ t : Int32, r = .inl (some (.int t)) ∧ zsm zKP h h' ∧ t = 1 ∧ cAll h' tc dc (op ^^^ (1 <<< ((nI f) &&& 31))) tk tb ty jc bc sx sy sz kn sd fc cc nu pb so A B C D S dx dy dz p1 p2 p3) 0 (zentry 4 [.ref 0, .int (nI f), .int (b)]) [] h 0 0 := by
  show PW G M_WP_open (zroom 1 0 0) false _ 0 [some (.ref 0), some (.int (nI f)), some (.int (b)), none] [] h 0 0
  obtain ⟨hw, hr, hpl, hp, hcr, ho, hdr⟩ := hC
  refine pw_iload_n d_WP_open_0 rfl rfl ?_
  refine pw_bipush (x := 6) d_WP_open_1 (by decide) ?_
  refine pw_icmp_lt 12 d_WP_open_3 (by decide) (fun q => absurd q (fun z => absurd ((nI_ltI (a := f) (b := 6) (by omega) (by decide)).mp z) (by omega))) (fun _ => ?_)
  refine pw_iload_n d_WP_open_6 rfl rfl ?_
  refine pw_bipush (x := 12) d_WP_open_7 (by decide) ?_
  refine pw_icmp_lt 22 d_WP_open_9 (by decide) (fun _ => ?_) (fun q => absurd (nI_lt (b := 12) h12 (by decide)) q)
  refine pw_aload_n d_WP_open_22 rfl rfl ?_
  refine pw_get d_WP_open_23 fl_WP_45 hw.1 rfl ?_
  refine pw_iload_n d_WP_open_26 rfl rfl ?_
  refine pw_callS1 (R' := (zroom 0 0 0)) (h2 := h) [.int (op), .int (nI f)] (fun q => nomatch q) d_WP_open_27 lk_WP_101 rfl rfl c_hasBit ?_
  refine pw_iload_n d_WP_open_30 rfl rfl ?_
  refine pw_icmp_eq 38 d_WP_open_31 (by decide) (fun q => absurd q hb) (fun _ => ?_)
  refine pw_iconst (x := 1) d_WP_open_34 (by decide) ?_
  refine pw_goto 39 d_WP_open_35 (by decide) ?_
  refine pw_istore_n d_WP_open_39 rfl (by decide) (pl' := [some (.ref 0), some (.int (nI f)), some (.int (b)), some (.int (1))]) rfl ?_
  refine pw_iload_n d_WP_open_40 rfl rfl ?_
  refine pw_if_eq 56 d_WP_open_41 (by decide) (fun q => absurd q (by decide)) (fun _ => ?_)
  refine pw_aload_n d_WP_open_44 rfl rfl ?_
  refine pw_dup d_WP_open_45 rfl ?_
  refine pw_get d_WP_open_46 fl_WP_45 hw.1 rfl ?_
  refine pw_iconst (x := 1) d_WP_open_49 (by decide) ?_
  refine pw_iload_n d_WP_open_50 rfl rfl ?_
  refine pw_ishl d_WP_open_51 ?_
  refine pw_ixor d_WP_open_52 ?_
  obtain ⟨h_1, eh_1⟩ : ∃ x_9, x_9 = List.set h (0) (.inr (5, [.ref 34, .ref 1, .ref 29, .ref 30, .ref 31, .ref 32, .ref 33, .int (nI tc), .int (nI dc), .int ((op ^^^ (1 <<< ((nI f) &&& 31))))])) := ⟨_, rfl⟩
  refine pw_put rfl d_WP_open_53 (fp_WP_45 _ _) hw.1 (Nat.le_of_ble_eq_true rfl) (fun _ => ⟨rfl, rfl⟩) eh_1.symm ?_
  refine pw_iload_n d_WP_open_56 rfl rfl ?_
  refine pw_zreturn d_WP_open_57 rfl (Or.inr rfl) (by decide) (by decide) ?_
  have z1 : zsm [0, 31, 32, 33] h h_1 := zsm_st zsm_rf eh_1 (by decide)
  have hk := cWS z1 hr hpl hp hcr ho hdr
  exact ⟨1, rfl, zsm_kp z1 (by decide), rfl, ⟨(zg_eq eh_1 hw.1), (zg_ne eh_1 (by decide) hw.2.1), (zg_ne eh_1 (by decide) hw.2.2.1), (zg_ne eh_1 (by decide) hw.2.2.2)⟩, hk.1, hk.2.1, hk.2.2.1, hk.2.2.2.1, hk.2.2.2.2.1, hk.2.2.2.2.2⟩
theorem zno6 {w : Int32} (h : ¬ (6 ≤ w ∧ w ≤ 11)) : w < 6 ∨ ¬ w < 12 := by
  rw [Int32.le_iff_toInt_le, Int32.le_iff_toInt_le, show (6 : Int32).toInt = 6 from by decide, show (11 : Int32).toInt = 11 from by decide] at h
  rw [Int32.lt_iff_toInt_lt, Int32.lt_iff_toInt_lt, show (6 : Int32).toInt = 6 from by decide, show (12 : Int32).toInt = 12 from by decide]
  omega
set_option maxRecDepth 20000 in
set_option maxHeartbeats 2000000 in
theorem t_open {G : zG} {h : zH} {tc dc : Nat} {op : Int32} {tk tb ty : Nat → Int32} {jc bc : Nat} {sx sy sz kn : Int32} {sd fc cc nu pb so : Nat → Int32} {A B C D : Nat → Int32} {S : zPS} {dx dy dz : Nat → Int32} {p1 p2 p3 : Int32} (hC : cAll h tc dc op tk tb ty jc bc sx sy sz kn sd fc cc nu pb so A B C D S dx dy dz p1 p2 p3) {w b : Int32} (hno : ¬ (6 ≤ w ∧ w ≤ 11)) : PW G M_WP_open (zroom 6 1 6) true (fun r h' => r = .inr (9, h.length) ∧ h' = h ++ [.inr (9, [])]) 0 (zentry 4 [.ref 0, .int (w), .int (b)]) [] h 0 0 := by
  show PW G M_WP_open (zroom 6 1 6) true _ 0 [some (.ref 0), some (.int (w)), some (.int (b)), none] [] h 0 0
  obtain ⟨hw, hr, hpl, hp, hcr, ho, hdr⟩ := hC
  refine pw_iload_n d_WP_open_0 rfl rfl ?_
  refine pw_bipush (x := 6) d_WP_open_1 (by decide) ?_
  refine pw_icmp_lt 12 d_WP_open_3 (by decide) (fun q_a => ?_) (fun q_a => ?_)
  · exact pw_throw (tx := "no face of the box") (names := xn) rfl d_WP_open_12 d_WP_open_15 d_WP_open_16 d_WP_open_18 d_WP_open_21 xc_IOB xl_IOB rfl (by decide +kernel) xa_IOB rfl (by decide) (by decide) (by decide) (by decide) ⟨rfl, rfl⟩
  · refine pw_iload_n d_WP_open_6 rfl rfl ?_
    refine pw_bipush (x := 12) d_WP_open_7 (by decide) ?_
    refine pw_icmp_lt 22 d_WP_open_9 (by decide) (fun q_b => ?_) (fun q_b => ?_)
    · rcases zno6 hno with h1 | h1
      · exact absurd h1 q_a
      · exact absurd q_b h1
    · exact pw_throw (tx := "no face of the box") (names := xn) rfl d_WP_open_12 d_WP_open_15 d_WP_open_16 d_WP_open_18 d_WP_open_21 xc_IOB xl_IOB rfl (by decide +kernel) xa_IOB rfl (by decide) (by decide) (by decide) (by decide) ⟨rfl, rfl⟩
/-- a direction more -/
theorem zDr_s {h h1 h2 : zH} {dx dy dz : Nat → Int32} {p1 p2 p3 u v w : Int32} {d : Nat} {c : zE} (hd : d < 8) (hdr : zDr h dx dy dz p1 p2 p3) (e : h1 = h.set (76 + d) (.inr (0, [.int u, .int v, .int w]))) (e2 : h2 = h1.set 0 c) : zDr h2 (upd dx d u) (upd dy d v) (upd dz d w) p1 p2 p3 := by
  refine ⟨zg_ne e2 (by omega) (zg_ne e (by omega) hdr.1), fun j hj => ?_, zg_ne e2 (by omega) (zg_ne e (by omega) hdr.2.2)⟩
  by_cases hjd : j = d
  · subst hjd
    simp only [pk_us]
    exact zg_ne e2 (by omega) (zg_eq e (hdr.2.1 j hj))
  · simp only [pk_un hjd]
    exact zg_ne e2 (by omega) (zg_ne e (by omega) (hdr.2.1 j hj))
theorem cD {h h1 : zH} {tc dc : Nat} {op : Int32} {tk tb ty : Nat → Int32} {jc bc : Nat} {sx sy sz kn : Int32} {sd fc cc nu pb so A B C D : Nat → Int32} {S : zPS} {w : Nat → Prop} (hz : zsw w h h1) (hw9 : ∀ j, w j → j = 0 ∨ 76 ≤ j ∨ j = 30) (hr : zRk h jc bc sx sy sz kn sd fc cc nu pb so) (hpl : zPl h A B C D) (hp : zPp h S) (hcr : zCr h) (ho : (∃ (F : Int32) (ix iy iz ux uy uz : Nat → Int32) (l1 l2 l3 : Int32), zHo h F ix iy iz ux uy uz l1 l2 l3)) : zRk h1 jc bc sx sy sz kn sd fc cc nu pb so ∧ zPl h1 A B C D ∧ zPp h1 S ∧ zCr h1 ∧ (∃ (F : Int32) (ix iy iz ux uy uz : Nat → Int32) (l1 l2 l3 : Int32), zHo h1 F ix iy iz ux uy uz l1 l2 l3) := by
  have k : ∀ {j : Nat} {c : zE}, j ≠ 0 ∧ j < 76 ∧ j ≠ 30 → h[j]? = some c → h1[j]? = some c := fun {j} {c} hj hc => by rw [hz.2 j (fun q => by have := hw9 j q; omega)]; exact hc
  refine ⟨⟨k (by omega) hr.1, k (by omega) hr.2.1, k (by omega) hr.2.2.1, k (by omega) hr.2.2.2.1, k (by omega) hr.2.2.2.2.1, k (by omega) hr.2.2.2.2.2.1, k (by omega) hr.2.2.2.2.2.2⟩, ⟨k (by omega) hpl.1, fun j hj => k (by omega) (hpl.2.1 j hj), fun j hj => k (by omega) (hpl.2.2 j hj)⟩, ⟨k (by omega) hp.1, k (by omega) hp.2.1, k (by omega) hp.2.2.1, k (by omega) hp.2.2.2.1, k (by omega) hp.2.2.2.2.1, k (by omega) hp.2.2.2.2.2.1, k (by omega) hp.2.2.2.2.2.2⟩, ?_, ?_⟩
  · obtain ⟨⟨a1, a2, a3, e1⟩, ⟨b1, b2, b3, e2⟩, ⟨c1, c2, c3, e3⟩⟩ := hcr
    exact ⟨⟨a1, a2, a3, k (by omega) e1⟩, ⟨b1, b2, b3, k (by omega) e2⟩, ⟨c1, c2, c3, k (by omega) e3⟩⟩
  · obtain ⟨F, ix, iy, iz, ux, uy, uz, l1, l2, l3, ho⟩ := ho
    exact ⟨F, ix, iy, iz, ux, uy, uz, l1, l2, l3, k (by omega) ho.1, k (by omega) ho.2.1, k (by omega) ho.2.2.1, k (by omega) ho.2.2.2.1, fun j hj => k (by omega) (ho.2.2.2.2.1 j hj), fun j hj => k (by omega) (ho.2.2.2.2.2 j hj)⟩
theorem zsw_1 {h h1 : zH} {k : Nat} {c : zE} (e : h1 = h.set k c) : zsw (fun j => j = k) h h1 := ⟨by rw [e, List.length_set], fun j hj => by rw [e, List.getElem?_set_ne (fun q => hj q.symm)]⟩
theorem zsw_2 {h h1 h2 : zH} {k k2 : Nat} {c c2 : zE} (e : h1 = h.set k c) (e2 : h2 = h1.set k2 c2) : zsw (fun j => j = k ∨ j = k2) h h2 := ⟨by rw [e2, List.length_set, e, List.length_set], fun j hj => by rw [e2, List.getElem?_set_ne (fun q => hj (Or.inr q.symm)), e, List.getElem?_set_ne (fun q => hj (Or.inl q.symm))]⟩
set_option maxRecDepth 20000 in
set_option maxHeartbeats 2000000 in
theorem r_direction {G : zG} {h : zH} {tc dc : Nat} {op : Int32} {tk tb ty : Nat → Int32} {jc bc : Nat} {sx sy sz kn : Int32} {sd fc cc nu pb so : Nat → Int32} {A B C D : Nat → Int32} {S : zPS} {dx dy dz : Nat → Int32} {p1 p2 p3 : Int32} (hC : cAll h tc dc op tk tb ty jc bc sx sy sz kn sd fc cc nu pb so A B C D S dx dy dz p1 p2 p3) {u v w : Int32} (hv : ((-9 ≤ u ∧ u ≤ 9) ∧ (-9 ≤ v ∧ v ≤ 9) ∧ (-9 ≤ w ∧ w ≤ 9))) (hz : ¬ (u = 0 ∧ v = 0 ∧ w = 0)) (hd8 : dc < 8) : PW G M_WP_direction (zroom 2 0 0) false (fun r h' => ∃ t : Int32, r = .inl (some (.int t)) ∧ zsm zKP h h' ∧ t = nI dc ∧ cAll h' tc (dc + 1) op tk tb ty jc bc sx sy sz kn sd fc cc nu pb so A B C D S (upd dx dc u) (upd dy dc v) (upd dz dc w) p1 p2 p3) 0 (zentry 4 [.ref 0, .int (u), .int (v), .int (w)]) [] h 0 0 := by
  show PW G M_WP_direction (zroom 2 0 0) false _ 0 [some (.ref 0), some (.int (u)), some (.int (v)), some (.int (w))] [] h 0 0
  obtain ⟨hw, hr, hpl, hp, hcr, ho, hdr⟩ := hC
  refine pw_iload_n d_WP_direction_0 rfl rfl ?_
  refine pw_iload_n d_WP_direction_1 rfl rfl ?_
  refine pw_iload_n d_WP_direction_2 rfl rfl ?_
  refine pw_callS1 (R' := (zroom 1 0 0)) (h2 := h) [.int (u), .int (v), .int (w)] (fun q => nomatch q) d_WP_direction_3 lk_WP_105 rfl rfl c_isStep ?_
  refine pw_if_eq 21 d_WP_direction_6 (by decide) (fun q => absurd q (fun z => z0 z hv)) (fun _ => ?_)
  refine pw_iload_n d_WP_direction_9 rfl rfl ?_
  refine pw_if_ne 31 d_WP_direction_10 (by decide) (fun q_1 => ?_) (fun q_1 => ?_)
  · refine pw_aload_n d_WP_direction_31 rfl rfl ?_
    refine pw_get d_WP_direction_32 fl_WP_42 hw.1 rfl ?_
    refine pw_bipush (x := 8) d_WP_direction_35 (by decide) ?_
    refine pw_icmp_lt 50 d_WP_direction_37 (by decide) (fun _ => ?_) (fun q => absurd (nI_lt (b := 8) hd8 (by decide)) q)
    refine pw_aload_n d_WP_direction_50 rfl rfl ?_
    refine pw_get d_WP_direction_51 fl_WP_18 hw.1 rfl ?_
    refine pw_aload_n d_WP_direction_54 rfl rfl ?_
    refine pw_get d_WP_direction_55 fl_WP_42 hw.1 rfl ?_
    refine pw_aald (y := 76 + dc) d_WP_direction_58 hdr.1 rfl rfl hd8 (by decide) (zDrs_at hd8) ?_
    refine pw_iload_n d_WP_direction_59 rfl rfl ?_
    refine pw_iload_n d_WP_direction_60 rfl rfl ?_
    refine pw_iload_n d_WP_direction_61 rfl rfl ?_
    obtain ⟨h_1, eh_1⟩ : ∃ x_9, x_9 = List.set h (76 + dc) (.inr (0, [.int (u), .int (v), .int (w)])) := ⟨_, rfl⟩
    refine pw_callV0 (R' := (zroom 0 0 0)) (h2 := h_1) [.int (u), .int (v), .int (w)] (fun q => nomatch q) d_WP_direction_62 lk_WP_61 (hdr.2.1 dc hd8) rfl rfl rfl (c_Arrow_set (hdr.2.1 dc hd8) eh_1) ?_
    refine pw_aload_n d_WP_direction_65 rfl rfl ?_
    refine pw_dup d_WP_direction_66 rfl ?_
    refine pw_get d_WP_direction_67 fl_WP_42 (zg_ne eh_1 (by omega) hw.1) rfl ?_
    refine pw_iconst (x := 1) d_WP_direction_70 (by decide) ?_
    refine pw_iadd d_WP_direction_71 ?_
    obtain ⟨h_2, eh_2⟩ : ∃ x_9, x_9 = List.set h_1 (0) (.inr (5, [.ref 34, .ref 1, .ref 29, .ref 30, .ref 31, .ref 32, .ref 33, .int (nI tc), .int ((nI dc + 1)), .int (op)])) := ⟨_, rfl⟩
    refine pw_put rfl d_WP_direction_72 (fp_WP_42 _ _) (zg_ne eh_1 (by omega) hw.1) (Nat.le_of_ble_eq_true rfl) (fun _ => ⟨rfl, rfl⟩) eh_2.symm ?_
    refine pw_aload_n d_WP_direction_75 rfl rfl ?_
    refine pw_get d_WP_direction_76 fl_WP_42 (zg_eq eh_2 (zg_ne eh_1 (by omega) hw.1)) rfl ?_
    refine pw_iconst (x := 1) d_WP_direction_79 (by decide) ?_
    refine pw_isub d_WP_direction_80 ?_
    refine pw_ireturn d_WP_direction_81 rfl (by decide) (by decide) ?_
    have hk := cD (tc := tc) (dc := dc) (op := op) (tk := tk) (tb := tb) (ty := ty) (zsw_2 eh_1 eh_2) (fun j q => by omega) hr hpl hp hcr ho
    have h0n : h_2[0]? = some (.inr (5, [.ref 34, .ref 1, .ref 29, .ref 30, .ref 31, .ref 32, .ref 33, .int (nI tc), .int (nI (dc + 1)), .int op])) := by rw [← nI_1]; exact (zg_eq eh_2 (zg_ne eh_1 (by omega) hw.1))
    exact ⟨_, rfl, zsw_kp (zsw_2 eh_1 eh_2) (fun j q => by omega), by rw [nI_1, nI_pred], ⟨h0n, (zg_ne eh_2 (by decide) (zg_ne eh_1 (by omega) hw.2.1)), (zg_ne eh_2 (by decide) (zg_ne eh_1 (by omega) hw.2.2.1)), (zg_ne eh_2 (by decide) (zg_ne eh_1 (by omega) hw.2.2.2))⟩, hk.1, hk.2.1, hk.2.2.1, hk.2.2.2.1, hk.2.2.2.2, zDr_s hd8 hdr eh_1 eh_2⟩
  · refine pw_iload_n d_WP_direction_13 rfl rfl ?_
    refine pw_if_ne 31 d_WP_direction_14 (by decide) (fun q_2 => ?_) (fun q_2 => ?_)
    · refine pw_aload_n d_WP_direction_31 rfl rfl ?_
      refine pw_get d_WP_direction_32 fl_WP_42 hw.1 rfl ?_
      refine pw_bipush (x := 8) d_WP_direction_35 (by decide) ?_
      refine pw_icmp_lt 50 d_WP_direction_37 (by decide) (fun _ => ?_) (fun q => absurd (nI_lt (b := 8) hd8 (by decide)) q)
      refine pw_aload_n d_WP_direction_50 rfl rfl ?_
      refine pw_get d_WP_direction_51 fl_WP_18 hw.1 rfl ?_
      refine pw_aload_n d_WP_direction_54 rfl rfl ?_
      refine pw_get d_WP_direction_55 fl_WP_42 hw.1 rfl ?_
      refine pw_aald (y := 76 + dc) d_WP_direction_58 hdr.1 rfl rfl hd8 (by decide) (zDrs_at hd8) ?_
      refine pw_iload_n d_WP_direction_59 rfl rfl ?_
      refine pw_iload_n d_WP_direction_60 rfl rfl ?_
      refine pw_iload_n d_WP_direction_61 rfl rfl ?_
      obtain ⟨h_3, eh_3⟩ : ∃ x_9, x_9 = List.set h (76 + dc) (.inr (0, [.int (u), .int (v), .int (w)])) := ⟨_, rfl⟩
      refine pw_callV0 (R' := (zroom 0 0 0)) (h2 := h_3) [.int (u), .int (v), .int (w)] (fun q => nomatch q) d_WP_direction_62 lk_WP_61 (hdr.2.1 dc hd8) rfl rfl rfl (c_Arrow_set (hdr.2.1 dc hd8) eh_3) ?_
      refine pw_aload_n d_WP_direction_65 rfl rfl ?_
      refine pw_dup d_WP_direction_66 rfl ?_
      refine pw_get d_WP_direction_67 fl_WP_42 (zg_ne eh_3 (by omega) hw.1) rfl ?_
      refine pw_iconst (x := 1) d_WP_direction_70 (by decide) ?_
      refine pw_iadd d_WP_direction_71 ?_
      obtain ⟨h_4, eh_4⟩ : ∃ x_9, x_9 = List.set h_3 (0) (.inr (5, [.ref 34, .ref 1, .ref 29, .ref 30, .ref 31, .ref 32, .ref 33, .int (nI tc), .int ((nI dc + 1)), .int (op)])) := ⟨_, rfl⟩
      refine pw_put rfl d_WP_direction_72 (fp_WP_42 _ _) (zg_ne eh_3 (by omega) hw.1) (Nat.le_of_ble_eq_true rfl) (fun _ => ⟨rfl, rfl⟩) eh_4.symm ?_
      refine pw_aload_n d_WP_direction_75 rfl rfl ?_
      refine pw_get d_WP_direction_76 fl_WP_42 (zg_eq eh_4 (zg_ne eh_3 (by omega) hw.1)) rfl ?_
      refine pw_iconst (x := 1) d_WP_direction_79 (by decide) ?_
      refine pw_isub d_WP_direction_80 ?_
      refine pw_ireturn d_WP_direction_81 rfl (by decide) (by decide) ?_
      have hk := cD (tc := tc) (dc := dc) (op := op) (tk := tk) (tb := tb) (ty := ty) (zsw_2 eh_3 eh_4) (fun j q => by omega) hr hpl hp hcr ho
      have h0n : h_4[0]? = some (.inr (5, [.ref 34, .ref 1, .ref 29, .ref 30, .ref 31, .ref 32, .ref 33, .int (nI tc), .int (nI (dc + 1)), .int op])) := by rw [← nI_1]; exact (zg_eq eh_4 (zg_ne eh_3 (by omega) hw.1))
      exact ⟨_, rfl, zsw_kp (zsw_2 eh_3 eh_4) (fun j q => by omega), by rw [nI_1, nI_pred], ⟨h0n, (zg_ne eh_4 (by decide) (zg_ne eh_3 (by omega) hw.2.1)), (zg_ne eh_4 (by decide) (zg_ne eh_3 (by omega) hw.2.2.1)), (zg_ne eh_4 (by decide) (zg_ne eh_3 (by omega) hw.2.2.2))⟩, hk.1, hk.2.1, hk.2.2.1, hk.2.2.2.1, hk.2.2.2.2, zDr_s hd8 hdr eh_3 eh_4⟩
    · refine pw_iload_n d_WP_direction_17 rfl rfl ?_
      refine pw_if_ne 31 d_WP_direction_18 (by decide) (fun q_3 => ?_) (fun q_3 => ?_)
      · refine pw_aload_n d_WP_direction_31 rfl rfl ?_
        refine pw_get d_WP_direction_32 fl_WP_42 hw.1 rfl ?_
        refine pw_bipush (x := 8) d_WP_direction_35 (by decide) ?_
        refine pw_icmp_lt 50 d_WP_direction_37 (by decide) (fun _ => ?_) (fun q => absurd (nI_lt (b := 8) hd8 (by decide)) q)
        refine pw_aload_n d_WP_direction_50 rfl rfl ?_
        refine pw_get d_WP_direction_51 fl_WP_18 hw.1 rfl ?_
        refine pw_aload_n d_WP_direction_54 rfl rfl ?_
        refine pw_get d_WP_direction_55 fl_WP_42 hw.1 rfl ?_
        refine pw_aald (y := 76 + dc) d_WP_direction_58 hdr.1 rfl rfl hd8 (by decide) (zDrs_at hd8) ?_
        refine pw_iload_n d_WP_direction_59 rfl rfl ?_
        refine pw_iload_n d_WP_direction_60 rfl rfl ?_
        refine pw_iload_n d_WP_direction_61 rfl rfl ?_
        obtain ⟨h_5, eh_5⟩ : ∃ x_9, x_9 = List.set h (76 + dc) (.inr (0, [.int (u), .int (v), .int (w)])) := ⟨_, rfl⟩
        refine pw_callV0 (R' := (zroom 0 0 0)) (h2 := h_5) [.int (u), .int (v), .int (w)] (fun q => nomatch q) d_WP_direction_62 lk_WP_61 (hdr.2.1 dc hd8) rfl rfl rfl (c_Arrow_set (hdr.2.1 dc hd8) eh_5) ?_
        refine pw_aload_n d_WP_direction_65 rfl rfl ?_
        refine pw_dup d_WP_direction_66 rfl ?_
        refine pw_get d_WP_direction_67 fl_WP_42 (zg_ne eh_5 (by omega) hw.1) rfl ?_
        refine pw_iconst (x := 1) d_WP_direction_70 (by decide) ?_
        refine pw_iadd d_WP_direction_71 ?_
        obtain ⟨h_6, eh_6⟩ : ∃ x_9, x_9 = List.set h_5 (0) (.inr (5, [.ref 34, .ref 1, .ref 29, .ref 30, .ref 31, .ref 32, .ref 33, .int (nI tc), .int ((nI dc + 1)), .int (op)])) := ⟨_, rfl⟩
        refine pw_put rfl d_WP_direction_72 (fp_WP_42 _ _) (zg_ne eh_5 (by omega) hw.1) (Nat.le_of_ble_eq_true rfl) (fun _ => ⟨rfl, rfl⟩) eh_6.symm ?_
        refine pw_aload_n d_WP_direction_75 rfl rfl ?_
        refine pw_get d_WP_direction_76 fl_WP_42 (zg_eq eh_6 (zg_ne eh_5 (by omega) hw.1)) rfl ?_
        refine pw_iconst (x := 1) d_WP_direction_79 (by decide) ?_
        refine pw_isub d_WP_direction_80 ?_
        refine pw_ireturn d_WP_direction_81 rfl (by decide) (by decide) ?_
        have hk := cD (tc := tc) (dc := dc) (op := op) (tk := tk) (tb := tb) (ty := ty) (zsw_2 eh_5 eh_6) (fun j q => by omega) hr hpl hp hcr ho
        have h0n : h_6[0]? = some (.inr (5, [.ref 34, .ref 1, .ref 29, .ref 30, .ref 31, .ref 32, .ref 33, .int (nI tc), .int (nI (dc + 1)), .int op])) := by rw [← nI_1]; exact (zg_eq eh_6 (zg_ne eh_5 (by omega) hw.1))
        exact ⟨_, rfl, zsw_kp (zsw_2 eh_5 eh_6) (fun j q => by omega), by rw [nI_1, nI_pred], ⟨h0n, (zg_ne eh_6 (by decide) (zg_ne eh_5 (by omega) hw.2.1)), (zg_ne eh_6 (by decide) (zg_ne eh_5 (by omega) hw.2.2.1)), (zg_ne eh_6 (by decide) (zg_ne eh_5 (by omega) hw.2.2.2))⟩, hk.1, hk.2.1, hk.2.2.1, hk.2.2.2.1, hk.2.2.2.2, zDr_s hd8 hdr eh_5 eh_6⟩
      · exact absurd ⟨q_1, q_2, q_3⟩ hz
set_option maxRecDepth 20000 in
set_option maxHeartbeats 2000000 in
theorem t_directionA {G : zG} {h : zH} {tc dc : Nat} {op : Int32} {tk tb ty : Nat → Int32} {jc bc : Nat} {sx sy sz kn : Int32} {sd fc cc nu pb so : Nat → Int32} {A B C D : Nat → Int32} {S : zPS} {dx dy dz : Nat → Int32} {p1 p2 p3 : Int32} (hC : cAll h tc dc op tk tb ty jc bc sx sy sz kn sd fc cc nu pb so A B C D S dx dy dz p1 p2 p3) {u v w : Int32} (hno : ¬ (((-9 ≤ u ∧ u ≤ 9) ∧ (-9 ≤ v ∧ v ≤ 9) ∧ (-9 ≤ w ∧ w ≤ 9)) ∧ ¬ (u = 0 ∧ v = 0 ∧ w = 0))) : PW G M_WP_direction (zroom 6 1 6) true (fun r h' => r = .inr (7, h.length) ∧ h' = h ++ [.inr (7, [])]) 0 (zentry 4 [.ref 0, .int (u), .int (v), .int (w)]) [] h 0 0 := by
  show PW G M_WP_direction (zroom 6 1 6) true _ 0 [some (.ref 0), some (.int (u)), some (.int (v)), some (.int (w))] [] h 0 0
  obtain ⟨hw, hr, hpl, hp, hcr, ho, hdr⟩ := hC
  refine pw_iload_n d_WP_direction_0 rfl rfl ?_
  refine pw_iload_n d_WP_direction_1 rfl rfl ?_
  refine pw_iload_n d_WP_direction_2 rfl rfl ?_
  refine pw_callS1 (R' := (zroom 1 0 0)) (h2 := h) [.int (u), .int (v), .int (w)] (fun _ => rfl) d_WP_direction_3 lk_WP_105 rfl rfl c_isStep ?_
  refine pw_if_eq 21 d_WP_direction_6 (by decide) (fun q_s => ?_) (fun q_s => ?_)
  · exact pw_throw (tx := "parts are -9 to 9, not all 0") (names := xn) rfl d_WP_direction_21 d_WP_direction_24 d_WP_direction_25 d_WP_direction_27 d_WP_direction_30 xc_IAE xl_IAE rfl (by decide +kernel) xa_IAE rfl (by decide) (by decide) (by decide) (by decide) ⟨rfl, rfl⟩
  · refine pw_iload_n d_WP_direction_9 rfl rfl ?_
    refine pw_if_ne 31 d_WP_direction_10 (by decide) (fun q_1 => ?_) (fun q_1 => ?_)
    · exact absurd ⟨z1 q_s, fun z => q_1 z.1⟩ hno
    · refine pw_iload_n d_WP_direction_13 rfl rfl ?_
      refine pw_if_ne 31 d_WP_direction_14 (by decide) (fun q_2 => ?_) (fun q_2 => ?_)
      · exact absurd ⟨z1 q_s, fun z => q_2 z.2.1⟩ hno
      · refine pw_iload_n d_WP_direction_17 rfl rfl ?_
        refine pw_if_ne 31 d_WP_direction_18 (by decide) (fun q_3 => ?_) (fun q_3 => ?_)
        · exact absurd ⟨z1 q_s, fun z => q_3 z.2.2⟩ hno
        · exact pw_throw (tx := "parts are -9 to 9, not all 0") (names := xn) rfl d_WP_direction_21 d_WP_direction_24 d_WP_direction_25 d_WP_direction_27 d_WP_direction_30 xc_IAE xl_IAE rfl (by decide +kernel) xa_IAE rfl (by decide) (by decide) (by decide) (by decide) ⟨rfl, rfl⟩
set_option maxRecDepth 20000 in
set_option maxHeartbeats 2000000 in
theorem t_directionS {G : zG} {h : zH} {tc dc : Nat} {op : Int32} {tk tb ty : Nat → Int32} {jc bc : Nat} {sx sy sz kn : Int32} {sd fc cc nu pb so : Nat → Int32} {A B C D : Nat → Int32} {S : zPS} {dx dy dz : Nat → Int32} {p1 p2 p3 : Int32} (hC : cAll h tc dc op tk tb ty jc bc sx sy sz kn sd fc cc nu pb so A B C D S dx dy dz p1 p2 p3) {u v w : Int32} (hv : ((-9 ≤ u ∧ u ≤ 9) ∧ (-9 ≤ v ∧ v ≤ 9) ∧ (-9 ≤ w ∧ w ≤ 9))) (hz : ¬ (u = 0 ∧ v = 0 ∧ w = 0)) (hd8 : dc = 8) : PW G M_WP_direction (zroom 6 1 6) true (fun r h' => r = .inr (8, h.length) ∧ h' = h ++ [.inr (8, [])]) 0 (zentry 4 [.ref 0, .int (u), .int (v), .int (w)]) [] h 0 0 := by
  show PW G M_WP_direction (zroom 6 1 6) true _ 0 [some (.ref 0), some (.int (u)), some (.int (v)), some (.int (w))] [] h 0 0
  obtain ⟨hw, hr, hpl, hp, hcr, ho, hdr⟩ := hC
  refine pw_iload_n d_WP_direction_0 rfl rfl ?_
  refine pw_iload_n d_WP_direction_1 rfl rfl ?_
  refine pw_iload_n d_WP_direction_2 rfl rfl ?_
  refine pw_callS1 (R' := (zroom 1 0 0)) (h2 := h) [.int (u), .int (v), .int (w)] (fun _ => rfl) d_WP_direction_3 lk_WP_105 rfl rfl c_isStep ?_
  refine pw_if_eq 21 d_WP_direction_6 (by decide) (fun q => absurd q (fun z => z0 z hv)) (fun _ => ?_)
  refine pw_iload_n d_WP_direction_9 rfl rfl ?_
  refine pw_if_ne 31 d_WP_direction_10 (by decide) (fun q_1 => ?_) (fun q_1 => ?_)
  · refine pw_aload_n d_WP_direction_31 rfl rfl ?_
    refine pw_get d_WP_direction_32 fl_WP_42 hw.1 rfl ?_
    refine pw_bipush (x := 8) d_WP_direction_35 (by decide) ?_
    refine pw_icmp_lt 50 d_WP_direction_37 (by decide) (fun q => absurd q (by subst hd8; decide)) (fun _ => ?_)
    exact pw_throw (tx := "there are 8 directions") (names := xn) rfl d_WP_direction_40 d_WP_direction_43 d_WP_direction_44 d_WP_direction_46 d_WP_direction_49 xc_ISE xl_ISE rfl (by decide +kernel) xa_ISE rfl (by decide) (by decide) (by decide) (by decide) ⟨rfl, rfl⟩
  · refine pw_iload_n d_WP_direction_13 rfl rfl ?_
    refine pw_if_ne 31 d_WP_direction_14 (by decide) (fun q_2 => ?_) (fun q_2 => ?_)
    · refine pw_aload_n d_WP_direction_31 rfl rfl ?_
      refine pw_get d_WP_direction_32 fl_WP_42 hw.1 rfl ?_
      refine pw_bipush (x := 8) d_WP_direction_35 (by decide) ?_
      refine pw_icmp_lt 50 d_WP_direction_37 (by decide) (fun q => absurd q (by subst hd8; decide)) (fun _ => ?_)
      exact pw_throw (tx := "there are 8 directions") (names := xn) rfl d_WP_direction_40 d_WP_direction_43 d_WP_direction_44 d_WP_direction_46 d_WP_direction_49 xc_ISE xl_ISE rfl (by decide +kernel) xa_ISE rfl (by decide) (by decide) (by decide) (by decide) ⟨rfl, rfl⟩
    · refine pw_iload_n d_WP_direction_17 rfl rfl ?_
      refine pw_if_ne 31 d_WP_direction_18 (by decide) (fun q_3 => ?_) (fun q_3 => ?_)
      · refine pw_aload_n d_WP_direction_31 rfl rfl ?_
        refine pw_get d_WP_direction_32 fl_WP_42 hw.1 rfl ?_
        refine pw_bipush (x := 8) d_WP_direction_35 (by decide) ?_
        refine pw_icmp_lt 50 d_WP_direction_37 (by decide) (fun q => absurd q (by subst hd8; decide)) (fun _ => ?_)
        exact pw_throw (tx := "there are 8 directions") (names := xn) rfl d_WP_direction_40 d_WP_direction_43 d_WP_direction_44 d_WP_direction_46 d_WP_direction_49 xc_ISE xl_ISE rfl (by decide +kernel) xa_ISE rfl (by decide) (by decide) (by decide) (by decide) ⟨rfl, rfl⟩
      · exact absurd ⟨q_1, q_2, q_3⟩ hz
set_option maxRecDepth 20000 in
set_option maxHeartbeats 2000000 in
theorem r_pull {G : zG} {h : zH} {tc dc : Nat} {op : Int32} {tk tb ty : Nat → Int32} {jc bc : Nat} {sx sy sz kn : Int32} {sd fc cc nu pb so : Nat → Int32} {A B C D : Nat → Int32} {S : zPS} {dx dy dz : Nat → Int32} {p1 p2 p3 : Int32} (hC : cAll h tc dc op tk tb ty jc bc sx sy sz kn sd fc cc nu pb so A B C D S dx dy dz p1 p2 p3) {u v w : Int32} (hv : ((-9 ≤ u ∧ u ≤ 9) ∧ (-9 ≤ v ∧ v ≤ 9) ∧ (-9 ≤ w ∧ w ≤ 9))) : PW G M_WP_pull (zroom 2 0 0) false (fun r h' => r = .inl none ∧ zsm zKP h h' ∧ cAll h' tc dc op tk tb ty jc bc sx sy sz kn sd fc cc nu pb so A B C D S dx dy dz u v w) 0 (zentry 4 [.ref 0, .int (u), .int (v), .int (w)]) [] h 0 0 := by
  show PW G M_WP_pull (zroom 2 0 0) false _ 0 [some (.ref 0), some (.int (u)), some (.int (v)), some (.int (w))] [] h 0 0
  obtain ⟨hw, hr, hpl, hp, hcr, ho, hdr⟩ := hC
  refine pw_iload_n d_WP_pull_0 rfl rfl ?_
  refine pw_iload_n d_WP_pull_1 rfl rfl ?_
  refine pw_iload_n d_WP_pull_2 rfl rfl ?_
  refine pw_callS1 (R' := (zroom 1 0 0)) (h2 := h) [.int (u), .int (v), .int (w)] (fun q => nomatch q) d_WP_pull_3 lk_WP_105 rfl rfl c_isStep ?_
  refine pw_if_ne 19 d_WP_pull_6 (by decide) (fun _ => ?_) (fun q => absurd (fun z => z0 z hv) (fun z => z q))
  refine pw_aload_n d_WP_pull_19 rfl rfl ?_
  refine pw_get d_WP_pull_20 fl_WP_23 hw.1 rfl ?_
  refine pw_iload_n d_WP_pull_23 rfl rfl ?_
  refine pw_iload_n d_WP_pull_24 rfl rfl ?_
  refine pw_iload_n d_WP_pull_25 rfl rfl ?_
  obtain ⟨h_1, eh_1⟩ : ∃ x_9, x_9 = List.set h (30) (.inr (0, [.int (u), .int (v), .int (w)])) := ⟨_, rfl⟩
  refine pw_callV0 (R' := (zroom 0 0 0)) (h2 := h_1) [.int (u), .int (v), .int (w)] (fun q => nomatch q) d_WP_pull_26 lk_WP_61 hdr.2.2 rfl rfl rfl (c_Arrow_set hdr.2.2 eh_1) ?_
  refine pw_return d_WP_pull_29 rfl (by decide) (by decide) ?_
  have hk := cD (tc := tc) (dc := dc) (op := op) (tk := tk) (tb := tb) (ty := ty) (zsw_1 eh_1) (fun j q => by omega) hr hpl hp hcr ho
  exact ⟨rfl, zsw_kp (zsw_1 eh_1) (fun j q => by omega), ⟨(zg_ne eh_1 (by decide) hw.1), (zg_ne eh_1 (by decide) hw.2.1), (zg_ne eh_1 (by decide) hw.2.2.1), (zg_ne eh_1 (by decide) hw.2.2.2)⟩, hk.1, hk.2.1, hk.2.2.1, hk.2.2.2.1, hk.2.2.2.2, ⟨zg_ne eh_1 (by decide) hdr.1, fun j hj => zg_ne eh_1 (by omega) (hdr.2.1 j hj), zg_eq eh_1 hdr.2.2⟩⟩
set_option maxRecDepth 20000 in
set_option maxHeartbeats 2000000 in
theorem t_pull {G : zG} {h : zH} {tc dc : Nat} {op : Int32} {tk tb ty : Nat → Int32} {jc bc : Nat} {sx sy sz kn : Int32} {sd fc cc nu pb so : Nat → Int32} {A B C D : Nat → Int32} {S : zPS} {dx dy dz : Nat → Int32} {p1 p2 p3 : Int32} (hC : cAll h tc dc op tk tb ty jc bc sx sy sz kn sd fc cc nu pb so A B C D S dx dy dz p1 p2 p3) {u v w : Int32} (hno : ¬ ((-9 ≤ u ∧ u ≤ 9) ∧ (-9 ≤ v ∧ v ≤ 9) ∧ (-9 ≤ w ∧ w ≤ 9))) : PW G M_WP_pull (zroom 6 1 6) true (fun r h' => r = .inr (7, h.length) ∧ h' = h ++ [.inr (7, [])]) 0 (zentry 4 [.ref 0, .int (u), .int (v), .int (w)]) [] h 0 0 := by
  show PW G M_WP_pull (zroom 6 1 6) true _ 0 [some (.ref 0), some (.int (u)), some (.int (v)), some (.int (w))] [] h 0 0
  obtain ⟨hw, hr, hpl, hp, hcr, ho, hdr⟩ := hC
  refine pw_iload_n d_WP_pull_0 rfl rfl ?_
  refine pw_iload_n d_WP_pull_1 rfl rfl ?_
  refine pw_iload_n d_WP_pull_2 rfl rfl ?_
  refine pw_callS1 (R' := (zroom 1 0 0)) (h2 := h) [.int (u), .int (v), .int (w)] (fun _ => rfl) d_WP_pull_3 lk_WP_105 rfl rfl c_isStep ?_
  refine pw_if_ne 19 d_WP_pull_6 (by decide) (fun q_s => ?_) (fun q_s => ?_)
  · exact absurd (z1 q_s) hno
  · exact pw_throw (tx := "parts are -9 to 9") (names := xn) rfl d_WP_pull_9 d_WP_pull_12 d_WP_pull_13 d_WP_pull_15 d_WP_pull_18 xc_IAE xl_IAE rfl (by decide +kernel) xa_IAE rfl (by decide) (by decide) (by decide) (by decide) ⟨rfl, rfl⟩
