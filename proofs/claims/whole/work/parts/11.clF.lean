set_option maxRecDepth 20000 in
set_option maxHeartbeats 2000000 in
theorem r_take {G : zG} {h : zH} {tc dc : Nat} {op : Int32} {tk tb ty : Nat → Int32} {jc bc : Nat} {sx sy sz kn : Int32} {sd fc cc nu pb so : Nat → Int32} {A B C D : Nat → Int32} {S : zPS} {dx dy dz : Nat → Int32} {p1 p2 p3 : Int32} (hC : cAll h tc dc op tk tb ty jc bc sx sy sz kn sd fc cc nu pb so A B C D S dx dy dz p1 p2 p3) {k : Nat} (hk : k < bc) (hbc : bc ≤ 64) (hnu : ∀ m, m < 64 → nu m = -1 ∨ ∃ o, o < 64 ∧ nu m = nI o) (htk : ∀ o, o < 64 → tk o = 0 ∨ tk o = 1) {s9 : Nat} (hs9 : s9 < 64) (hsd : sd k = nI s9) (hdc : dc ≤ 8) (htc : tk k = 0 → tc < 64) : PW G M_WP_take (zroom 5 0 0) false (fun r h' => ∃ t : Int32, r = .inl (some (.int t)) ∧ zsm zKP h h' ∧ ((zLd op tk sd fc nu A B C dx dy dz dc k s9 t ∧ t = -1 ∧ cAll h' tc dc op tk tb ty jc bc sx sy sz kn sd fc cc nu pb so A B C D S dx dy dz p1 p2 p3) ∨ (zLd op tk sd fc nu A B C dx dy dz dc k s9 t ∧ t ≠ -1 ∧ tk k = 0 ∧ cAll h' (tc + 1) dc op (upd tk k 1) (upd tb tc (nI k)) (upd ty tc t) jc bc sx sy sz kn sd fc cc nu pb so A B C D S dx dy dz p1 p2 p3))) 0 (zentry 3 [.ref 0, .int (nI k)]) [] h 0 0 := by
  show PW G M_WP_take (zroom 5 0 0) false _ 0 [some (.ref 0), some (.int (nI k)), none] [] h 0 0
  obtain ⟨hw, hr, hpl, hp, hcr, ho, hdr⟩ := hC
  refine pw_aload_n d_WP_take_0 rfl rfl ?_
  refine pw_iload_n d_WP_take_1 rfl rfl ?_
  refine pw_callV0 (R' := (zroom 0 0 0)) (h2 := h) [.int (nI k)] (fun q => nomatch q) d_WP_take_2 lk_WP_118 hw.1 rfl rfl rfl (c_needBlock hw hr hk hbc) ?_
  refine pw_aload_n d_WP_take_5 rfl rfl ?_
  refine pw_iload_n d_WP_take_6 rfl rfl ?_
  obtain ⟨F0, jx, jy, jz, ux, uy, uz, l1, l2, l3, ho⟩ := ho
  refine pw_callVw (R' := (zroom 4 0 0)) [.int (nI k)] (fun q => nomatch q) d_WP_take_7 lk_WP_179 hw.1 rfl rfl rfl (c_leastDirection hw hr hpl hnu htk (show k < 64 by omega) hs9 hsd hdr hdc ho) (fun t h1 hh => ?_)
  obtain ⟨hz, ho1, hld⟩ := hh
  obtain ⟨hw1, hr1, hpl1, hp1, hcr1, hdr1⟩ := cHS hz hw hr hpl hp hcr hdr
  obtain ⟨F1, gx, gy, gz, ho1⟩ := ho1
  refine pw_istore_n d_WP_take_10 rfl (by decide) (pl' := [some (.ref 0), some (.int (nI k)), some (.int (t))]) rfl ?_
  refine pw_iload_n d_WP_take_11 rfl rfl ?_
  refine pw_iconst (x := (-1)) d_WP_take_12 (by decide) ?_
  refine pw_icmp_eq 22 d_WP_take_13 (by decide) (fun q_t => ?_) (fun q_t => ?_)
  · refine pw_iload_n d_WP_take_22 rfl rfl ?_
    refine pw_ireturn d_WP_take_23 rfl (by decide) (by decide) ?_
    exact ⟨t, rfl, zsm_kp hz zHS_kp, Or.inl ⟨hld, q_t, hw1, hr1, hpl1, hp1, hcr1, ⟨_, _, _, _, _, _, _, _, _, _, ho1⟩, hdr1⟩⟩
  · refine pw_aload_n d_WP_take_16 rfl rfl ?_
    refine pw_iload_n d_WP_take_17 rfl rfl ?_
    refine pw_iload_n d_WP_take_18 rfl rfl ?_
    have hk0 : tk k = 0 := by rcases hld with h1 | h1; exact absurd h1.2 q_t; exact h1.1
    refine pw_callVu (R' := (zroom 0 0 0)) [.int (nI k), .int (t)] (fun q => nomatch q) d_WP_take_19 lk_WP_182 hw1.1 rfl rfl rfl (c_putAway hw1 (htc hk0) (show k < 64 by omega)) (fun h2 hw2 => ?_)
    refine pw_iload_n d_WP_take_22 rfl rfl ?_
    refine pw_ireturn d_WP_take_23 rfl (by decide) (by decide) ?_
    obtain ⟨hr2, hpl2, hp2, hcr2, ho2, hdr2⟩ := cWS hw2.2 hr1 hpl1 hp1 hcr1 ⟨_, _, _, _, _, _, _, _, _, _, ho1⟩ hdr1
    exact ⟨t, rfl, zsm_tr (zsm_kp hz zHS_kp) (zsm_kp hw2.2 (by decide)) (fun _ q => q), Or.inr ⟨hld, q_t, hk0, hw2.1, hr2, hpl2, hp2, hcr2, ho2, hdr2⟩⟩
theorem zSt1_to {op : Int32} {sd fc nu A B C dx dy dz : Nat → Int32} {dc bc : Nat} {sf : Nat → Nat} {T T' : zTS} (hbc : bc ≤ 64) (h : zSt1 op sd fc nu A B C dx dy dz dc bc sf T T') (ho : zTo bc T) : zTo bc T' ∧ zct (fun j => T'.2.1 j = 0) bc + 1 = zct (fun j => T.2.1 j = 0) bc := by
  obtain ⟨k, t, h1, h2, h3, h4, h5, rfl⟩ := h
  exact ⟨zTo_s hbc h1 h2 ho, zct_drop h1 h2⟩
theorem zSt0_all {op : Int32} {sd fc nu A B C dx dy dz : Nat → Int32} {dc bc : Nat} {sf : Nat → Nat} {T : zTS} (hbc : bc ≤ 64) (ho : zTo bc T) (h : zct (fun j => T.2.1 j = 0) bc = 0) : zSt0 op sd fc nu A B C dx dy dz dc bc sf T := by
  intro k hk
  have hk1 : ¬ T.2.1 k = 0 := fun e => by have := zct_drop (tk := T.2.1) hk e; omega
  exact Or.inl ⟨(ho.1 k (by omega)).resolve_left hk1, rfl⟩
theorem cTP {h h1 : zH} {jc bc : Nat} {sx sy sz kn : Int32} {sd fc cc nu pb so A B C D : Nat → Int32} {S : zPS} {dx dy dz : Nat → Int32} {p1 p2 p3 : Int32} (hz : zsm zTP h h1) (hr : zRk h jc bc sx sy sz kn sd fc cc nu pb so) (hpl : zPl h A B C D) (hp : zPp h S) (hcr : zCr h) (hdr : zDr h dx dy dz p1 p2 p3) : zRk h1 jc bc sx sy sz kn sd fc cc nu pb so ∧ zPl h1 A B C D ∧ zPp h1 S ∧ zCr h1 ∧ zDr h1 dx dy dz p1 p2 p3 := by
  refine ⟨zRk_tp hz hr, zPl_tp hz hpl, zPt_sm hz (fun j a1 a2 => zTP_no (by omega)) hp, ?_, zDr_tp hz hdr⟩
  obtain ⟨⟨a1, a2, a3, e1⟩, ⟨b1, b2, b3, e2⟩, ⟨c1, c2, c3, e3⟩⟩ := hcr
  exact ⟨⟨a1, a2, a3, zsm_at hz (zTP_no (by omega)) e1⟩, ⟨b1, b2, b3, zsm_at hz (zTP_no (by omega)) e2⟩, ⟨c1, c2, c3, zsm_at hz (zTP_no (by omega)) e3⟩⟩
set_option maxRecDepth 20000 in
set_option maxHeartbeats 2000000 in
theorem l_worder {G : zG} {h0 : zH} {dc : Nat} {op : Int32} {jc bc : Nat} {sx sy sz kn : Int32} {sd fc cc nu pb so : Nat → Int32} {A B C D : Nat → Int32} {dx dy dz : Nat → Int32} {p1 p2 p3 : Int32} {S : zPS} (hnu : ∀ m, m < 64 → nu m = -1 ∨ ∃ o, o < 64 ∧ nu m = nI o) (hbc : bc ≤ 64) {sf : Nat → Nat} (hsf : ∀ k, k < bc → sf k < 64 ∧ sd k = nI (sf k)) (hdc : dc ≤ 8) {T0 : zTS} : ∀ (n n9 : Nat) (h : zH) (T : zTS), 64 - n9 < n → n9 ≤ 64 → cAll h T.1 dc op T.2.1 T.2.2.1 T.2.2.2 jc bc sx sy sz kn sd fc cc nu pb so A B C D S dx dy dz p1 p2 p3 → zsm zKP h0 h → zTo bc T → zStn op sd fc nu A B C dx dy dz dc bc sf n9 T0 T → n9 + zct (fun j => T.2.1 j = 0) bc ≤ 64 → PW G M_WP_order (zroom 6 0 0) false (fun r h' => ∃ t : Int32, r = .inl (some (.int t)) ∧ zsm zKP h0 h' ∧ ∃ (n : Nat) (T : zTS), t = nI n ∧ zStn op sd fc nu A B C dx dy dz dc bc sf n T0 T ∧ zSt0 op sd fc nu A B C dx dy dz dc bc sf T ∧ cAll h' T.1 dc op T.2.1 T.2.2.1 T.2.2.2 jc bc sx sy sz kn sd fc cc nu pb so A B C D S dx dy dz p1 p2 p3) 2 [some (.ref 0), some (.int (nI n9))] [] h 0 0 := by
  intro n
  induction n with
  | zero => intro n9 h T hn; exact absurd hn (Nat.not_lt_zero _)
  | succ n ih =>
    intro n9 h T hnn hn9 hC hz ho9 hn hcnt
    obtain ⟨hw, hr, hpl, hp, hcr, ho, hdr⟩ := id hC
    refine pw_iload_n d_WP_order_2 rfl rfl ?_
    refine pw_bipush (x := 64) d_WP_order_3 (by decide) ?_
    refine pw_icmp_ge 21 d_WP_order_5 (by decide) (fun q_c => ?_) (fun q_c => ?_)
    · refine pw_iload_n d_WP_order_21 rfl rfl ?_
      refine pw_ireturn d_WP_order_22 rfl (by decide) (by decide) ?_
      have hn64 : n9 = 64 := by have := (nI_leI (a := 64) (b := n9) (by decide) (by omega)).mp q_c; omega
      exact ⟨_, rfl, hz, n9, T, rfl, hn, zSt0_all hbc ho9 (by omega), hC⟩
    · have hnc : n9 < 64 := by have := mt (nI_leI (a := 64) (b := n9) (by decide) (by omega)).mpr q_c; omega
      refine pw_aload_n d_WP_order_8 rfl rfl ?_
      refine pw_callVw (R' := (zroom 5 0 0)) [] (fun q => nomatch q) d_WP_order_9 lk_WP_186 hw.1 rfl rfl rfl (c_takeLeast hr hpl hnu hbc hsf hdr hdc hw ho9.1 (fun k hk e => zTo_lt hk e ho9) ho) (fun t h1 hh => ?_)
      obtain ⟨ho1, hz1, hcase⟩ := hh
      refine pw_if_eq 21 d_WP_order_12 (by decide) (fun q_t => ?_) (fun q_t => ?_)
      · refine pw_iload_n d_WP_order_21 rfl rfl ?_
        refine pw_ireturn d_WP_order_22 rfl (by decide) (by decide) ?_
        obtain ⟨-, hs0, hw1⟩ := hcase.resolve_left (fun z => absurd (z.1.symm.trans q_t) (by decide))
        obtain ⟨hr1, hpl1, hp1, hcr1, hdr1⟩ := cTP hz1 hr hpl hp hcr hdr
        exact ⟨_, rfl, zsm_tr hz (zsm_kp hz1 zKP_tp) (fun _ q => q), n9, T, rfl, hn, hs0, hw1, hr1, hpl1, hp1, hcr1, ho1, hdr1⟩
      · refine pw_iinc (y := nI (n9 + 1)) d_WP_order_15 rfl (nI_1 n9) (by decide) (pl' := [some (.ref 0), some (.int (nI (n9 + 1)))]) rfl ?_
        refine pw_goto 2 d_WP_order_18 (by decide) ?_
        obtain ⟨-, T', hs1, hw1⟩ := hcase.resolve_right (fun z => q_t z.1)
        obtain ⟨ho2, hd2⟩ := zSt1_to hbc hs1 ho9
        have hd3 : zct (fun j => T'.2.1 j = 0) bc + 1 = zct (fun j => T.2.1 j = 0) bc := hd2
        obtain ⟨hr1, hpl1, hp1, hcr1, hdr1⟩ := cTP hz1 hr hpl hp hcr hdr
        exact ih (n9 + 1) h1 T' (by omega) (by omega) ⟨hw1, hr1, hpl1, hp1, hcr1, ho1, hdr1⟩ (zsm_tr hz (zsm_kp hz1 zKP_tp) (fun _ q => q)) ho2 ⟨T, hn, hs1⟩ (by omega)
set_option maxRecDepth 20000 in
set_option maxHeartbeats 2000000 in
theorem r_order {G : zG} {h : zH} {tc dc : Nat} {op : Int32} {tk tb ty : Nat → Int32} {jc bc : Nat} {sx sy sz kn : Int32} {sd fc cc nu pb so : Nat → Int32} {A B C D : Nat → Int32} {S : zPS} {dx dy dz : Nat → Int32} {p1 p2 p3 : Int32} (hC : cAll h tc dc op tk tb ty jc bc sx sy sz kn sd fc cc nu pb so A B C D S dx dy dz p1 p2 p3) (hnu : ∀ m, m < 64 → nu m = -1 ∨ ∃ o, o < 64 ∧ nu m = nI o) (hbc : bc ≤ 64) {sf : Nat → Nat} (hsf : ∀ k, k < bc → sf k < 64 ∧ sd k = nI (sf k)) (hdc : dc ≤ 8) (ho9 : zTo bc (tc, tk, tb, ty)) : PW G M_WP_order (zroom 6 0 0) false (fun r h' => ∃ t : Int32, r = .inl (some (.int t)) ∧ zsm zKP h h' ∧ ∃ (n : Nat) (T : zTS), t = nI n ∧ zStn op sd fc nu A B C dx dy dz dc bc sf n (tc, tk, tb, ty) T ∧ zSt0 op sd fc nu A B C dx dy dz dc bc sf T ∧ cAll h' T.1 dc op T.2.1 T.2.2.1 T.2.2.2 jc bc sx sy sz kn sd fc cc nu pb so A B C D S dx dy dz p1 p2 p3) 0 (zentry 2 [.ref 0]) [] h 0 0 := by
  show PW G M_WP_order (zroom 6 0 0) false _ 0 [some (.ref 0), none] [] h 0 0
  obtain ⟨hw, hr, hpl, hp, hcr, ho, hdr⟩ := hC
  refine pw_iconst (x := 0) d_WP_order_0 (by decide) ?_
  refine pw_istore_n d_WP_order_1 rfl (by decide) (pl' := [some (.ref 0), some (.int (0))]) rfl ?_
  have h64 := zct_le (fun j => tk j = 0) bc
  exact l_worder hnu hbc hsf hdc 65 0 h (tc, tk, tb, ty) (by decide) (by decide) ⟨hw, hr, hpl, hp, hcr, ho, hdr⟩ zsm_rf ho9 rfl (by show 0 + zct (fun j => tk j = 0) bc ≤ 64; omega)
set_option maxRecDepth 20000 in
set_option maxHeartbeats 2000000 in
theorem r_mode {G : zG} {h : zH} {tc dc : Nat} {op : Int32} {tk tb ty : Nat → Int32} {jc bc : Nat} {sx sy sz kn : Int32} {sd fc cc nu pb so : Nat → Int32} {A B C D : Nat → Int32} {S : zPS} {dx dy dz : Nat → Int32} {p1 p2 p3 : Int32} (hC : cAll h tc dc op tk tb ty jc bc sx sy sz kn sd fc cc nu pb so A B C D S dx dy dz p1 p2 p3) {k : Nat} (hk : k < bc) (hbc : bc ≤ 64) (hnu : ∀ m, m < 64 → nu m = -1 ∨ ∃ o, o < 64 ∧ nu m = nI o) (htk : ∀ o, o < 64 → tk o = 0 ∨ tk o = 1) {s9 : Nat} (hs9 : s9 < 64) (hsd : sd k = nI s9) : PW G M_WP_mode (zroom 5 0 0) false (fun r h' => ∃ t : Int32, r = .inl (some (.int t)) ∧ zsm zKP h h' ∧ ((tk k = 1 ∧ t = -1) ∨ (tk k = 0 ∧ ∃ (F : Int32) (ix iy iz : Nat → Int32), ((∀ f, f < 12 → ((F >>> (nI f &&& 31)) &&& 1 = 1 ↔ ((fc k >>> (nI f &&& 31)) &&& 1 = 1 ∧ ¬ (if 6 ≤ f then (op >>> (nI f &&& 31)) &&& 1 = 1 else ((fc k >>> (nI f &&& 31)) &&& 1 = 1 ∧ ∃ o, o < 64 ∧ nu (s9 ^^^ (1 <<< f)) = nI o ∧ tk o = 1))))) ∧ (∀ f, f < 12 → ((fc k >>> (nI f &&& 31)) &&& 1 = 1 ∧ ¬ (if 6 ≤ f then (op >>> (nI f &&& 31)) &&& 1 = 1 else ((fc k >>> (nI f &&& 31)) &&& 1 = 1 ∧ ∃ o, o < 64 ∧ nu (s9 ^^^ (1 <<< f)) = nI o ∧ tk o = 1))) → ix f = A f * (if (if ((sd k ||| 1344) >>> (nI f &&& 31)) &&& 1 = 1 then (1 : Int32) else 0) = 0 then (-1 : Int32) else 1) ∧ iy f = B f * (if (if ((sd k ||| 1344) >>> (nI f &&& 31)) &&& 1 = 1 then (1 : Int32) else 0) = 0 then (-1 : Int32) else 1) ∧ iz f = C f * (if (if ((sd k ||| 1344) >>> (nI f &&& 31)) &&& 1 = 1 then (1 : Int32) else 0) = 0 then (-1 : Int32) else 1))) ∧ ((t = 1 ∧ (¬ (p1 = 0 ∧ p2 = 0 ∧ p3 = 0) ∧ ∀ f, f < 12 → (F >>> (nI f &&& 31)) &&& 1 = 1 → ¬ (p1 * ix f + p2 * iy f + p3 * iz f < 0))) ∨ (¬ (¬ (p1 = 0 ∧ p2 = 0 ∧ p3 = 0) ∧ ∀ f, f < 12 → (F >>> (nI f &&& 31)) &&& 1 = 1 → ¬ (p1 * ix f + p2 * iy f + p3 * iz f < 0)) ∧ ∃ sx sy sz : Nat → Int32, (∀ f, f < 12 → (F >>> (nI f &&& 31)) &&& 1 = 1 → sx f = (p1 * (ix f * ix f + iy f * iy f + iz f * iz f) - ix f * (p1 * ix f + p2 * iy f + p3 * iz f)) ∧ sy f = (p2 * (ix f * ix f + iy f * iy f + iz f * iz f) - iy f * (p1 * ix f + p2 * iy f + p3 * iz f)) ∧ sz f = (p3 * (ix f * ix f + iy f * iy f + iz f * iz f) - iz f * (p1 * ix f + p2 * iy f + p3 * iz f))) ∧ ((∃ i, i < 12 ∧ t = 10 + nI i ∧ ((F >>> (nI i &&& 31)) &&& 1 = 1 ∧ p1 * ix i + p2 * iy i + p3 * iz i < 0 ∧ (¬ (sx i = 0 ∧ sy i = 0 ∧ sz i = 0) ∧ ∀ f, f < 12 → (F >>> (nI f &&& 31)) &&& 1 = 1 → ¬ (sx i * ix f + sy i * iy f + sz i * iz f < 0))) ∧ ∀ j, j < i → ¬ ((F >>> (nI j &&& 31)) &&& 1 = 1 ∧ p1 * ix j + p2 * iy j + p3 * iz j < 0 ∧ (¬ (sx j = 0 ∧ sy j = 0 ∧ sz j = 0) ∧ ∀ f, f < 12 → (F >>> (nI f &&& 31)) &&& 1 = 1 → ¬ (sx j * ix f + sy j * iy f + sz j * iz f < 0)))) ∨ ((∀ i, i < 12 → ¬ ((F >>> (nI i &&& 31)) &&& 1 = 1 ∧ p1 * ix i + p2 * iy i + p3 * iz i < 0 ∧ (¬ (sx i = 0 ∧ sy i = 0 ∧ sz i = 0) ∧ ∀ f, f < 12 → (F >>> (nI f &&& 31)) &&& 1 = 1 → ¬ (sx i * ix f + sy i * iy f + sz i * iz f < 0)))) ∧ zSt2 F ix iy iz sx sy sz p1 p2 p3 t)))))) ∧ cAll h' tc dc op tk tb ty jc bc sx sy sz kn sd fc cc nu pb so A B C D S dx dy dz p1 p2 p3) 0 (zentry 2 [.ref 0, .int (nI k)]) [] h 0 0 := by
  show PW G M_WP_mode (zroom 5 0 0) false _ 0 [some (.ref 0), some (.int (nI k))] [] h 0 0
  obtain ⟨hw, hr, hpl, hp, hcr, ho, hdr⟩ := hC
  refine pw_aload_n d_WP_mode_0 rfl rfl ?_
  refine pw_iload_n d_WP_mode_1 rfl rfl ?_
  refine pw_callV0 (R' := (zroom 0 0 0)) (h2 := h) [.int (nI k)] (fun q => nomatch q) d_WP_mode_2 lk_WP_118 hw.1 rfl rfl rfl (c_needBlock hw hr hk hbc) ?_
  refine pw_aload_n d_WP_mode_5 rfl rfl ?_
  refine pw_get d_WP_mode_6 fl_WP_27 hw.1 rfl ?_
  refine pw_iload_n d_WP_mode_9 rfl rfl ?_
  refine pw_zald d_WP_mode_10 hw.2.1 rfl rfl (by omega) (by decide) ?_
  refine pw_if_eq 16 d_WP_mode_11 (by decide) (fun q_k => ?_) (fun q_k => ?_)
  · refine pw_aload_n d_WP_mode_16 rfl rfl ?_
    refine pw_iload_n d_WP_mode_17 rfl rfl ?_
    obtain ⟨F0, jx, jy, jz, ux, uy, uz, l1, l2, l3, ho⟩ := ho
    refine pw_callVu (R' := (zroom 3 0 0)) [.int (nI k)] (fun q => nomatch q) d_WP_mode_18 lk_WP_172 hw.1 rfl rfl rfl (c_lookAtHold hw hr hpl hnu htk (show k < 64 by omega) hs9 hsd ho) (fun h1 hh => ?_)
    obtain ⟨F, ix, iy, iz, ho1, hz, hv1, hv2⟩ := hh
    obtain ⟨hw1, hr1, hpl1, hp1, hcr1, hdr1⟩ := cHS hz hw hr hpl hp hcr hdr
    refine pw_aload_n d_WP_mode_21 rfl rfl ?_
    refine pw_get d_WP_mode_22 fl_WP_12 hw1.1 rfl ?_
    refine pw_aload_n d_WP_mode_25 rfl rfl ?_
    refine pw_get d_WP_mode_26 fl_WP_23 hw1.1 rfl ?_
    refine pw_callVw (R' := (zroom 4 0 0)) [.ref 30] (fun q => nomatch q) d_WP_mode_29 lk_WP_194 ho1.1 rfl rfl rfl (c_answerTo ho1 hdr1.2.2) (fun t h2 hh => ?_)
    obtain ⟨ho2, hz2, hans⟩ := hh
    obtain ⟨hw2, hr2, hpl2, hp2, hcr2, hdr2⟩ := cHS hz2 hw1 hr1 hpl1 hp1 hcr1 hdr1
    obtain ⟨vx, vy, vz, m1, m2, m3, ho2⟩ := ho2
    refine pw_ireturn d_WP_mode_32 rfl (by decide) (by decide) ?_
    exact ⟨t, rfl, zsm_tr (zsm_kp hz zHS_kp) (zsm_kp hz2 zHS_kp) (fun _ q => q), Or.inr ⟨q_k, F, ix, iy, iz, ⟨hv1, hv2⟩, hans⟩, hw2, hr2, hpl2, hp2, hcr2, ⟨_, _, _, _, _, _, _, _, _, _, ho2⟩, hdr2⟩
  · refine pw_iconst (x := (-1)) d_WP_mode_14 (by decide) ?_
    refine pw_ireturn d_WP_mode_15 rfl (by decide) (by decide) ?_
    exact ⟨-1, rfl, zsm_rf, Or.inl ⟨(htk k (by omega)).resolve_left q_k, rfl⟩, ⟨hw, hr, hpl, hp, hcr, ho, hdr⟩⟩
