def zce (G : zG) (k : Nat) : Int32 := if k < G.L then G.xs k else 0
set_option maxRecDepth 20000 in
set_option maxHeartbeats 2000000 in
theorem c_cell {G : zG} {h : zH} {k : Nat} (hk : k < 3) (hL : G.L ≤ 2563) : PW G M_Law_cell (zroom 0 0 0) true (zq h (fun t => t = zce G k)) 0 (zentry 2 [.retAddr G.b, .int (nI k)]) [] h 0 0 := by
  show PW G M_Law_cell (zroom 0 0 0) true _ 0 [some (.retAddr G.b), some (.int (nI k))] [] h 0 0
  refine pw_iload_n d_Law_cell_0 rfl rfl ?_
  refine pw_saload_n d_Law_cell_1 rfl rfl ?_
  refine pw_slen d_Law_cell_2 ?_
  refine pw_icmp_ge 12 d_Law_cell_3 (by decide) (fun q => ?_) (fun q => ?_)
  · have hn : ¬ k < G.L := by have := (nI_leI (a := G.L) (b := k) (by omega) (by omega)).mp q; omega
    refine pw_iconst (x := 0) d_Law_cell_12 (by decide) ?_
    refine pw_ireturn d_Law_cell_13 rfl (by decide) (by decide) ?_
    exact ⟨_, rfl, rfl, (if_neg hn).symm⟩
  · have hn : k < G.L := by have := mt (nI_leI (a := G.L) (b := k) (by omega) (by omega)).mpr q; omega
    refine pw_saload_n d_Law_cell_6 rfl rfl ?_
    refine pw_iload_n d_Law_cell_7 rfl rfl ?_
    refine pw_sload (j := k) d_Law_cell_8 rfl hn (by omega) ?_
    refine pw_goto 13 d_Law_cell_9 (by decide) ?_
    refine pw_ireturn d_Law_cell_13 rfl (by decide) (by decide) ?_
    exact ⟨_, rfl, rfl, (if_pos hn).symm⟩
set_option maxRecDepth 20000 in
set_option maxHeartbeats 2000000 in
theorem l_law {G : zG} (hL : G.L ≤ 2563) : ∀ (u n : Nat) (h : zH), 513 - n < u → n ≤ 512 → iN h → PW G M_Law_law room_1 false (fun r _ => r = .inl (some (.int 1))) 53 [some (.retAddr G.b), some (.ref 0), some (.ref 84), some (.ref 104), some (.int (nI (3 + 5 * n))), none, none] [] h (105 + n) (4239 + 6 * n) := by
  intro u
  induction u with
  | zero => intro n h hn; exact absurd hn (Nat.not_lt_zero _)
  | succ u ih =>
    intro n h hu hn hN
    refine pw_iload d_Law_law_53 rfl ?_
    refine pw_saload_n d_Law_law_55 rfl rfl ?_
    refine pw_slen d_Law_law_56 ?_
    refine pw_iconst (x := 5) d_Law_law_57 (by decide) ?_
    refine pw_isub d_Law_law_58 ?_
    have bL : zbd 2563 (Int32.ofNat G.L) (G.L : Int) := ⟨nI_toInt (n := G.L) (by omega), by omega, by omega⟩
    have b5 : zbd 5 (5 : Int32) 5 := ⟨rfl, by decide, by decide⟩
    have bi : zbd 2563 (nI (3 + 5 * n)) ((3 + 5 * n : Nat) : Int) := ⟨nI_toInt (n := 3 + 5 * n) (by omega), by omega, by omega⟩
    refine pw_icmp_gt 1085 d_Law_law_59 (by decide) (fun q => ?_) (fun q => ?_)
    · refine pw_iconst (x := 1) d_Law_law_1085 (by decide) ?_
      refine pw_zreturn d_Law_law_1086 rfl (Or.inr rfl) (by show 105 + n ≤ 601024; omega) (by show 4239 + 6 * n ≤ 7293000; omega) ?_
      exact rfl
    · have hi : 3 + 5 * n + 5 ≤ G.L := by
        have := mt (zbd_lt (zbd_sub bL b5 (by decide)) bi).mpr q
        omega
      refine pw_saload_n d_Law_law_62 rfl rfl ?_
      refine pw_iload d_Law_law_63 rfl ?_
      refine pw_sload (j := 3 + 5 * n) d_Law_law_65 rfl (by omega) (by omega) ?_
      refine pw_bipush (x := 31) d_Law_law_66 (by decide) ?_
      refine pw_iand d_Law_law_68 ?_
      have kk : ∀ h', iN h' → PW G M_Law_law room_1 false (fun r _ => r = .inl (some (.int 1))) 1079 [some (.retAddr G.b), some (.ref 0), some (.ref 84), some (.ref 104), some (.int (nI (3 + 5 * n))), none, none] [] h' (105 + n + 1) (4239 + 6 * n + 6) := fun h' hN' => by
        refine pw_iinc (y := nI (3 + 5 * (n + 1))) d_Law_law_1079 rfl (nI_add (3 + 5 * n) 5) (by decide) (pl' := [some (.retAddr G.b), some (.ref 0), some (.ref 84), some (.ref 104), some (.int (nI (3 + 5 * (n + 1)))), none, none]) rfl ?_
        refine pw_goto 53 d_Law_law_1082 (by decide) ?_
        exact pw_widen (by omega) (by omega) (ih (n + 1) h' (by omega) (by omega) hN')
      obtain ⟨x, hxe⟩ : ∃ x, x = G.xs (3 + 5 * n) &&& 31 := ⟨_, rfl⟩
      rw [← hxe]
      by_cases hx : x.toInt < 0 ∨ 16 < x.toInt
      · exact pw_tabOut d_Law_law_69 hx (by decide) (pw_widen (by omega) (by omega) (kk h hN))
      · have hc : x.toInt = 0 ∨ x.toInt = 1 ∨ x.toInt = 2 ∨ x.toInt = 3 ∨ x.toInt = 4 ∨ x.toInt = 5 ∨ x.toInt = 6 ∨ x.toInt = 7 ∨ x.toInt = 8 ∨ x.toInt = 9 ∨ x.toInt = 10 ∨ x.toInt = 11 ∨ x.toInt = 12 ∨ x.toInt = 13 ∨ x.toInt = 14 ∨ x.toInt = 15 ∨ x.toInt = 16 := by omega
        rcases hc with hc | hc | hc | hc | hc | hc | hc | hc | hc | hc | hc | hc | hc | hc | hc | hc | hc
        · exact pw_tabIn (off := 83) (tgt := 152) d_Law_law_69 (by omega) (by omega) (by rw [hc]; rfl) (by decide) (k_joint hN hL hi (by omega) (by omega) kk)
        · exact pw_tabIn (off := 175) (tgt := 244) d_Law_law_69 (by omega) (by omega) (by rw [hc]; rfl) (by decide) (k_unjoint hN hL hi (by omega) (by omega) kk)
        · exact pw_tabIn (off := 188) (tgt := 257) d_Law_law_69 (by omega) (by omega) (by rw [hc]; rfl) (by decide) (k_open hN hL hi (by omega) (by omega) kk)
        · exact pw_tabIn (off := 279) (tgt := 348) d_Law_law_69 (by omega) (by omega) (by rw [hc]; rfl) (by decide) (k_direction hN hL hi (by omega) (by omega) kk)
        · exact pw_tabIn (off := 359) (tgt := 428) d_Law_law_69 (by omega) (by omega) (by rw [hc]; rfl) (by decide) (k_pull hN hL hi (by omega) (by omega) kk)
        · exact pw_tabIn (off := 419) (tgt := 488) d_Law_law_69 (by omega) (by omega) (by rw [hc]; rfl) (by decide) (k_blocks hN hL hi (by omega) (by omega) kk)
        · exact pw_tabIn (off := 432) (tgt := 501) d_Law_law_69 (by omega) (by omega) (by rw [hc]; rfl) (by decide) (k_block hN hL hi (by omega) (by omega) kk)
        · exact pw_tabIn (off := 500) (tgt := 569) d_Law_law_69 (by omega) (by omega) (by rw [hc]; rfl) (by decide) (k_corner hN hL hi (by omega) (by omega) kk)
        · exact pw_tabIn (off := 580) (tgt := 649) d_Law_law_69 (by omega) (by omega) (by rw [hc]; rfl) (by decide) (k_find hN hL hi (by omega) (by omega) kk)
        · exact pw_tabIn (off := 605) (tgt := 674) d_Law_law_69 (by omega) (by omega) (by rw [hc]; rfl) (by decide) (k_beside hN hL hi (by omega) (by omega) kk)
        · exact pw_tabIn (off := 673) (tgt := 742) d_Law_law_69 (by omega) (by omega) (by rw [hc]; rfl) (by decide) (k_goes hN hL hi (by omega) (by omega) kk)
        · exact pw_tabIn (off := 748) (tgt := 817) d_Law_law_69 (by omega) (by omega) (by rw [hc]; rfl) (by decide) (k_take hN hL hi (by omega) (by omega) kk)
        · exact pw_tabIn (off := 804) (tgt := 873) d_Law_law_69 (by omega) (by omega) (by rw [hc]; rfl) (by decide) (k_order hN hL hi (by omega) (by omega) kk)
        · exact pw_tabIn (off := 817) (tgt := 886) d_Law_law_69 (by omega) (by omega) (by rw [hc]; rfl) (by decide) (k_taken hN hL hi (by omega) (by omega) kk)
        · exact pw_tabIn (off := 885) (tgt := 954) d_Law_law_69 (by omega) (by omega) (by rw [hc]; rfl) (by decide) (k_back hN hL hi (by omega) (by omega) kk)
        · exact pw_tabIn (off := 898) (tgt := 967) d_Law_law_69 (by omega) (by omega) (by rw [hc]; rfl) (by decide) (k_mode hN hL hi (by omega) (by omega) kk)
        · exact pw_tabIn (off := 954) (tgt := 1023) d_Law_law_69 (by omega) (by omega) (by rw [hc]; rfl) (by decide) (k_told hN hL hi (by omega) (by omega) kk)
theorem zm0_bx {a b c : Int32} : gBox (iI (mA (zm0 a b c))) (iI (mB (zm0 a b c))) (iI (mC (zm0 a b c))) (iI (mD (zm0 a b c))) a.toInt b.toInt c.toInt :=
  ⟨⟨rfl, rfl, rfl, rfl⟩, ⟨rfl, rfl, rfl, rfl⟩, ⟨rfl, rfl, rfl, rfl⟩, ⟨rfl, rfl, rfl, rfl⟩, ⟨rfl, rfl, rfl, rfl⟩, ⟨rfl, rfl, rfl, rfl⟩⟩
theorem iN_in {h : zH} {x y z : Int32} {S : zPS} {T : zBS} {pn bl : Nat} {pt po pa pw bs bf tr : Nat → Int32} {fl : Nat → Int64} (hg : zPg (zkn 0) (mA (zm0 (zsf x) (zsf y) (zsf z))) (mB (zm0 (zsf x) (zsf y) (zsf z))) (mC (zm0 (zsf x) (zsf y) (zsf z))) (mD (zm0 (zsf x) (zsf y) (zsf z))) (zsf x) (zsf y) (zsf z) S) (hS : S.1 ≤ 20) (hT : T = zbl (zkn 0) S.2.2.2.2.2.1 S.2.2.2.2.2.2 S.1 (2 ^ 0) (0, (fun _ => 0), (fun _ => 0), (fun _ => 0), (fun _ => 0)) 64) (hC : cAll h 0 0 0 (fun _ => 0) (fun _ => 0) (fun _ => 0) 0 T.1 (zsf x) (zsf y) (zsf z) (zkn 0) T.2.1 T.2.2.1 T.2.2.2.1 T.2.2.2.2 (fun _ => 0) (fun _ => 0) (mA (zm0 (zsf x) (zsf y) (zsf z))) (mB (zm0 (zsf x) (zsf y) (zsf z))) (mC (zm0 (zsf x) (zsf y) (zsf z))) (mD (zm0 (zsf x) (zsf y) (zsf z))) S (fun _ => 0) (fun _ => 0) (fun _ => 0) 0 0 (-1)) (hR : rAll h 0 0 0 pn bl 0 (zms (zsf x) (zsf y) (zsf z)) (zm0 (zsf x) (zsf y) (zsf z)) (fun _ => 0) (fun _ => 0) (upd (fun _ => 0) 2 (-1)) pt po pa pw bs bf tr (fun _ => 0) (fun _ => 0)) (hcut : rCut 0 (zms (zsf x) (zsf y) (zsf z)) (zm0 (zsf x) (zsf y) (zsf z)) pn pt po pa pw bl bs bf tr) (hO : zOu h fl) : iN h := by
  have hpl : iPl 0 (zms (zsf x) (zsf y) (zsf z)) (zm0 (zsf x) (zsf y) (zsf z)) := ⟨zm0_pb (zsf_ok x) (zsf_ok y) (zsf_ok z), fun c hc => zms_ok hc, zm0_bx, fun j hj => absurd hj (Nat.not_lt_zero _), fun i j _ hj => absurd hj (Nat.not_lt_zero _)⟩
  obtain ⟨b1, b2, b3⟩ := iBl_c (J := 0) (ms := (zms (zsf x) (zsf y) (zsf z))) (by decide) hpl hg hT
  obtain ⟨b4, b5⟩ := iBl_r (by decide) hpl hcut
  obtain ⟨e9, -⟩ := iBl_eq b1 b4
  subst e9
  have hle := iBl_le (by decide) b1
  refine ⟨⟨0, 0, 0, 0, 0, _, pn, (zms (zsf x) (zsf y) (zsf z)), (zm0 (zsf x) (zsf y) (zsf z)), (fun _ => 0), (fun _ => 0), upd (fun _ => 0) 2 (-1), pt, po, pa, pw, bs, bf, tr, (fun _ => 0), (fun _ => 0), (fun _ => 0), _, _, _, _, (fun _ => 0), (fun _ => 0), S, hC, hR, ⟨by decide, hpl, ⟨hg, hS, fun _ => 0, fun j hj => absurd hj (Nat.not_lt_zero _), fun i j _ hj => absurd hj (Nat.not_lt_zero _)⟩, rCut_pg (by decide) hcut, hcut.1, b1, b4, b2, b3⟩, ⟨⟨fun o ho => Or.inl rfl, ?_⟩, fun k hk => b5 k hk⟩, by decide, fun f h6 h12 => ⟨?_, Or.inl rfl⟩, fun c hc => ?_⟩, fl, hO⟩
  · have := zct_le (fun j => (fun _ : Nat => (0 : Int32)) j = 0) T.1
    show 0 + zct (fun j => (fun _ : Nat => (0 : Int32)) j = 0) T.1 ≤ 64
    omega
  · rw [b_0]; exact ⟨fun q => (by cases q), fun q => absurd rfl q⟩
  · have : c = 0 ∨ c = 1 ∨ c = 2 := by omega
    rcases this with rfl | rfl | rfl
    · exact ⟨by decide, by decide⟩
    · exact ⟨by decide, by decide⟩
    · exact ⟨by decide, by decide⟩
set_option maxRecDepth 20000 in
set_option maxHeartbeats 2000000 in
theorem c_law {G : zG} (hL : G.L ≤ 2563) : PW G M_Law_law room_1 false (fun r _ => r = .inl (some (.int 1))) 0 (zentry 7 [.retAddr G.b]) [] [] 0 0 := by
  show PW G M_Law_law room_1 false _ 0 [some (.retAddr G.b), none, none, none, none, none, none] [] [] 0 0
  obtain ⟨h1, e1⟩ : ∃ x_9, x_9 = ([] : zH) ++ [(.inr (5, [.null, .null, .null, .null, .null, .null, .null, .int 0, .int 0, .int 0]) : zE)] := ⟨_, rfl⟩
  refine pw_newo (n := 0) rfl d_Law_law_0 nw_Law_8 (by decide) (by decide) rfl e1 ?_
  refine pw_dup d_Law_law_3 rfl ?_
  refine pw_saload_n d_Law_law_4 rfl rfl ?_
  refine pw_iconst (x := nI 0) d_Law_law_5 (by decide) ?_
  refine pw_callSt (R' := zroom 0 0 0) (P' := true) [.retAddr G.b, .int (nI 0)] (fun _ => rfl) d_Law_law_6 lk_Law_58 rfl (zchk_i rfl rfl rfl ⟨by decide, by decide, by decide, by decide⟩) (c_cell (by decide) hL) (fun t0 ht0 => ?_)
  subst ht0
  refine pw_saload_n d_Law_law_9 rfl rfl ?_
  refine pw_iconst (x := nI 1) d_Law_law_10 (by decide) ?_
  refine pw_callSt (R' := zroom 0 0 0) (P' := true) [.retAddr G.b, .int (nI 1)] (fun _ => rfl) d_Law_law_11 lk_Law_58 rfl (zchk_i rfl rfl rfl ⟨by decide, by decide, by decide, by decide⟩) (c_cell (by decide) hL) (fun t1 ht1 => ?_)
  subst ht1
  refine pw_saload_n d_Law_law_14 rfl rfl ?_
  refine pw_iconst (x := nI 2) d_Law_law_15 (by decide) ?_
  refine pw_callSt (R' := zroom 0 0 0) (P' := true) [.retAddr G.b, .int (nI 2)] (fun _ => rfl) d_Law_law_16 lk_Law_58 rfl (zchk_i rfl rfl rfl ⟨by decide, by decide, by decide, by decide⟩) (c_cell (by decide) hL) (fun t2 ht2 => ?_)
  subst ht2
  refine pw_callIu (R' := zroom 6 83 2237) (P' := false) [.int (zce G 0), .int (zce G 1), .int (zce G 2)] (fun q => nomatch q) d_Law_law_19 lk_Law_64 rfl (zac rfl) (Nat.le_of_ble_eq_true rfl) ⟨by decide, by decide, by decide, by decide⟩ (Nat.le_of_ble_eq_true rfl) (c_WP_init (x := zce G 0) (y := zce G 1) (z := zce G 2) (zp_ln e1 rfl) (zp_eq e1 rfl)) (fun h2 hh => ?_)
  obtain ⟨hl2, S, T, f1, f2, f3, hC2⟩ := hh
  refine pw_astore_n d_Law_law_22 rfl (by decide) (pl' := [some (.retAddr G.b), some (.ref 0), none, none, none, none, none]) rfl ?_
  obtain ⟨h3, e3⟩ : ∃ x_9, x_9 = h2 ++ [(.inr (6, [.int 0, .null, .int 0, .null, .null, .int 0, .null, .null, .int 0, .null, .null, .null, .null, .null, .int 0, .null, .null, .null, .int 0, .null, .null, .null, .null, .null, .null]) : zE)] := ⟨_, rfl⟩
  refine pw_newo (n := 84) rfl d_Law_law_23 nw_Law_66 (by decide) (by decide) hl2 e3 ?_
  refine pw_dup d_Law_law_26 rfl ?_
  refine pw_saload_n d_Law_law_27 rfl rfl ?_
  refine pw_iconst (x := nI 0) d_Law_law_28 (by decide) ?_
  refine pw_callSt (R' := zroom 0 0 0) (P' := true) [.retAddr G.b, .int (nI 0)] (fun _ => rfl) d_Law_law_29 lk_Law_58 rfl (zchk_i rfl rfl rfl ⟨by decide, by decide, by decide, by decide⟩) (c_cell (by decide) hL) (fun t0 ht0 => ?_)
  subst ht0
  refine pw_saload_n d_Law_law_32 rfl rfl ?_
  refine pw_iconst (x := nI 1) d_Law_law_33 (by decide) ?_
  refine pw_callSt (R' := zroom 0 0 0) (P' := true) [.retAddr G.b, .int (nI 1)] (fun _ => rfl) d_Law_law_34 lk_Law_58 rfl (zchk_i rfl rfl rfl ⟨by decide, by decide, by decide, by decide⟩) (c_cell (by decide) hL) (fun t1 ht1 => ?_)
  subst ht1
  refine pw_saload_n d_Law_law_37 rfl rfl ?_
  refine pw_iconst (x := nI 2) d_Law_law_38 (by decide) ?_
  refine pw_callSt (R' := zroom 0 0 0) (P' := true) [.retAddr G.b, .int (nI 2)] (fun _ => rfl) d_Law_law_39 lk_Law_58 rfl (zchk_i rfl rfl rfl ⟨by decide, by decide, by decide, by decide⟩) (c_cell (by decide) hL) (fun t2 ht2 => ?_)
  subst ht2
  refine pw_callIu (R' := zroom 4 19 1966) (P' := false) [.int (zce G 0), .int (zce G 1), .int (zce G 2)] (fun q => nomatch q) d_Law_law_42 lk_Law_68 rfl (zac rfl) (Nat.le_of_ble_eq_true rfl) ⟨by decide, by decide, by decide, by decide⟩ (Nat.le_of_ble_eq_true rfl) (c_Md_init (x := zce G 0) (y := zce G 1) (z := zce G 2) (zp_ln e3 hl2) (zp_eq e3 hl2)) (fun h4 hh => ?_)
  obtain ⟨hz4, hl4, pn, bl, pt, po, pa, pw, bs, bf, tr, hR4, hcut⟩ := hh
  refine pw_astore_n d_Law_law_45 rfl (by decide) (pl' := [some (.retAddr G.b), some (.ref 0), some (.ref 84), none, none, none, none]) rfl ?_
  refine pw_iconst (x := 1) d_Law_law_46 (by decide) ?_
  obtain ⟨h5, e5⟩ : ∃ x_9, x_9 = h4 ++ [(.inl (2, 1, .inr (.inl (fun _ => 0))) : zE)] := ⟨_, rfl⟩
  refine pw_newl (N := 1) rfl d_Law_law_47 (by decide) (by decide) (by decide) (by decide) (by decide) hl4 e5 ?_
  refine pw_astore_n d_Law_law_49 rfl (by decide) (pl' := [some (.retAddr G.b), some (.ref 0), some (.ref 84), some (.ref 104), none, none, none]) rfl ?_
  refine pw_iconst (x := nI (3 + 5 * 0)) d_Law_law_50 (by decide) ?_
  refine pw_istore d_Law_law_51 (by decide) (pl' := [some (.retAddr G.b), some (.ref 0), some (.ref 84), some (.ref 104), some (.int (nI (3 + 5 * 0))), none, none]) rfl ?_
  have hN : iN h5 := iN_in f1 f2 f3 (cAll_lo (fun a q => zp_ne e5 (zlow_at hz4 a (zp_ne e3 q))) hC2) (rAll_lo (fun a b q => zp_ne e5 q) hR4) hcut (zp_eq e5 hl4)
  exact pw_widen (nc' := 105 + 0) (ns' := 4239 + 6 * 0) (by decide) (by decide) (l_law hL 514 0 h5 (by decide) (by decide) hN)
