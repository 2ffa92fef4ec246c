set_option maxRecDepth 20000 in
set_option maxHeartbeats 2000000 in
theorem p_block {G : zG} {h : zH} {th : Int32} {jn dr pn bl tn : Nat} {ms ml mo mT mp pt po pa pw bs bf tk tB tY : Nat → Int32} (hA : rAll h th jn dr pn bl tn ms ml mo mT mp pt po pa pw bs bf tk tB tY) {k w : Int32} (hbl : bl ≤ 64) (hpn : pn ≤ 220) (hjn : jn ≤ 6) {NX NY NZ : Nat} (e0 : ms 0 = nI NX) (e1 : ms 1 = nI NY) (e2 : ms 2 = nI NZ) (hN : (1 ≤ NX ∧ NX ≤ 8) ∧ (1 ≤ NY ∧ NY ≤ 8) ∧ (1 ≤ NZ ∧ NZ ≤ 8)) : PW G M_Md_block (zroom 2 0 0) false (fun r h' => ∃ t : Int32, r = .inl (some (.int t)) ∧ zsm zMP h h' ∧ ((¬ ((∃ K, K < bl ∧ k = nI K) ∧ 0 ≤ w ∧ w ≤ 4) ∧ rAll h' 1 jn dr pn bl tn ms ml mo mT mp pt po pa pw bs bf tk tB tY) ∨ (∃ K, K < bl ∧ k = nI K ∧ ((w = 0 ∧ t = bs K) ∨ (w = 1 ∧ t = bf K) ∨ (w = 2 ∧ t = nI (zct (fun p => ztp (bs K) pa pw p) pn)) ∨ (w = 3 ∧ t = nI (zc3 (fun x y z => rIns ml bs jn K (nI x) (nI y) (nI z)) NY NZ NX)) ∨ (w = 4 ∧ t = if tk K = 0 then 0 else 1)) ∧ rAll h' 0 jn dr pn bl tn ms ml mo mT mp pt po pa pw bs bf tk tB tY))) 0 (zentry 3 [.ref 84, .int (k), .int (w)]) [] h 0 0 := by
  show PW G M_Md_block (zroom 2 0 0) false _ 0 [some (.ref 84), some (.int (k)), some (.int (w))] [] h 0 0
  obtain ⟨hm, h85, h86, h87, h88, h89, h90, h91, h92, h93, ⟨w94, h94⟩, h95, h96, h97, h98, h99, ⟨w100, h100⟩, ⟨w101, h101⟩, ⟨w102, h102⟩, ⟨w103, h103⟩⟩ := hA
  refine pw_aload_n d_Md_block_0 rfl rfl ?_
  refine pw_aload_n d_Md_block_1 rfl rfl ?_
  refine pw_iload_n d_Md_block_2 rfl rfl ?_
  refine pw_callV1 (R' := (zroom 1 0 0)) (h2 := h) [.int (k)] (fun q => nomatch q) d_Md_block_3 lk_Md_152 hm rfl rfl rfl (c_isBlock hm) ?_
  refine pw_if_eq 22 d_Md_block_6 (by decide) (fun q_i => ?_) (fun q_i => ?_)
  · refine pw_iconst (x := 1) d_Md_block_22 (by decide) ?_
    obtain ⟨h_1, eh_1⟩ : ∃ x_9, x_9 = List.set h (84) (.inr (6, [.int (1), .ref 85, .int (nI jn), .ref 86, .ref 87, .int (nI dr), .ref 88, .ref 89, .int (nI pn), .ref 90, .ref 91, .ref 92, .ref 93, .ref 94, .int (nI bl), .ref 95, .ref 96, .ref 97, .int (nI tn), .ref 98, .ref 99, .ref 100, .ref 101, .ref 102, .ref 103])) := ⟨_, rfl⟩
    refine pw_put rfl d_Md_block_23 (fp_Md_75 _ _) hm (Nat.le_of_ble_eq_true rfl) (fun _ => ⟨rfl, rfl⟩) eh_1.symm ?_
    refine pw_aload_n d_Md_block_26 rfl rfl ?_
    refine pw_get d_Md_block_27 fl_Md_75 (zg_eq eh_1 hm) rfl ?_
    refine pw_if_le 35 d_Md_block_30 (by decide) (fun q_t => ?_) (fun q_t => ?_)
    · exact absurd q_t (by decide)
    · refine pw_iconst (x := 0) d_Md_block_33 (by decide) ?_
      refine pw_ireturn d_Md_block_34 rfl (by decide) (by decide) ?_
      exact ⟨_, rfl, (zsm_st zsm_rf eh_1 (zMP_in (by decide) (by decide))), Or.inl ⟨fun z => z0 q_i ((zrg hbl).mpr z.1), ⟨(zg_eq eh_1 hm), (zg_ne eh_1 (by decide) h85), (zg_ne eh_1 (by decide) h86), (zg_ne eh_1 (by decide) h87), (zg_ne eh_1 (by decide) h88), (zg_ne eh_1 (by decide) h89), (zg_ne eh_1 (by decide) h90), (zg_ne eh_1 (by decide) h91), (zg_ne eh_1 (by decide) h92), (zg_ne eh_1 (by decide) h93), ⟨_, (zg_ne eh_1 (by decide) h94)⟩, (zg_ne eh_1 (by decide) h95), (zg_ne eh_1 (by decide) h96), (zg_ne eh_1 (by decide) h97), (zg_ne eh_1 (by decide) h98), (zg_ne eh_1 (by decide) h99), ⟨_, (zg_ne eh_1 (by decide) h100)⟩, ⟨_, (zg_ne eh_1 (by decide) h101)⟩, ⟨_, (zg_ne eh_1 (by decide) h102)⟩, ⟨_, (zg_ne eh_1 (by decide) h103)⟩⟩⟩⟩
  · refine pw_iload_n d_Md_block_9 rfl rfl ?_
    refine pw_iconst (x := 0) d_Md_block_10 (by decide) ?_
    refine pw_iconst (x := 4) d_Md_block_11 (by decide) ?_
    refine pw_callS1 (R' := (zroom 0 0 0)) (h2 := h) [.int (w), .int (0), .int (4)] (fun q => nomatch q) d_Md_block_12 lk_Md_131 rfl rfl c_in ?_
    refine pw_if_eq 22 d_Md_block_15 (by decide) (fun q_j => ?_) (fun q_j => ?_)
    · refine pw_iconst (x := 1) d_Md_block_22 (by decide) ?_
      obtain ⟨h_2, eh_2⟩ : ∃ x_9, x_9 = List.set h (84) (.inr (6, [.int (1), .ref 85, .int (nI jn), .ref 86, .ref 87, .int (nI dr), .ref 88, .ref 89, .int (nI pn), .ref 90, .ref 91, .ref 92, .ref 93, .ref 94, .int (nI bl), .ref 95, .ref 96, .ref 97, .int (nI tn), .ref 98, .ref 99, .ref 100, .ref 101, .ref 102, .ref 103])) := ⟨_, rfl⟩
      refine pw_put rfl d_Md_block_23 (fp_Md_75 _ _) hm (Nat.le_of_ble_eq_true rfl) (fun _ => ⟨rfl, rfl⟩) eh_2.symm ?_
      refine pw_aload_n d_Md_block_26 rfl rfl ?_
      refine pw_get d_Md_block_27 fl_Md_75 (zg_eq eh_2 hm) rfl ?_
      refine pw_if_le 35 d_Md_block_30 (by decide) (fun q_t => ?_) (fun q_t => ?_)
      · exact absurd q_t (by decide)
      · refine pw_iconst (x := 0) d_Md_block_33 (by decide) ?_
        refine pw_ireturn d_Md_block_34 rfl (by decide) (by decide) ?_
        exact ⟨_, rfl, (zsm_st zsm_rf eh_2 (zMP_in (by decide) (by decide))), Or.inl ⟨fun z => z0 q_j z.2, ⟨(zg_eq eh_2 hm), (zg_ne eh_2 (by decide) h85), (zg_ne eh_2 (by decide) h86), (zg_ne eh_2 (by decide) h87), (zg_ne eh_2 (by decide) h88), (zg_ne eh_2 (by decide) h89), (zg_ne eh_2 (by decide) h90), (zg_ne eh_2 (by decide) h91), (zg_ne eh_2 (by decide) h92), (zg_ne eh_2 (by decide) h93), ⟨_, (zg_ne eh_2 (by decide) h94)⟩, (zg_ne eh_2 (by decide) h95), (zg_ne eh_2 (by decide) h96), (zg_ne eh_2 (by decide) h97), (zg_ne eh_2 (by decide) h98), (zg_ne eh_2 (by decide) h99), ⟨_, (zg_ne eh_2 (by decide) h100)⟩, ⟨_, (zg_ne eh_2 (by decide) h101)⟩, ⟨_, (zg_ne eh_2 (by decide) h102)⟩, ⟨_, (zg_ne eh_2 (by decide) h103)⟩⟩⟩⟩
    · refine pw_iconst (x := 0) d_Md_block_18 (by decide) ?_
      refine pw_goto 23 d_Md_block_19 (by decide) ?_
      obtain ⟨h_3, eh_3⟩ : ∃ x_9, x_9 = List.set h (84) (.inr (6, [.int (0), .ref 85, .int (nI jn), .ref 86, .ref 87, .int (nI dr), .ref 88, .ref 89, .int (nI pn), .ref 90, .ref 91, .ref 92, .ref 93, .ref 94, .int (nI bl), .ref 95, .ref 96, .ref 97, .int (nI tn), .ref 98, .ref 99, .ref 100, .ref 101, .ref 102, .ref 103])) := ⟨_, rfl⟩
      refine pw_put rfl d_Md_block_23 (fp_Md_75 _ _) hm (Nat.le_of_ble_eq_true rfl) (fun _ => ⟨rfl, rfl⟩) eh_3.symm ?_
      refine pw_aload_n d_Md_block_26 rfl rfl ?_
      refine pw_get d_Md_block_27 fl_Md_75 (zg_eq eh_3 hm) rfl ?_
      refine pw_if_le 35 d_Md_block_30 (by decide) (fun q_t => ?_) (fun q_t => ?_)
      · obtain ⟨K, hK, rfl⟩ := (zrg hbl).mp (z1 q_i)
        refine pw_iload_n d_Md_block_35 rfl rfl ?_
        refine pw_if_ne 46 d_Md_block_36 (by decide) (fun q_0 => ?_) (fun q_0 => ?_)
        · refine pw_iload_n d_Md_block_46 rfl rfl ?_
          refine pw_iconst (x := 1) d_Md_block_47 (by decide) ?_
          refine pw_icmp_ne 58 d_Md_block_48 (by decide) (fun q_1 => ?_) (fun q_1 => ?_)
          · refine pw_iload_n d_Md_block_58 rfl rfl ?_
            refine pw_iconst (x := 2) d_Md_block_59 (by decide) ?_
            refine pw_icmp_ne 69 d_Md_block_60 (by decide) (fun q_2 => ?_) (fun q_2 => ?_)
            · refine pw_iload_n d_Md_block_69 rfl rfl ?_
              refine pw_iconst (x := 3) d_Md_block_70 (by decide) ?_
              refine pw_icmp_ne 80 d_Md_block_71 (by decide) (fun q_3 => ?_) (fun q_3 => ?_)
              · refine pw_aload_n d_Md_block_80 rfl rfl ?_
                refine pw_get d_Md_block_81 fl_Md_47 (zg_eq eh_3 hm) rfl ?_
                refine pw_iload_n d_Md_block_84 rfl rfl ?_
                refine pw_zald d_Md_block_85 (zg_ne eh_3 (by decide) h97) rfl rfl (by omega) (by decide) ?_
                refine pw_if_eq 93 d_Md_block_86 (by decide) (fun q_k => ?_) (fun q_k => ?_)
                · refine pw_iconst (x := 0) d_Md_block_93 (by decide) ?_
                  refine pw_ireturn d_Md_block_94 rfl (by decide) (by decide) ?_
                  have q_4 : w = 4 := by rcases z04 (z1 q_j).1 (z1 q_j).2 with e | e | e | e | e; exact absurd e q_0; exact absurd e q_1; exact absurd e q_2; exact absurd e q_3; exact e
                  exact ⟨_, rfl, (zsm_st zsm_rf eh_3 (zMP_in (by decide) (by decide))), Or.inr ⟨K, hK, rfl, Or.inr (Or.inr (Or.inr (Or.inr ⟨q_4, (if_pos q_k).symm⟩))), ⟨(zg_eq eh_3 hm), (zg_ne eh_3 (by decide) h85), (zg_ne eh_3 (by decide) h86), (zg_ne eh_3 (by decide) h87), (zg_ne eh_3 (by decide) h88), (zg_ne eh_3 (by decide) h89), (zg_ne eh_3 (by decide) h90), (zg_ne eh_3 (by decide) h91), (zg_ne eh_3 (by decide) h92), (zg_ne eh_3 (by decide) h93), ⟨_, (zg_ne eh_3 (by decide) h94)⟩, (zg_ne eh_3 (by decide) h95), (zg_ne eh_3 (by decide) h96), (zg_ne eh_3 (by decide) h97), (zg_ne eh_3 (by decide) h98), (zg_ne eh_3 (by decide) h99), ⟨_, (zg_ne eh_3 (by decide) h100)⟩, ⟨_, (zg_ne eh_3 (by decide) h101)⟩, ⟨_, (zg_ne eh_3 (by decide) h102)⟩, ⟨_, (zg_ne eh_3 (by decide) h103)⟩⟩⟩⟩
                · refine pw_iconst (x := 1) d_Md_block_89 (by decide) ?_
                  refine pw_goto 94 d_Md_block_90 (by decide) ?_
                  refine pw_ireturn d_Md_block_94 rfl (by decide) (by decide) ?_
                  have q_4 : w = 4 := by rcases z04 (z1 q_j).1 (z1 q_j).2 with e | e | e | e | e; exact absurd e q_0; exact absurd e q_1; exact absurd e q_2; exact absurd e q_3; exact e
                  exact ⟨_, rfl, (zsm_st zsm_rf eh_3 (zMP_in (by decide) (by decide))), Or.inr ⟨K, hK, rfl, Or.inr (Or.inr (Or.inr (Or.inr ⟨q_4, (if_neg q_k).symm⟩))), ⟨(zg_eq eh_3 hm), (zg_ne eh_3 (by decide) h85), (zg_ne eh_3 (by decide) h86), (zg_ne eh_3 (by decide) h87), (zg_ne eh_3 (by decide) h88), (zg_ne eh_3 (by decide) h89), (zg_ne eh_3 (by decide) h90), (zg_ne eh_3 (by decide) h91), (zg_ne eh_3 (by decide) h92), (zg_ne eh_3 (by decide) h93), ⟨_, (zg_ne eh_3 (by decide) h94)⟩, (zg_ne eh_3 (by decide) h95), (zg_ne eh_3 (by decide) h96), (zg_ne eh_3 (by decide) h97), (zg_ne eh_3 (by decide) h98), (zg_ne eh_3 (by decide) h99), ⟨_, (zg_ne eh_3 (by decide) h100)⟩, ⟨_, (zg_ne eh_3 (by decide) h101)⟩, ⟨_, (zg_ne eh_3 (by decide) h102)⟩, ⟨_, (zg_ne eh_3 (by decide) h103)⟩⟩⟩⟩
              · refine pw_aload_n d_Md_block_74 rfl rfl ?_
                refine pw_iload_n d_Md_block_75 rfl rfl ?_
                refine pw_callV1 (R' := (zroom 1 0 0)) (h2 := h_3) [.int (nI K)] (fun q => nomatch q) d_Md_block_76 lk_Md_158 (zg_eq eh_3 hm) rfl rfl rfl (c_insideOf (zg_eq eh_3 hm) (zg_ne eh_3 (by decide) h86) (zg_ne eh_3 (by decide) h95) hjn (show K < 64 by omega) (zg_ne eh_3 (by decide) h85) e0 e1 e2 hN.1.2 hN.2.1.2 hN.2.2.2 hN.1.1 hN.2.1.1 hN.2.2.1) ?_
                refine pw_ireturn d_Md_block_79 rfl (by decide) (by decide) ?_
                exact ⟨_, rfl, (zsm_st zsm_rf eh_3 (zMP_in (by decide) (by decide))), Or.inr ⟨K, hK, rfl, Or.inr (Or.inr (Or.inr (Or.inl ⟨q_3, rfl⟩))), ⟨(zg_eq eh_3 hm), (zg_ne eh_3 (by decide) h85), (zg_ne eh_3 (by decide) h86), (zg_ne eh_3 (by decide) h87), (zg_ne eh_3 (by decide) h88), (zg_ne eh_3 (by decide) h89), (zg_ne eh_3 (by decide) h90), (zg_ne eh_3 (by decide) h91), (zg_ne eh_3 (by decide) h92), (zg_ne eh_3 (by decide) h93), ⟨_, (zg_ne eh_3 (by decide) h94)⟩, (zg_ne eh_3 (by decide) h95), (zg_ne eh_3 (by decide) h96), (zg_ne eh_3 (by decide) h97), (zg_ne eh_3 (by decide) h98), (zg_ne eh_3 (by decide) h99), ⟨_, (zg_ne eh_3 (by decide) h100)⟩, ⟨_, (zg_ne eh_3 (by decide) h101)⟩, ⟨_, (zg_ne eh_3 (by decide) h102)⟩, ⟨_, (zg_ne eh_3 (by decide) h103)⟩⟩⟩⟩
            · refine pw_aload_n d_Md_block_63 rfl rfl ?_
              refine pw_iload_n d_Md_block_64 rfl rfl ?_
              refine pw_callV1 (R' := (zroom 1 0 0)) (h2 := h_3) [.int (nI K)] (fun q => nomatch q) d_Md_block_65 lk_Md_155 (zg_eq eh_3 hm) rfl rfl rfl (c_cornersOf (zg_eq eh_3 hm) (zg_ne eh_3 (by decide) h92) (zg_ne eh_3 (by decide) h93) (zg_ne eh_3 (by decide) h95) hpn (show K < 64 by omega)) ?_
              refine pw_ireturn d_Md_block_68 rfl (by decide) (by decide) ?_
              exact ⟨_, rfl, (zsm_st zsm_rf eh_3 (zMP_in (by decide) (by decide))), Or.inr ⟨K, hK, rfl, Or.inr (Or.inr (Or.inl ⟨q_2, rfl⟩)), ⟨(zg_eq eh_3 hm), (zg_ne eh_3 (by decide) h85), (zg_ne eh_3 (by decide) h86), (zg_ne eh_3 (by decide) h87), (zg_ne eh_3 (by decide) h88), (zg_ne eh_3 (by decide) h89), (zg_ne eh_3 (by decide) h90), (zg_ne eh_3 (by decide) h91), (zg_ne eh_3 (by decide) h92), (zg_ne eh_3 (by decide) h93), ⟨_, (zg_ne eh_3 (by decide) h94)⟩, (zg_ne eh_3 (by decide) h95), (zg_ne eh_3 (by decide) h96), (zg_ne eh_3 (by decide) h97), (zg_ne eh_3 (by decide) h98), (zg_ne eh_3 (by decide) h99), ⟨_, (zg_ne eh_3 (by decide) h100)⟩, ⟨_, (zg_ne eh_3 (by decide) h101)⟩, ⟨_, (zg_ne eh_3 (by decide) h102)⟩, ⟨_, (zg_ne eh_3 (by decide) h103)⟩⟩⟩⟩
          · refine pw_aload_n d_Md_block_51 rfl rfl ?_
            refine pw_get d_Md_block_52 fl_Md_44 (zg_eq eh_3 hm) rfl ?_
            refine pw_iload_n d_Md_block_55 rfl rfl ?_
            refine pw_iald d_Md_block_56 (zg_ne eh_3 (by decide) h96) rfl rfl (by omega) (by decide) ?_
            refine pw_ireturn d_Md_block_57 rfl (by decide) (by decide) ?_
            exact ⟨_, rfl, (zsm_st zsm_rf eh_3 (zMP_in (by decide) (by decide))), Or.inr ⟨K, hK, rfl, Or.inr (Or.inl ⟨q_1, rfl⟩), ⟨(zg_eq eh_3 hm), (zg_ne eh_3 (by decide) h85), (zg_ne eh_3 (by decide) h86), (zg_ne eh_3 (by decide) h87), (zg_ne eh_3 (by decide) h88), (zg_ne eh_3 (by decide) h89), (zg_ne eh_3 (by decide) h90), (zg_ne eh_3 (by decide) h91), (zg_ne eh_3 (by decide) h92), (zg_ne eh_3 (by decide) h93), ⟨_, (zg_ne eh_3 (by decide) h94)⟩, (zg_ne eh_3 (by decide) h95), (zg_ne eh_3 (by decide) h96), (zg_ne eh_3 (by decide) h97), (zg_ne eh_3 (by decide) h98), (zg_ne eh_3 (by decide) h99), ⟨_, (zg_ne eh_3 (by decide) h100)⟩, ⟨_, (zg_ne eh_3 (by decide) h101)⟩, ⟨_, (zg_ne eh_3 (by decide) h102)⟩, ⟨_, (zg_ne eh_3 (by decide) h103)⟩⟩⟩⟩
        · refine pw_aload_n d_Md_block_39 rfl rfl ?_
          refine pw_get d_Md_block_40 fl_Md_41 (zg_eq eh_3 hm) rfl ?_
          refine pw_iload_n d_Md_block_43 rfl rfl ?_
          refine pw_iald d_Md_block_44 (zg_ne eh_3 (by decide) h95) rfl rfl (by omega) (by decide) ?_
          refine pw_ireturn d_Md_block_45 rfl (by decide) (by decide) ?_
          exact ⟨_, rfl, (zsm_st zsm_rf eh_3 (zMP_in (by decide) (by decide))), Or.inr ⟨K, hK, rfl, Or.inl ⟨q_0, rfl⟩, ⟨(zg_eq eh_3 hm), (zg_ne eh_3 (by decide) h85), (zg_ne eh_3 (by decide) h86), (zg_ne eh_3 (by decide) h87), (zg_ne eh_3 (by decide) h88), (zg_ne eh_3 (by decide) h89), (zg_ne eh_3 (by decide) h90), (zg_ne eh_3 (by decide) h91), (zg_ne eh_3 (by decide) h92), (zg_ne eh_3 (by decide) h93), ⟨_, (zg_ne eh_3 (by decide) h94)⟩, (zg_ne eh_3 (by decide) h95), (zg_ne eh_3 (by decide) h96), (zg_ne eh_3 (by decide) h97), (zg_ne eh_3 (by decide) h98), (zg_ne eh_3 (by decide) h99), ⟨_, (zg_ne eh_3 (by decide) h100)⟩, ⟨_, (zg_ne eh_3 (by decide) h101)⟩, ⟨_, (zg_ne eh_3 (by decide) h102)⟩, ⟨_, (zg_ne eh_3 (by decide) h103)⟩⟩⟩⟩
      · exact absurd (show (0 : Int32) ≤ 0 by decide) q_t
set_option maxRecDepth 20000 in
set_option maxHeartbeats 2000000 in
theorem l_corner {G : zG} {h : zH} {jn dr pn bl tn : Nat} {ms ml mo mT mp pt po pa pw bs bf tk tB tY : Nat → Int32} (hA : rAll h 0 jn dr pn bl tn ms ml mo mT mp pt po pa pw bs bf tk tB tY) (hpn : pn ≤ 220) {K I9 W ps : Nat} (hK : K < 64) (hW : W < 4) {i : Int32} {o4 : Option Value} (hs1 : ps < pn) (hs2 : (ztp (bs K) pa pw ps)) (hs3 : (zct (fun p => ztp (bs K) pa pw p) ps) = I9) : ∀ (n p l : Nat), ps - p < n → p ≤ ps → l + (zct (fun p => ztp (bs K) pa pw p) p) = I9 → PW G M_Md_corner (zroom 2 0 0) false (fun r h' => h' = h ∧ ∃ t : Int32, r = .inl (some (.int t)) ∧ ∃ p, p < pn ∧ (ztp (bs K) pa pw p) ∧ (zct (fun p => ztp (bs K) pa pw p) p) = I9 ∧ t = pt (4 * p + W)) 66 [some (.ref 84), some (.int (nI K)), some (.int i), some (.int (nI W)), o4, some (.int (nI l)), some (.int (nI p))] [] h 0 0 := by
  obtain ⟨hm, h85, h86, h87, h88, h89, h90, h91, h92, h93, ⟨w94, h94⟩, h95, h96, h97, h98, h99, ⟨w100, h100⟩, ⟨w101, h101⟩, ⟨w102, h102⟩, ⟨w103, h103⟩⟩ := hA
  intro n
  induction n with
  | zero => intro p l hn; exact absurd hn (Nat.not_lt_zero _)
  | succ n ih =>
    intro p l hn hp hl
    have hct := zct_mono (P := fun p => ztp (bs K) pa pw p) hp
    have hcl := zct_le (fun p => ztp (bs K) pa pw p) ps
    refine pw_iload d_Md_corner_66 rfl ?_
    refine pw_if_gt 86 d_Md_corner_68 (by decide) (fun q_l => ?_) (fun q_l => ?_)
    · have hlz : 0 < l := by rcases Nat.eq_zero_or_pos l with h1 | h1; subst h1; exact absurd q_l (by decide); exact h1
      refine pw_aload_n d_Md_corner_86 rfl rfl ?_
      refine pw_iload d_Md_corner_87 rfl ?_
      refine pw_aload_n d_Md_corner_89 rfl rfl ?_
      refine pw_get d_Md_corner_90 fl_Md_41 hm rfl ?_
      refine pw_iload_n d_Md_corner_93 rfl rfl ?_
      refine pw_iald d_Md_corner_94 h95 rfl rfl (by omega) (by decide) ?_
      refine pw_callV1 (R' := (zroom 0 0 0)) (h2 := h) [.int (nI p), .int (bs K)] (fun q => nomatch q) d_Md_corner_95 lk_Md_127 hm rfl rfl rfl (c_isOf hm h92 h93 (show p < 220 by omega)) ?_
      refine pw_if_eq 108 d_Md_corner_98 (by decide) (fun q_o => ?_) (fun q_o => ?_)
      · refine pw_iload d_Md_corner_108 rfl ?_
        refine pw_istore d_Md_corner_110 (by decide) (pl' := [some (.ref 84), some (.int (nI K)), some (.int (i)), some (.int (nI W)), o4, some (.int (nI l)), some (.int (nI p))]) rfl ?_
        refine pw_iinc (y := nI (p + 1)) d_Md_corner_112 rfl (nI_1 p) (by decide) (pl' := [some (.ref 84), some (.int (nI K)), some (.int (i)), some (.int (nI W)), o4, some (.int (nI l)), some (.int (nI (p + 1)))]) rfl ?_
        refine pw_goto 66 d_Md_corner_115 (by decide) ?_
        have ht9 : ¬ (ztp (bs K) pa pw p) := z0 q_o
        have e9 := zct_f (P := fun p => ztp (bs K) pa pw p) ht9
        have hpq : p < ps := by
          rcases Nat.eq_or_lt_of_le hp with h1 | h1
          · subst h1; exact absurd hs2 ht9
          · exact h1
        exact ih (p + 1) l (by omega) (by omega) (by omega)
      · refine pw_iload d_Md_corner_101 rfl ?_
        refine pw_iconst (x := 1) d_Md_corner_103 (by decide) ?_
        refine pw_isub d_Md_corner_104 ?_
        refine pw_goto 110 d_Md_corner_105 (by decide) ?_
        refine pw_istore d_Md_corner_110 (by decide) (pl' := [some (.ref 84), some (.int (nI K)), some (.int (i)), some (.int (nI W)), o4, some (.int ((nI l - 1))), some (.int (nI p))]) rfl ?_
        refine pw_iinc (y := nI (p + 1)) d_Md_corner_112 rfl (nI_1 p) (by decide) (pl' := [some (.ref 84), some (.int (nI K)), some (.int (i)), some (.int (nI W)), o4, some (.int ((nI l - 1))), some (.int (nI (p + 1)))]) rfl ?_
        refine pw_goto 66 d_Md_corner_115 (by decide) ?_
        have ht9 : (ztp (bs K) pa pw p) := z1 q_o
        have e9 := zct_t (P := fun p => ztp (bs K) pa pw p) ht9
        have hpq : p < ps := by
          rcases Nat.eq_or_lt_of_le hp with h1 | h1
          · subst h1; exact absurd hlz (by omega)
          · exact h1
        obtain ⟨l9, rfl⟩ : ∃ x, l = x + 1 := ⟨l - 1, by omega⟩
        rw [nI_pred]
        exact ih (p + 1) l9 (by omega) (by omega) (by omega)
    · refine pw_aload_n d_Md_corner_71 rfl rfl ?_
      refine pw_iload d_Md_corner_72 rfl ?_
      refine pw_aload_n d_Md_corner_74 rfl rfl ?_
      refine pw_get d_Md_corner_75 fl_Md_41 hm rfl ?_
      refine pw_iload_n d_Md_corner_78 rfl rfl ?_
      refine pw_iald d_Md_corner_79 h95 rfl rfl (by omega) (by decide) ?_
      refine pw_callV1 (R' := (zroom 0 0 0)) (h2 := h) [.int (nI p), .int (bs K)] (fun q => nomatch q) d_Md_corner_80 lk_Md_127 hm rfl rfl rfl (c_isOf hm h92 h93 (show p < 220 by omega)) ?_
      refine pw_if_ne 118 d_Md_corner_83 (by decide) (fun q_f => ?_) (fun q_f => ?_)
      · refine pw_aload_n d_Md_corner_118 rfl rfl ?_
        refine pw_get d_Md_corner_119 fl_Md_26 hm rfl ?_
        refine pw_iconst (x := 4) d_Md_corner_122 (by decide) ?_
        refine pw_iload d_Md_corner_123 rfl ?_
        refine pw_imul d_Md_corner_125 ?_
        refine pw_iload_n d_Md_corner_126 rfl rfl ?_
        refine pw_iadd d_Md_corner_127 ?_
        refine pw_iald d_Md_corner_128 h90 rfl (n4 p W) (by omega) (by decide) ?_
        refine pw_ireturn d_Md_corner_129 rfl (by decide) (by decide) ?_
        have hl0 : l = 0 := by rcases Nat.eq_zero_or_pos l with h1 | h1; exact h1; exact absurd (show (0 : Int32) < nI l from nI_lt (a := 0) h1 (by omega)) q_l
        subst hl0
        exact ⟨rfl, _, rfl, p, by omega, z1 q_f, by omega, rfl⟩
      · have hlz : 0 < l ∨ ¬ (ztp (bs K) pa pw p) := Or.inr (z0 q_f)
        refine pw_aload_n d_Md_corner_86 rfl rfl ?_
        refine pw_iload d_Md_corner_87 rfl ?_
        refine pw_aload_n d_Md_corner_89 rfl rfl ?_
        refine pw_get d_Md_corner_90 fl_Md_41 hm rfl ?_
        refine pw_iload_n d_Md_corner_93 rfl rfl ?_
        refine pw_iald d_Md_corner_94 h95 rfl rfl (by omega) (by decide) ?_
        refine pw_callV1 (R' := (zroom 0 0 0)) (h2 := h) [.int (nI p), .int (bs K)] (fun q => nomatch q) d_Md_corner_95 lk_Md_127 hm rfl rfl rfl (c_isOf hm h92 h93 (show p < 220 by omega)) ?_
        refine pw_if_eq 108 d_Md_corner_98 (by decide) (fun q_o => ?_) (fun q_o => ?_)
        · refine pw_iload d_Md_corner_108 rfl ?_
          refine pw_istore d_Md_corner_110 (by decide) (pl' := [some (.ref 84), some (.int (nI K)), some (.int (i)), some (.int (nI W)), o4, some (.int (nI l)), some (.int (nI p))]) rfl ?_
          refine pw_iinc (y := nI (p + 1)) d_Md_corner_112 rfl (nI_1 p) (by decide) (pl' := [some (.ref 84), some (.int (nI K)), some (.int (i)), some (.int (nI W)), o4, some (.int (nI l)), some (.int (nI (p + 1)))]) rfl ?_
          refine pw_goto 66 d_Md_corner_115 (by decide) ?_
          have ht9 : ¬ (ztp (bs K) pa pw p) := z0 q_o
          have e9 := zct_f (P := fun p => ztp (bs K) pa pw p) ht9
          have hpq : p < ps := by
            rcases Nat.eq_or_lt_of_le hp with h1 | h1
            · subst h1; exact absurd hs2 ht9
            · exact h1
          exact ih (p + 1) l (by omega) (by omega) (by omega)
        · refine pw_iload d_Md_corner_101 rfl ?_
          refine pw_iconst (x := 1) d_Md_corner_103 (by decide) ?_
          refine pw_isub d_Md_corner_104 ?_
          refine pw_goto 110 d_Md_corner_105 (by decide) ?_
          refine pw_istore d_Md_corner_110 (by decide) (pl' := [some (.ref 84), some (.int (nI K)), some (.int (i)), some (.int (nI W)), o4, some (.int ((nI l - 1))), some (.int (nI p))]) rfl ?_
          refine pw_iinc (y := nI (p + 1)) d_Md_corner_112 rfl (nI_1 p) (by decide) (pl' := [some (.ref 84), some (.int (nI K)), some (.int (i)), some (.int (nI W)), o4, some (.int ((nI l - 1))), some (.int (nI (p + 1)))]) rfl ?_
          refine pw_goto 66 d_Md_corner_115 (by decide) ?_
          exact absurd (z1 q_o) (z0 q_f)
theorem z03n {w : Int32} (h : 0 ≤ w ∧ w ≤ 3) : ∃ W, W < 4 ∧ w = nI W := by
  rcases z03 h.1 h.2 with e | e | e | e
  · exact ⟨0, by decide, e⟩
  · exact ⟨1, by decide, e⟩
  · exact ⟨2, by decide, e⟩
  · exact ⟨3, by decide, e⟩
set_option maxRecDepth 20000 in
set_option maxHeartbeats 2000000 in
theorem p_corner {G : zG} {h : zH} {th : Int32} {jn dr pn bl tn : Nat} {ms ml mo mT mp pt po pa pw bs bf tk tB tY : Nat → Int32} (hA : rAll h th jn dr pn bl tn ms ml mo mT mp pt po pa pw bs bf tk tB tY) {k i w : Int32} (hbl : bl ≤ 64) (hpn : pn ≤ 220) : PW G M_Md_corner (zroom 2 0 0) false (fun r h' => ∃ t : Int32, r = .inl (some (.int t)) ∧ zsm zMP h h' ∧ ((¬ ((∃ K I9, K < bl ∧ k = nI K ∧ i = nI I9 ∧ I9 < (zct (fun p => ztp (bs K) pa pw p) pn)) ∧ 0 ≤ w ∧ w ≤ 3) ∧ rAll h' 1 jn dr pn bl tn ms ml mo mT mp pt po pa pw bs bf tk tB tY) ∨ (∃ K I9 W, K < bl ∧ k = nI K ∧ i = nI I9 ∧ I9 < (zct (fun p => ztp (bs K) pa pw p) pn) ∧ W < 4 ∧ w = nI W ∧ ∃ p, p < pn ∧ (ztp (bs K) pa pw p) ∧ (zct (fun p => ztp (bs K) pa pw p) p) = I9 ∧ t = pt (4 * p + W) ∧ rAll h' 0 jn dr pn bl tn ms ml mo mT mp pt po pa pw bs bf tk tB tY))) 0 (zentry 7 [.ref 84, .int (k), .int (i), .int (w)]) [] h 0 0 := by
  show PW G M_Md_corner (zroom 2 0 0) false _ 0 [some (.ref 84), some (.int (k)), some (.int (i)), some (.int (w)), none, none, none] [] h 0 0
  obtain ⟨hm, h85, h86, h87, h88, h89, h90, h91, h92, h93, ⟨w94, h94⟩, h95, h96, h97, h98, h99, ⟨w100, h100⟩, ⟨w101, h101⟩, ⟨w102, h102⟩, ⟨w103, h103⟩⟩ := hA
  refine pw_aload_n d_Md_corner_0 rfl rfl ?_
  refine pw_iload_n d_Md_corner_1 rfl rfl ?_
  refine pw_callV1 (R' := (zroom 1 0 0)) (h2 := h) [.int (k)] (fun q => nomatch q) d_Md_corner_2 lk_Md_152 hm rfl rfl rfl (c_isBlock hm) ?_
  refine pw_if_eq 25 d_Md_corner_5 (by decide) (fun q_i => ?_) (fun q_i => ?_)
  · refine pw_iconst (x := 0) d_Md_corner_25 (by decide) ?_
    refine pw_istore d_Md_corner_26 (by decide) (pl' := [some (.ref 84), some (.int (k)), some (.int (i)), some (.int (w)), some (.int (0)), none, none]) rfl ?_
    refine pw_aload_n d_Md_corner_28 rfl rfl ?_
    refine pw_iload d_Md_corner_29 rfl ?_
    refine pw_if_eq 47 d_Md_corner_31 (by decide) (fun q_s => ?_) (fun q_s => ?_)
    · refine pw_iconst (x := 1) d_Md_corner_47 (by decide) ?_
      obtain ⟨h_1, eh_1⟩ : ∃ x_9, x_9 = List.set h (84) (.inr (6, [.int (1), .ref 85, .int (nI jn), .ref 86, .ref 87, .int (nI dr), .ref 88, .ref 89, .int (nI pn), .ref 90, .ref 91, .ref 92, .ref 93, .ref 94, .int (nI bl), .ref 95, .ref 96, .ref 97, .int (nI tn), .ref 98, .ref 99, .ref 100, .ref 101, .ref 102, .ref 103])) := ⟨_, rfl⟩
      refine pw_put rfl d_Md_corner_48 (fp_Md_75 _ _) hm (Nat.le_of_ble_eq_true rfl) (fun _ => ⟨rfl, rfl⟩) eh_1.symm ?_
      refine pw_aload_n d_Md_corner_51 rfl rfl ?_
      refine pw_get d_Md_corner_52 fl_Md_75 (zg_eq eh_1 hm) rfl ?_
      refine pw_if_le 60 d_Md_corner_55 (by decide) (fun q_t => ?_) (fun q_t => ?_)
      · exact absurd q_t (by decide)
      · refine pw_iconst (x := 0) d_Md_corner_58 (by decide) ?_
        refine pw_ireturn d_Md_corner_59 rfl (by decide) (by decide) ?_
        exact ⟨_, rfl, (zsm_st zsm_rf eh_1 (zMP_in (by decide) (by decide))), Or.inl ⟨fun z => by obtain ⟨⟨K, I9, a1, a2, -⟩, -⟩ := z; exact z0 q_i ((zrg hbl).mpr ⟨K, a1, a2⟩), ⟨(zg_eq eh_1 hm), (zg_ne eh_1 (by decide) h85), (zg_ne eh_1 (by decide) h86), (zg_ne eh_1 (by decide) h87), (zg_ne eh_1 (by decide) h88), (zg_ne eh_1 (by decide) h89), (zg_ne eh_1 (by decide) h90), (zg_ne eh_1 (by decide) h91), (zg_ne eh_1 (by decide) h92), (zg_ne eh_1 (by decide) h93), ⟨_, (zg_ne eh_1 (by decide) h94)⟩, (zg_ne eh_1 (by decide) h95), (zg_ne eh_1 (by decide) h96), (zg_ne eh_1 (by decide) h97), (zg_ne eh_1 (by decide) h98), (zg_ne eh_1 (by decide) h99), ⟨_, (zg_ne eh_1 (by decide) h100)⟩, ⟨_, (zg_ne eh_1 (by decide) h101)⟩, ⟨_, (zg_ne eh_1 (by decide) h102)⟩, ⟨_, (zg_ne eh_1 (by decide) h103)⟩⟩⟩⟩
    · exact absurd rfl q_s
  · refine pw_iload_n d_Md_corner_8 rfl rfl ?_
    refine pw_iconst (x := 0) d_Md_corner_9 (by decide) ?_
    refine pw_iconst (x := 3) d_Md_corner_10 (by decide) ?_
    refine pw_callS1 (R' := (zroom 0 0 0)) (h2 := h) [.int (w), .int (0), .int (3)] (fun q => nomatch q) d_Md_corner_11 lk_Md_131 rfl rfl c_in ?_
    refine pw_if_eq 25 d_Md_corner_14 (by decide) (fun q_j => ?_) (fun q_j => ?_)
    · refine pw_iconst (x := 0) d_Md_corner_25 (by decide) ?_
      refine pw_istore d_Md_corner_26 (by decide) (pl' := [some (.ref 84), some (.int (k)), some (.int (i)), some (.int (w)), some (.int (0)), none, none]) rfl ?_
      refine pw_aload_n d_Md_corner_28 rfl rfl ?_
      refine pw_iload d_Md_corner_29 rfl ?_
      refine pw_if_eq 47 d_Md_corner_31 (by decide) (fun q_s => ?_) (fun q_s => ?_)
      · refine pw_iconst (x := 1) d_Md_corner_47 (by decide) ?_
        obtain ⟨h_2, eh_2⟩ : ∃ x_9, x_9 = List.set h (84) (.inr (6, [.int (1), .ref 85, .int (nI jn), .ref 86, .ref 87, .int (nI dr), .ref 88, .ref 89, .int (nI pn), .ref 90, .ref 91, .ref 92, .ref 93, .ref 94, .int (nI bl), .ref 95, .ref 96, .ref 97, .int (nI tn), .ref 98, .ref 99, .ref 100, .ref 101, .ref 102, .ref 103])) := ⟨_, rfl⟩
        refine pw_put rfl d_Md_corner_48 (fp_Md_75 _ _) hm (Nat.le_of_ble_eq_true rfl) (fun _ => ⟨rfl, rfl⟩) eh_2.symm ?_
        refine pw_aload_n d_Md_corner_51 rfl rfl ?_
        refine pw_get d_Md_corner_52 fl_Md_75 (zg_eq eh_2 hm) rfl ?_
        refine pw_if_le 60 d_Md_corner_55 (by decide) (fun q_t => ?_) (fun q_t => ?_)
        · exact absurd q_t (by decide)
        · refine pw_iconst (x := 0) d_Md_corner_58 (by decide) ?_
          refine pw_ireturn d_Md_corner_59 rfl (by decide) (by decide) ?_
          exact ⟨_, rfl, (zsm_st zsm_rf eh_2 (zMP_in (by decide) (by decide))), Or.inl ⟨fun z => z0 q_j z.2, ⟨(zg_eq eh_2 hm), (zg_ne eh_2 (by decide) h85), (zg_ne eh_2 (by decide) h86), (zg_ne eh_2 (by decide) h87), (zg_ne eh_2 (by decide) h88), (zg_ne eh_2 (by decide) h89), (zg_ne eh_2 (by decide) h90), (zg_ne eh_2 (by decide) h91), (zg_ne eh_2 (by decide) h92), (zg_ne eh_2 (by decide) h93), ⟨_, (zg_ne eh_2 (by decide) h94)⟩, (zg_ne eh_2 (by decide) h95), (zg_ne eh_2 (by decide) h96), (zg_ne eh_2 (by decide) h97), (zg_ne eh_2 (by decide) h98), (zg_ne eh_2 (by decide) h99), ⟨_, (zg_ne eh_2 (by decide) h100)⟩, ⟨_, (zg_ne eh_2 (by decide) h101)⟩, ⟨_, (zg_ne eh_2 (by decide) h102)⟩, ⟨_, (zg_ne eh_2 (by decide) h103)⟩⟩⟩⟩
      · exact absurd rfl q_s
    · refine pw_iload_n d_Md_corner_17 rfl rfl ?_
      refine pw_if_lt 25 d_Md_corner_18 (by decide) (fun q_l => ?_) (fun q_l => ?_)
      · refine pw_iconst (x := 0) d_Md_corner_25 (by decide) ?_
        refine pw_istore d_Md_corner_26 (by decide) (pl' := [some (.ref 84), some (.int (k)), some (.int (i)), some (.int (w)), some (.int (0)), none, none]) rfl ?_
        refine pw_aload_n d_Md_corner_28 rfl rfl ?_
        refine pw_iload d_Md_corner_29 rfl ?_
        refine pw_if_eq 47 d_Md_corner_31 (by decide) (fun q_s => ?_) (fun q_s => ?_)
        · refine pw_iconst (x := 1) d_Md_corner_47 (by decide) ?_
          obtain ⟨h_3, eh_3⟩ : ∃ x_9, x_9 = List.set h (84) (.inr (6, [.int (1), .ref 85, .int (nI jn), .ref 86, .ref 87, .int (nI dr), .ref 88, .ref 89, .int (nI pn), .ref 90, .ref 91, .ref 92, .ref 93, .ref 94, .int (nI bl), .ref 95, .ref 96, .ref 97, .int (nI tn), .ref 98, .ref 99, .ref 100, .ref 101, .ref 102, .ref 103])) := ⟨_, rfl⟩
          refine pw_put rfl d_Md_corner_48 (fp_Md_75 _ _) hm (Nat.le_of_ble_eq_true rfl) (fun _ => ⟨rfl, rfl⟩) eh_3.symm ?_
          refine pw_aload_n d_Md_corner_51 rfl rfl ?_
          refine pw_get d_Md_corner_52 fl_Md_75 (zg_eq eh_3 hm) rfl ?_
          refine pw_if_le 60 d_Md_corner_55 (by decide) (fun q_t => ?_) (fun q_t => ?_)
          · exact absurd q_t (by decide)
          · refine pw_iconst (x := 0) d_Md_corner_58 (by decide) ?_
            refine pw_ireturn d_Md_corner_59 rfl (by decide) (by decide) ?_
            exact ⟨_, rfl, (zsm_st zsm_rf eh_3 (zMP_in (by decide) (by decide))), Or.inl ⟨fun z => by obtain ⟨⟨K, I9, a1, a2, a3, a4⟩, -⟩ := z; rw [a3] at q_l; have := zct_le (fun p => ztp (bs K) pa pw p) pn; exact absurd q_l (nI_pos (by omega)), ⟨(zg_eq eh_3 hm), (zg_ne eh_3 (by decide) h85), (zg_ne eh_3 (by decide) h86), (zg_ne eh_3 (by decide) h87), (zg_ne eh_3 (by decide) h88), (zg_ne eh_3 (by decide) h89), (zg_ne eh_3 (by decide) h90), (zg_ne eh_3 (by decide) h91), (zg_ne eh_3 (by decide) h92), (zg_ne eh_3 (by decide) h93), ⟨_, (zg_ne eh_3 (by decide) h94)⟩, (zg_ne eh_3 (by decide) h95), (zg_ne eh_3 (by decide) h96), (zg_ne eh_3 (by decide) h97), (zg_ne eh_3 (by decide) h98), (zg_ne eh_3 (by decide) h99), ⟨_, (zg_ne eh_3 (by decide) h100)⟩, ⟨_, (zg_ne eh_3 (by decide) h101)⟩, ⟨_, (zg_ne eh_3 (by decide) h102)⟩, ⟨_, (zg_ne eh_3 (by decide) h103)⟩⟩⟩⟩
        · exact absurd rfl q_s
      · refine pw_iconst (x := 1) d_Md_corner_21 (by decide) ?_
        refine pw_goto 26 d_Md_corner_22 (by decide) ?_
        refine pw_istore d_Md_corner_26 (by decide) (pl' := [some (.ref 84), some (.int (k)), some (.int (i)), some (.int (w)), some (.int (1)), none, none]) rfl ?_
        refine pw_aload_n d_Md_corner_28 rfl rfl ?_
        refine pw_iload d_Md_corner_29 rfl ?_
        refine pw_if_eq 47 d_Md_corner_31 (by decide) (fun q_s => ?_) (fun q_s => ?_)
        · exact absurd q_s (by decide)
        · obtain ⟨K, hK, rfl⟩ := (zrg hbl).mp (z1 q_i)
          refine pw_iload_n d_Md_corner_34 rfl rfl ?_
          refine pw_aload_n d_Md_corner_35 rfl rfl ?_
          refine pw_iload_n d_Md_corner_36 rfl rfl ?_
          refine pw_callV1 (R' := (zroom 1 0 0)) (h2 := h) [.int (nI K)] (fun q => nomatch q) d_Md_corner_37 lk_Md_155 hm rfl rfl rfl (c_cornersOf hm h92 h93 h95 hpn (show K < 64 by omega)) ?_
          refine pw_icmp_ge 47 d_Md_corner_40 (by decide) (fun q_n => ?_) (fun q_n => ?_)
          · refine pw_iconst (x := 1) d_Md_corner_47 (by decide) ?_
            obtain ⟨h_4, eh_4⟩ : ∃ x_9, x_9 = List.set h (84) (.inr (6, [.int (1), .ref 85, .int (nI jn), .ref 86, .ref 87, .int (nI dr), .ref 88, .ref 89, .int (nI pn), .ref 90, .ref 91, .ref 92, .ref 93, .ref 94, .int (nI bl), .ref 95, .ref 96, .ref 97, .int (nI tn), .ref 98, .ref 99, .ref 100, .ref 101, .ref 102, .ref 103])) := ⟨_, rfl⟩
            refine pw_put rfl d_Md_corner_48 (fp_Md_75 _ _) hm (Nat.le_of_ble_eq_true rfl) (fun _ => ⟨rfl, rfl⟩) eh_4.symm ?_
            refine pw_aload_n d_Md_corner_51 rfl rfl ?_
            refine pw_get d_Md_corner_52 fl_Md_75 (zg_eq eh_4 hm) rfl ?_
            refine pw_if_le 60 d_Md_corner_55 (by decide) (fun q_t => ?_) (fun q_t => ?_)
            · exact absurd q_t (by decide)
            · refine pw_iconst (x := 0) d_Md_corner_58 (by decide) ?_
              refine pw_ireturn d_Md_corner_59 rfl (by decide) (by decide) ?_
              exact ⟨_, rfl, (zsm_st zsm_rf eh_4 (zMP_in (by decide) (by decide))), Or.inl ⟨fun z => by obtain ⟨⟨K9, I9, a1, a2, a3, a4⟩, -⟩ := z; have hk9 : K9 = K := (nI_eq (by omega) (by omega)).mp a2.symm; subst hk9; rw [a3] at q_n; have := zct_le (fun p => ztp (bs K9) pa pw p) pn; have := (nI_leI (by omega) (by omega)).mp q_n; omega, ⟨(zg_eq eh_4 hm), (zg_ne eh_4 (by decide) h85), (zg_ne eh_4 (by decide) h86), (zg_ne eh_4 (by decide) h87), (zg_ne eh_4 (by decide) h88), (zg_ne eh_4 (by decide) h89), (zg_ne eh_4 (by decide) h90), (zg_ne eh_4 (by decide) h91), (zg_ne eh_4 (by decide) h92), (zg_ne eh_4 (by decide) h93), ⟨_, (zg_ne eh_4 (by decide) h94)⟩, (zg_ne eh_4 (by decide) h95), (zg_ne eh_4 (by decide) h96), (zg_ne eh_4 (by decide) h97), (zg_ne eh_4 (by decide) h98), (zg_ne eh_4 (by decide) h99), ⟨_, (zg_ne eh_4 (by decide) h100)⟩, ⟨_, (zg_ne eh_4 (by decide) h101)⟩, ⟨_, (zg_ne eh_4 (by decide) h102)⟩, ⟨_, (zg_ne eh_4 (by decide) h103)⟩⟩⟩⟩
          · refine pw_iconst (x := 0) d_Md_corner_43 (by decide) ?_
            refine pw_goto 48 d_Md_corner_44 (by decide) ?_
            obtain ⟨h_5, eh_5⟩ : ∃ x_9, x_9 = List.set h (84) (.inr (6, [.int (0), .ref 85, .int (nI jn), .ref 86, .ref 87, .int (nI dr), .ref 88, .ref 89, .int (nI pn), .ref 90, .ref 91, .ref 92, .ref 93, .ref 94, .int (nI bl), .ref 95, .ref 96, .ref 97, .int (nI tn), .ref 98, .ref 99, .ref 100, .ref 101, .ref 102, .ref 103])) := ⟨_, rfl⟩
            refine pw_put rfl d_Md_corner_48 (fp_Md_75 _ _) hm (Nat.le_of_ble_eq_true rfl) (fun _ => ⟨rfl, rfl⟩) eh_5.symm ?_
            refine pw_aload_n d_Md_corner_51 rfl rfl ?_
            refine pw_get d_Md_corner_52 fl_Md_75 (zg_eq eh_5 hm) rfl ?_
            refine pw_if_le 60 d_Md_corner_55 (by decide) (fun q_t => ?_) (fun q_t => ?_)
            · obtain ⟨I9, hI9, rfl⟩ : ∃ I9, I9 < 2 ^ 31 ∧ i = nI I9 := nI_of q_l
              have hI : I9 < (zct (fun p => ztp (bs K) pa pw p) pn) := by have h9 := zct_le (fun p => ztp (bs K) pa pw p) pn; have := mt (nI_leI (b := I9) (by omega) hI9).mpr q_n; omega
              obtain ⟨W, hW, rfl⟩ : ∃ W, W < 4 ∧ w = nI W := z03n (z1 q_j)
              obtain ⟨ps, p1, p2, p3⟩ := zct_sur hI
              refine pw_iload_n d_Md_corner_60 rfl rfl ?_
              refine pw_istore d_Md_corner_61 (by decide) (pl' := [some (.ref 84), some (.int (nI K)), some (.int (nI I9)), some (.int (nI W)), some (.int (1)), some (.int (nI I9)), none]) rfl ?_
              refine pw_iconst (x := 0) d_Md_corner_63 (by decide) ?_
              refine pw_istore d_Md_corner_64 (by decide) (pl' := [some (.ref 84), some (.int (nI K)), some (.int (nI I9)), some (.int (nI W)), some (.int (1)), some (.int (nI I9)), some (.int (0))]) rfl ?_
              refine pw_mono ?_ (l_corner (K := K) (I9 := I9) (W := W) ⟨(zg_eq eh_5 hm), (zg_ne eh_5 (by decide) h85), (zg_ne eh_5 (by decide) h86), (zg_ne eh_5 (by decide) h87), (zg_ne eh_5 (by decide) h88), (zg_ne eh_5 (by decide) h89), (zg_ne eh_5 (by decide) h90), (zg_ne eh_5 (by decide) h91), (zg_ne eh_5 (by decide) h92), (zg_ne eh_5 (by decide) h93), ⟨_, (zg_ne eh_5 (by decide) h94)⟩, (zg_ne eh_5 (by decide) h95), (zg_ne eh_5 (by decide) h96), (zg_ne eh_5 (by decide) h97), (zg_ne eh_5 (by decide) h98), (zg_ne eh_5 (by decide) h99), ⟨_, (zg_ne eh_5 (by decide) h100)⟩, ⟨_, (zg_ne eh_5 (by decide) h101)⟩, ⟨_, (zg_ne eh_5 (by decide) h102)⟩, ⟨_, (zg_ne eh_5 (by decide) h103)⟩⟩ hpn (show K < 64 by omega) hW p1 p2 p3 (ps + 1) 0 I9 (by omega) (by omega) rfl)
              rintro r h' ⟨rfl, t, c1, p, c2, c3, c4, c5⟩
              exact ⟨t, c1, (zsm_st zsm_rf eh_5 (zMP_in (by decide) (by decide))), Or.inr ⟨K, I9, W, hK, rfl, rfl, hI, hW, rfl, p, c2, c3, c4, c5, ⟨(zg_eq eh_5 hm), (zg_ne eh_5 (by decide) h85), (zg_ne eh_5 (by decide) h86), (zg_ne eh_5 (by decide) h87), (zg_ne eh_5 (by decide) h88), (zg_ne eh_5 (by decide) h89), (zg_ne eh_5 (by decide) h90), (zg_ne eh_5 (by decide) h91), (zg_ne eh_5 (by decide) h92), (zg_ne eh_5 (by decide) h93), ⟨_, (zg_ne eh_5 (by decide) h94)⟩, (zg_ne eh_5 (by decide) h95), (zg_ne eh_5 (by decide) h96), (zg_ne eh_5 (by decide) h97), (zg_ne eh_5 (by decide) h98), (zg_ne eh_5 (by decide) h99), ⟨_, (zg_ne eh_5 (by decide) h100)⟩, ⟨_, (zg_ne eh_5 (by decide) h101)⟩, ⟨_, (zg_ne eh_5 (by decide) h102)⟩, ⟨_, (zg_ne eh_5 (by decide) h103)⟩⟩⟩⟩
            · exact absurd (show (0 : Int32) ≤ 0 by decide) q_t
