set_option maxRecDepth 20000 in
set_option maxHeartbeats 2000000 in
theorem p_find {G : zG} {h : zH} {th : Int32} {jn dr pn bl tn : Nat} {ms ml mo mT mp pt po pa pw bs bf tk tB tY : Nat → Int32} (hA : rAll h th jn dr pn bl tn ms ml mo mT mp pt po pa pw bs bf tk tB tY) (hbl : bl ≤ 64) {s : Int32} : PW G M_Md_find (zroom 0 0 0) false (fun r h' => ∃ t : Int32, r = .inl (some (.int t)) ∧ zsm zMP h h' ∧ rFi bs bl s t ∧ rAll h' 0 jn dr pn bl tn ms ml mo mT mp pt po pa pw bs bf tk tB tY) 0 (zentry 3 [.ref 84, .int s]) [] h 0 0 := by
  obtain ⟨hm, h85, h86, h87, h88, h89, h90, h91, h92, h93, ⟨w94, h94⟩, h95, h96, h97, h98, h99, ⟨w100, h100⟩, ⟨w101, h101⟩, ⟨w102, h102⟩, ⟨w103, h103⟩⟩ := hA
  refine pw_mono ?_ (c_find hm h95 hbl)
  rintro r h' ⟨t, e1, e2, e3, e4⟩
  exact ⟨t, e1, zsm_mp e3 (by decide), e4, ⟨e2, zsm_at e3 (by decide) h85, zsm_at e3 (by decide) h86, zsm_at e3 (by decide) h87, zsm_at e3 (by decide) h88, zsm_at e3 (by decide) h89, zsm_at e3 (by decide) h90, zsm_at e3 (by decide) h91, zsm_at e3 (by decide) h92, zsm_at e3 (by decide) h93, ⟨_, zsm_at e3 (by decide) h94⟩, zsm_at e3 (by decide) h95, zsm_at e3 (by decide) h96, zsm_at e3 (by decide) h97, zsm_at e3 (by decide) h98, zsm_at e3 (by decide) h99, ⟨_, zsm_at e3 (by decide) h100⟩, ⟨_, zsm_at e3 (by decide) h101⟩, ⟨_, zsm_at e3 (by decide) h102⟩, ⟨_, zsm_at e3 (by decide) h103⟩⟩⟩
set_option maxRecDepth 20000 in
set_option maxHeartbeats 2000000 in
theorem p_beside {G : zG} {h : zH} {th : Int32} {jn dr pn bl tn : Nat} {ms ml mo mT mp pt po pa pw bs bf tk tB tY : Nat → Int32} (hA : rAll h th jn dr pn bl tn ms ml mo mT mp pt po pa pw bs bf tk tB tY) {k j : Int32} (hbl : bl ≤ 64) (hjn : jn ≤ 6) : PW G M_Md_beside (zroom 2 0 0) false (fun r h' => ∃ t : Int32, r = .inl (some (.int t)) ∧ zsm zMP h h' ∧ ((¬ ((∃ K, K < bl ∧ k = nI K) ∧ ∃ J, J < jn ∧ j = nI J) ∧ rAll h' 1 jn dr pn bl tn ms ml mo mT mp pt po pa pw bs bf tk tB tY) ∨ (∃ K J, K < bl ∧ k = nI K ∧ J < jn ∧ j = nI J ∧ (((bf K >>> (nI J &&& 31)) &&& 1 = 1 ∧ rFi bs bl (bs K ^^^ (1 <<< ((nI J) &&& 31))) t) ∨ (¬ (bf K >>> (nI J &&& 31)) &&& 1 = 1 ∧ t = -1)) ∧ rAll h' 0 jn dr pn bl tn ms ml mo mT mp pt po pa pw bs bf tk tB tY))) 0 (zentry 3 [.ref 84, .int (k), .int (j)]) [] h 0 0 := by
  show PW G M_Md_beside (zroom 2 0 0) false _ 0 [some (.ref 84), some (.int (k)), some (.int (j))] [] h 0 0
  obtain ⟨hm, h85, h86, h87, h88, h89, h90, h91, h92, h93, ⟨w94, h94⟩, h95, h96, h97, h98, h99, ⟨w100, h100⟩, ⟨w101, h101⟩, ⟨w102, h102⟩, ⟨w103, h103⟩⟩ := hA
  refine pw_aload_n d_Md_beside_0 rfl rfl ?_
  refine pw_aload_n d_Md_beside_1 rfl rfl ?_
  refine pw_iload_n d_Md_beside_2 rfl rfl ?_
  refine pw_callV1 (R' := (zroom 1 0 0)) (h2 := h) [.int (k)] (fun q => nomatch q) d_Md_beside_3 lk_Md_152 hm rfl rfl rfl (c_isBlock hm) ?_
  refine pw_if_eq 27 d_Md_beside_6 (by decide) (fun q_i => ?_) (fun q_i => ?_)
  · refine pw_iconst (x := 1) d_Md_beside_27 (by decide) ?_
    obtain ⟨h_1, eh_1⟩ : ∃ x_9, x_9 = List.set h (84) (.inr (6, [.int (1), .ref 85, .int (nI jn), .ref 86, .ref 87, .int (nI dr), .ref 88, .ref 89, .int (nI pn), .ref 90, .ref 91, .ref 92, .ref 93, .ref 94, .int (nI bl), .ref 95, .ref 96, .ref 97, .int (nI tn), .ref 98, .ref 99, .ref 100, .ref 101, .ref 102, .ref 103])) := ⟨_, rfl⟩
    refine pw_put rfl d_Md_beside_28 (fp_Md_75 _ _) hm (Nat.le_of_ble_eq_true rfl) (fun _ => ⟨rfl, rfl⟩) eh_1.symm ?_
    refine pw_aload_n d_Md_beside_31 rfl rfl ?_
    refine pw_get d_Md_beside_32 fl_Md_75 (zg_eq eh_1 hm) rfl ?_
    refine pw_if_le 40 d_Md_beside_35 (by decide) (fun q_t => ?_) (fun q_t => ?_)
    · exact absurd q_t (by decide)
    · refine pw_iconst (x := 0) d_Md_beside_38 (by decide) ?_
      refine pw_ireturn d_Md_beside_39 rfl (by decide) (by decide) ?_
      exact ⟨_, rfl, (zsm_st zsm_rf eh_1 (zMP_in (by decide) (by decide))), Or.inl ⟨fun z => z0 q_i ((zrg hbl).mpr z.1), ⟨(zg_eq eh_1 hm), (zg_ne eh_1 (by decide) h85), (zg_ne eh_1 (by decide) h86), (zg_ne eh_1 (by decide) h87), (zg_ne eh_1 (by decide) h88), (zg_ne eh_1 (by decide) h89), (zg_ne eh_1 (by decide) h90), (zg_ne eh_1 (by decide) h91), (zg_ne eh_1 (by decide) h92), (zg_ne eh_1 (by decide) h93), ⟨_, (zg_ne eh_1 (by decide) h94)⟩, (zg_ne eh_1 (by decide) h95), (zg_ne eh_1 (by decide) h96), (zg_ne eh_1 (by decide) h97), (zg_ne eh_1 (by decide) h98), (zg_ne eh_1 (by decide) h99), ⟨_, (zg_ne eh_1 (by decide) h100)⟩, ⟨_, (zg_ne eh_1 (by decide) h101)⟩, ⟨_, (zg_ne eh_1 (by decide) h102)⟩, ⟨_, (zg_ne eh_1 (by decide) h103)⟩⟩⟩⟩
  · refine pw_iload_n d_Md_beside_9 rfl rfl ?_
    refine pw_iconst (x := 0) d_Md_beside_10 (by decide) ?_
    refine pw_aload_n d_Md_beside_11 rfl rfl ?_
    refine pw_get d_Md_beside_12 fl_Md_83 hm rfl ?_
    refine pw_iconst (x := 1) d_Md_beside_15 (by decide) ?_
    refine pw_isub d_Md_beside_16 ?_
    refine pw_callS1 (R' := (zroom 0 0 0)) (h2 := h) [.int (j), .int (0), .int ((nI jn - 1))] (fun q => nomatch q) d_Md_beside_17 lk_Md_131 rfl rfl c_in ?_
    refine pw_if_eq 27 d_Md_beside_20 (by decide) (fun q_j => ?_) (fun q_j => ?_)
    · refine pw_iconst (x := 1) d_Md_beside_27 (by decide) ?_
      obtain ⟨h_2, eh_2⟩ : ∃ x_9, x_9 = List.set h (84) (.inr (6, [.int (1), .ref 85, .int (nI jn), .ref 86, .ref 87, .int (nI dr), .ref 88, .ref 89, .int (nI pn), .ref 90, .ref 91, .ref 92, .ref 93, .ref 94, .int (nI bl), .ref 95, .ref 96, .ref 97, .int (nI tn), .ref 98, .ref 99, .ref 100, .ref 101, .ref 102, .ref 103])) := ⟨_, rfl⟩
      refine pw_put rfl d_Md_beside_28 (fp_Md_75 _ _) hm (Nat.le_of_ble_eq_true rfl) (fun _ => ⟨rfl, rfl⟩) eh_2.symm ?_
      refine pw_aload_n d_Md_beside_31 rfl rfl ?_
      refine pw_get d_Md_beside_32 fl_Md_75 (zg_eq eh_2 hm) rfl ?_
      refine pw_if_le 40 d_Md_beside_35 (by decide) (fun q_t => ?_) (fun q_t => ?_)
      · exact absurd q_t (by decide)
      · refine pw_iconst (x := 0) d_Md_beside_38 (by decide) ?_
        refine pw_ireturn d_Md_beside_39 rfl (by decide) (by decide) ?_
        exact ⟨_, rfl, (zsm_st zsm_rf eh_2 (zMP_in (by decide) (by decide))), Or.inl ⟨fun z => z0 q_j ((zrg (by omega)).mpr z.2), ⟨(zg_eq eh_2 hm), (zg_ne eh_2 (by decide) h85), (zg_ne eh_2 (by decide) h86), (zg_ne eh_2 (by decide) h87), (zg_ne eh_2 (by decide) h88), (zg_ne eh_2 (by decide) h89), (zg_ne eh_2 (by decide) h90), (zg_ne eh_2 (by decide) h91), (zg_ne eh_2 (by decide) h92), (zg_ne eh_2 (by decide) h93), ⟨_, (zg_ne eh_2 (by decide) h94)⟩, (zg_ne eh_2 (by decide) h95), (zg_ne eh_2 (by decide) h96), (zg_ne eh_2 (by decide) h97), (zg_ne eh_2 (by decide) h98), (zg_ne eh_2 (by decide) h99), ⟨_, (zg_ne eh_2 (by decide) h100)⟩, ⟨_, (zg_ne eh_2 (by decide) h101)⟩, ⟨_, (zg_ne eh_2 (by decide) h102)⟩, ⟨_, (zg_ne eh_2 (by decide) h103)⟩⟩⟩⟩
    · refine pw_iconst (x := 0) d_Md_beside_23 (by decide) ?_
      refine pw_goto 28 d_Md_beside_24 (by decide) ?_
      obtain ⟨h_3, eh_3⟩ : ∃ x_9, x_9 = List.set h (84) (.inr (6, [.int (0), .ref 85, .int (nI jn), .ref 86, .ref 87, .int (nI dr), .ref 88, .ref 89, .int (nI pn), .ref 90, .ref 91, .ref 92, .ref 93, .ref 94, .int (nI bl), .ref 95, .ref 96, .ref 97, .int (nI tn), .ref 98, .ref 99, .ref 100, .ref 101, .ref 102, .ref 103])) := ⟨_, rfl⟩
      refine pw_put rfl d_Md_beside_28 (fp_Md_75 _ _) hm (Nat.le_of_ble_eq_true rfl) (fun _ => ⟨rfl, rfl⟩) eh_3.symm ?_
      refine pw_aload_n d_Md_beside_31 rfl rfl ?_
      refine pw_get d_Md_beside_32 fl_Md_75 (zg_eq eh_3 hm) rfl ?_
      refine pw_if_le 40 d_Md_beside_35 (by decide) (fun q_t => ?_) (fun q_t => ?_)
      · obtain ⟨K, hK, rfl⟩ := (zrg hbl).mp (z1 q_i)
        obtain ⟨J, hJ, rfl⟩ := (zrg (by omega)).mp (z1 q_j)
        refine pw_aload_n d_Md_beside_40 rfl rfl ?_
        refine pw_iload_n d_Md_beside_41 rfl rfl ?_
        refine pw_iload_n d_Md_beside_42 rfl rfl ?_
        refine pw_callV1 (R' := (zroom 0 0 0)) (h2 := h_3) [.int (nI K), .int (nI J)] (fun q => nomatch q) d_Md_beside_43 lk_Md_161 (zg_eq eh_3 hm) rfl rfl rfl (c_isFace (zg_eq eh_3 hm) (zg_ne eh_3 (by decide) h96) (show K < 64 by omega)) ?_
        refine pw_if_eq 66 d_Md_beside_46 (by decide) (fun q_f => ?_) (fun q_f => ?_)
        · refine pw_iconst (x := (-1)) d_Md_beside_66 (by decide) ?_
          refine pw_ireturn d_Md_beside_67 rfl (by decide) (by decide) ?_
          exact ⟨_, rfl, (zsm_st zsm_rf eh_3 (zMP_in (by decide) (by decide))), Or.inr ⟨K, J, hK, rfl, hJ, rfl, Or.inr ⟨z0 q_f, rfl⟩, ⟨(zg_eq eh_3 hm), (zg_ne eh_3 (by decide) h85), (zg_ne eh_3 (by decide) h86), (zg_ne eh_3 (by decide) h87), (zg_ne eh_3 (by decide) h88), (zg_ne eh_3 (by decide) h89), (zg_ne eh_3 (by decide) h90), (zg_ne eh_3 (by decide) h91), (zg_ne eh_3 (by decide) h92), (zg_ne eh_3 (by decide) h93), ⟨_, (zg_ne eh_3 (by decide) h94)⟩, (zg_ne eh_3 (by decide) h95), (zg_ne eh_3 (by decide) h96), (zg_ne eh_3 (by decide) h97), (zg_ne eh_3 (by decide) h98), (zg_ne eh_3 (by decide) h99), ⟨_, (zg_ne eh_3 (by decide) h100)⟩, ⟨_, (zg_ne eh_3 (by decide) h101)⟩, ⟨_, (zg_ne eh_3 (by decide) h102)⟩, ⟨_, (zg_ne eh_3 (by decide) h103)⟩⟩⟩⟩
        · refine pw_aload_n d_Md_beside_49 rfl rfl ?_
          refine pw_aload_n d_Md_beside_50 rfl rfl ?_
          refine pw_get d_Md_beside_51 fl_Md_41 (zg_eq eh_3 hm) rfl ?_
          refine pw_iload_n d_Md_beside_54 rfl rfl ?_
          refine pw_iald d_Md_beside_55 (zg_ne eh_3 (by decide) h95) rfl rfl (by omega) (by decide) ?_
          refine pw_iconst (x := 1) d_Md_beside_56 (by decide) ?_
          refine pw_iload_n d_Md_beside_57 rfl rfl ?_
          refine pw_ishl d_Md_beside_58 ?_
          refine pw_ixor d_Md_beside_59 ?_
          refine pw_callVt (R' := (zroom 0 0 0)) [.int ((bs K ^^^ (1 <<< ((nI J) &&& 31))))] (fun q => nomatch q) d_Md_beside_60 lk_Md_164 (zg_eq eh_3 hm) rfl rfl rfl (c_find0 (zg_eq eh_3 hm) (zg_ne eh_3 (by decide) h95) hbl) (fun t ht => ?_)
          refine pw_goto 67 d_Md_beside_63 (by decide) ?_
          refine pw_ireturn d_Md_beside_67 rfl (by decide) (by decide) ?_
          exact ⟨_, rfl, (zsm_st zsm_rf eh_3 (zMP_in (by decide) (by decide))), Or.inr ⟨K, J, hK, rfl, hJ, rfl, Or.inl ⟨z1 q_f, ht⟩, ⟨(zg_eq eh_3 hm), (zg_ne eh_3 (by decide) h85), (zg_ne eh_3 (by decide) h86), (zg_ne eh_3 (by decide) h87), (zg_ne eh_3 (by decide) h88), (zg_ne eh_3 (by decide) h89), (zg_ne eh_3 (by decide) h90), (zg_ne eh_3 (by decide) h91), (zg_ne eh_3 (by decide) h92), (zg_ne eh_3 (by decide) h93), ⟨_, (zg_ne eh_3 (by decide) h94)⟩, (zg_ne eh_3 (by decide) h95), (zg_ne eh_3 (by decide) h96), (zg_ne eh_3 (by decide) h97), (zg_ne eh_3 (by decide) h98), (zg_ne eh_3 (by decide) h99), ⟨_, (zg_ne eh_3 (by decide) h100)⟩, ⟨_, (zg_ne eh_3 (by decide) h101)⟩, ⟨_, (zg_ne eh_3 (by decide) h102)⟩, ⟨_, (zg_ne eh_3 (by decide) h103)⟩⟩⟩⟩
      · exact absurd (show (0 : Int32) ≤ 0 by decide) q_t
set_option maxRecDepth 20000 in
set_option maxHeartbeats 2000000 in
theorem p_goes {G : zG} {h : zH} {th : Int32} {jn dr pn bl tn : Nat} {ms ml mo mT mp pt po pa pw bs bf tk tB tY : Nat → Int32} (hA : rAll h th jn dr pn bl tn ms ml mo mT mp pt po pa pw bs bf tk tB tY) {k j : Int32} (hdr : dr ≤ 8) (hbl : bl ≤ 64) (hfx : ∀ k, k < bl → ∀ f, f < 6 → (bf k >>> (nI f &&& 31)) &&& 1 = 1 → ∃ o, o < bl ∧ bs o = (bs k ^^^ (1 <<< ((nI f) &&& 31)))) : PW G M_Md_goes (zroom 4 0 0) false (fun r h' => ∃ t : Int32, r = .inl (some (.int t)) ∧ zsm zMP h h' ∧ ((¬ ((∃ K, K < bl ∧ k = nI K) ∧ ∃ J, J < dr ∧ j = nI J) ∧ rAll h' 1 jn dr pn bl tn ms ml mo mT mp pt po pa pw bs bf tk tB tY) ∨ (∃ K J, K < bl ∧ k = nI K ∧ J < dr ∧ j = nI J ∧ ((t = 1 ∧ (tk K = 0 ∧ rGo ml mo tk bs bf bl K (mT (3 * J)) (mT (3 * J + 1)) (mT (3 * J + 2)))) ∨ (t = 0 ∧ ¬ (tk K = 0 ∧ rGo ml mo tk bs bf bl K (mT (3 * J)) (mT (3 * J + 1)) (mT (3 * J + 2))))) ∧ rAll h' 0 jn dr pn bl tn ms ml mo mT mp pt po pa pw bs bf tk tB tY))) 0 (zentry 3 [.ref 84, .int (k), .int (j)]) [] h 0 0 := by
  show PW G M_Md_goes (zroom 4 0 0) false _ 0 [some (.ref 84), some (.int (k)), some (.int (j))] [] h 0 0
  obtain ⟨hm, h85, h86, h87, h88, h89, h90, h91, h92, h93, ⟨w94, h94⟩, h95, h96, h97, h98, h99, ⟨w100, h100⟩, ⟨w101, h101⟩, ⟨w102, h102⟩, ⟨w103, h103⟩⟩ := hA
  refine pw_aload_n d_Md_goes_0 rfl rfl ?_
  refine pw_aload_n d_Md_goes_1 rfl rfl ?_
  refine pw_iload_n d_Md_goes_2 rfl rfl ?_
  refine pw_callV1 (R' := (zroom 1 0 0)) (h2 := h) [.int (k)] (fun q => nomatch q) d_Md_goes_3 lk_Md_152 hm rfl rfl rfl (c_isBlock hm) ?_
  refine pw_if_eq 27 d_Md_goes_6 (by decide) (fun q_i => ?_) (fun q_i => ?_)
  · refine pw_iconst (x := 1) d_Md_goes_27 (by decide) ?_
    obtain ⟨h_1, eh_1⟩ : ∃ x_9, x_9 = List.set h (84) (.inr (6, [.int (1), .ref 85, .int (nI jn), .ref 86, .ref 87, .int (nI dr), .ref 88, .ref 89, .int (nI pn), .ref 90, .ref 91, .ref 92, .ref 93, .ref 94, .int (nI bl), .ref 95, .ref 96, .ref 97, .int (nI tn), .ref 98, .ref 99, .ref 100, .ref 101, .ref 102, .ref 103])) := ⟨_, rfl⟩
    refine pw_put rfl d_Md_goes_28 (fp_Md_75 _ _) hm (Nat.le_of_ble_eq_true rfl) (fun _ => ⟨rfl, rfl⟩) eh_1.symm ?_
    refine pw_aload_n d_Md_goes_31 rfl rfl ?_
    refine pw_get d_Md_goes_32 fl_Md_75 (zg_eq eh_1 hm) rfl ?_
    refine pw_if_ne 51 d_Md_goes_35 (by decide) (fun q_t => ?_) (fun q_t => ?_)
    · refine pw_iconst (x := 0) d_Md_goes_51 (by decide) ?_
      refine pw_zreturn d_Md_goes_52 rfl (by decide) (by decide) (by decide) ?_
      exact ⟨_, rfl, (zsm_st zsm_rf eh_1 (zMP_in (by decide) (by decide))), Or.inl ⟨fun z => z0 q_i ((zrg hbl).mpr z.1), ⟨(zg_eq eh_1 hm), (zg_ne eh_1 (by decide) h85), (zg_ne eh_1 (by decide) h86), (zg_ne eh_1 (by decide) h87), (zg_ne eh_1 (by decide) h88), (zg_ne eh_1 (by decide) h89), (zg_ne eh_1 (by decide) h90), (zg_ne eh_1 (by decide) h91), (zg_ne eh_1 (by decide) h92), (zg_ne eh_1 (by decide) h93), ⟨_, (zg_ne eh_1 (by decide) h94)⟩, (zg_ne eh_1 (by decide) h95), (zg_ne eh_1 (by decide) h96), (zg_ne eh_1 (by decide) h97), (zg_ne eh_1 (by decide) h98), (zg_ne eh_1 (by decide) h99), ⟨_, (zg_ne eh_1 (by decide) h100)⟩, ⟨_, (zg_ne eh_1 (by decide) h101)⟩, ⟨_, (zg_ne eh_1 (by decide) h102)⟩, ⟨_, (zg_ne eh_1 (by decide) h103)⟩⟩⟩⟩
    · exact absurd q_t (by decide)
  · refine pw_iload_n d_Md_goes_9 rfl rfl ?_
    refine pw_iconst (x := 0) d_Md_goes_10 (by decide) ?_
    refine pw_aload_n d_Md_goes_11 rfl rfl ?_
    refine pw_get d_Md_goes_12 fl_Md_146 hm rfl ?_
    refine pw_iconst (x := 1) d_Md_goes_15 (by decide) ?_
    refine pw_isub d_Md_goes_16 ?_
    refine pw_callS1 (R' := (zroom 0 0 0)) (h2 := h) [.int (j), .int (0), .int ((nI dr - 1))] (fun q => nomatch q) d_Md_goes_17 lk_Md_131 rfl rfl c_in ?_
    refine pw_if_eq 27 d_Md_goes_20 (by decide) (fun q_j => ?_) (fun q_j => ?_)
    · refine pw_iconst (x := 1) d_Md_goes_27 (by decide) ?_
      obtain ⟨h_2, eh_2⟩ : ∃ x_9, x_9 = List.set h (84) (.inr (6, [.int (1), .ref 85, .int (nI jn), .ref 86, .ref 87, .int (nI dr), .ref 88, .ref 89, .int (nI pn), .ref 90, .ref 91, .ref 92, .ref 93, .ref 94, .int (nI bl), .ref 95, .ref 96, .ref 97, .int (nI tn), .ref 98, .ref 99, .ref 100, .ref 101, .ref 102, .ref 103])) := ⟨_, rfl⟩
      refine pw_put rfl d_Md_goes_28 (fp_Md_75 _ _) hm (Nat.le_of_ble_eq_true rfl) (fun _ => ⟨rfl, rfl⟩) eh_2.symm ?_
      refine pw_aload_n d_Md_goes_31 rfl rfl ?_
      refine pw_get d_Md_goes_32 fl_Md_75 (zg_eq eh_2 hm) rfl ?_
      refine pw_if_ne 51 d_Md_goes_35 (by decide) (fun q_t => ?_) (fun q_t => ?_)
      · refine pw_iconst (x := 0) d_Md_goes_51 (by decide) ?_
        refine pw_zreturn d_Md_goes_52 rfl (by decide) (by decide) (by decide) ?_
        exact ⟨_, rfl, (zsm_st zsm_rf eh_2 (zMP_in (by decide) (by decide))), Or.inl ⟨fun z => z0 q_j ((zrg (by omega)).mpr z.2), ⟨(zg_eq eh_2 hm), (zg_ne eh_2 (by decide) h85), (zg_ne eh_2 (by decide) h86), (zg_ne eh_2 (by decide) h87), (zg_ne eh_2 (by decide) h88), (zg_ne eh_2 (by decide) h89), (zg_ne eh_2 (by decide) h90), (zg_ne eh_2 (by decide) h91), (zg_ne eh_2 (by decide) h92), (zg_ne eh_2 (by decide) h93), ⟨_, (zg_ne eh_2 (by decide) h94)⟩, (zg_ne eh_2 (by decide) h95), (zg_ne eh_2 (by decide) h96), (zg_ne eh_2 (by decide) h97), (zg_ne eh_2 (by decide) h98), (zg_ne eh_2 (by decide) h99), ⟨_, (zg_ne eh_2 (by decide) h100)⟩, ⟨_, (zg_ne eh_2 (by decide) h101)⟩, ⟨_, (zg_ne eh_2 (by decide) h102)⟩, ⟨_, (zg_ne eh_2 (by decide) h103)⟩⟩⟩⟩
      · exact absurd q_t (by decide)
    · refine pw_iconst (x := 0) d_Md_goes_23 (by decide) ?_
      refine pw_goto 28 d_Md_goes_24 (by decide) ?_
      obtain ⟨h_3, eh_3⟩ : ∃ x_9, x_9 = List.set h (84) (.inr (6, [.int (0), .ref 85, .int (nI jn), .ref 86, .ref 87, .int (nI dr), .ref 88, .ref 89, .int (nI pn), .ref 90, .ref 91, .ref 92, .ref 93, .ref 94, .int (nI bl), .ref 95, .ref 96, .ref 97, .int (nI tn), .ref 98, .ref 99, .ref 100, .ref 101, .ref 102, .ref 103])) := ⟨_, rfl⟩
      refine pw_put rfl d_Md_goes_28 (fp_Md_75 _ _) hm (Nat.le_of_ble_eq_true rfl) (fun _ => ⟨rfl, rfl⟩) eh_3.symm ?_
      refine pw_aload_n d_Md_goes_31 rfl rfl ?_
      refine pw_get d_Md_goes_32 fl_Md_75 (zg_eq eh_3 hm) rfl ?_
      refine pw_if_ne 51 d_Md_goes_35 (by decide) (fun q_t => ?_) (fun q_t => ?_)
      · refine pw_iconst (x := 0) d_Md_goes_51 (by decide) ?_
        refine pw_zreturn d_Md_goes_52 rfl (by decide) (by decide) (by decide) ?_
        exact absurd rfl q_t
      · obtain ⟨K, hK, rfl⟩ := (zrg hbl).mp (z1 q_i)
        obtain ⟨J, hJ, rfl⟩ := (zrg (by omega)).mp (z1 q_j)
        refine pw_aload_n d_Md_goes_38 rfl rfl ?_
        refine pw_iload_n d_Md_goes_39 rfl rfl ?_
        refine pw_iload_n d_Md_goes_40 rfl rfl ?_
        refine pw_callVw (R' := (zroom 3 0 0)) [.int (nI K), .int (nI J)] (fun q => nomatch q) d_Md_goes_41 lk_Md_181 (zg_eq eh_3 hm) rfl rfl rfl (c_canGoBy (zg_eq eh_3 hm) (zg_ne eh_3 (by decide) h86) (zg_ne eh_3 (by decide) h95) (zg_ne eh_3 (by decide) h96) (zg_ne eh_3 (by decide) h87) (zg_ne eh_3 (by decide) h88) (zg_ne eh_3 (by decide) h97) hbl (show K < 64 by omega) (hfx K hK) ⟨_, (zg_ne eh_3 (by decide) h102)⟩ ⟨_, (zg_ne eh_3 (by decide) h103)⟩ (show J < 8 by omega)) (fun t h9 hh => ?_)
        refine pw_if_eq 51 d_Md_goes_44 (by decide) (fun q_g => ?_) (fun q_g => ?_)
        · refine pw_iconst (x := 0) d_Md_goes_51 (by decide) ?_
          refine pw_zreturn d_Md_goes_52 rfl (by decide) (by decide) (by decide) ?_
          exact ⟨0, rfl, (zsm_tr (zsm_st zsm_rf eh_3 (zMP_in (by decide) (by decide))) hh.2.2.1 (by decide)), Or.inr ⟨K, J, hK, rfl, hJ, rfl, Or.inr ⟨rfl, (hh.2.2.2.resolve_left (fun z => absurd (z.1.symm.trans q_g) (by decide))).2⟩, ⟨(zsm_at hh.2.2.1 (by decide) (zg_eq eh_3 hm)), (zsm_at hh.2.2.1 (by decide) (zg_ne eh_3 (by decide) h85)), (zsm_at hh.2.2.1 (by decide) (zg_ne eh_3 (by decide) h86)), (zsm_at hh.2.2.1 (by decide) (zg_ne eh_3 (by decide) h87)), (zsm_at hh.2.2.1 (by decide) (zg_ne eh_3 (by decide) h88)), (zsm_at hh.2.2.1 (by decide) (zg_ne eh_3 (by decide) h89)), (zsm_at hh.2.2.1 (by decide) (zg_ne eh_3 (by decide) h90)), (zsm_at hh.2.2.1 (by decide) (zg_ne eh_3 (by decide) h91)), (zsm_at hh.2.2.1 (by decide) (zg_ne eh_3 (by decide) h92)), (zsm_at hh.2.2.1 (by decide) (zg_ne eh_3 (by decide) h93)), ⟨_, zsm_at hh.2.2.1 (by decide) (zg_ne eh_3 (by decide) h94)⟩, (zsm_at hh.2.2.1 (by decide) (zg_ne eh_3 (by decide) h95)), (zsm_at hh.2.2.1 (by decide) (zg_ne eh_3 (by decide) h96)), (zsm_at hh.2.2.1 (by decide) (zg_ne eh_3 (by decide) h97)), (zsm_at hh.2.2.1 (by decide) (zg_ne eh_3 (by decide) h98)), (zsm_at hh.2.2.1 (by decide) (zg_ne eh_3 (by decide) h99)), ⟨_, zsm_at hh.2.2.1 (by decide) (zg_ne eh_3 (by decide) h100)⟩, ⟨_, zsm_at hh.2.2.1 (by decide) (zg_ne eh_3 (by decide) h101)⟩, hh.1, hh.2.1⟩⟩⟩
        · refine pw_iconst (x := 1) d_Md_goes_47 (by decide) ?_
          refine pw_goto 52 d_Md_goes_48 (by decide) ?_
          refine pw_zreturn d_Md_goes_52 rfl (by decide) (by decide) (by decide) ?_
          exact ⟨1, rfl, (zsm_tr (zsm_st zsm_rf eh_3 (zMP_in (by decide) (by decide))) hh.2.2.1 (by decide)), Or.inr ⟨K, J, hK, rfl, hJ, rfl, Or.inl ⟨rfl, (hh.2.2.2.resolve_right (fun z => q_g z.1)).2⟩, ⟨(zsm_at hh.2.2.1 (by decide) (zg_eq eh_3 hm)), (zsm_at hh.2.2.1 (by decide) (zg_ne eh_3 (by decide) h85)), (zsm_at hh.2.2.1 (by decide) (zg_ne eh_3 (by decide) h86)), (zsm_at hh.2.2.1 (by decide) (zg_ne eh_3 (by decide) h87)), (zsm_at hh.2.2.1 (by decide) (zg_ne eh_3 (by decide) h88)), (zsm_at hh.2.2.1 (by decide) (zg_ne eh_3 (by decide) h89)), (zsm_at hh.2.2.1 (by decide) (zg_ne eh_3 (by decide) h90)), (zsm_at hh.2.2.1 (by decide) (zg_ne eh_3 (by decide) h91)), (zsm_at hh.2.2.1 (by decide) (zg_ne eh_3 (by decide) h92)), (zsm_at hh.2.2.1 (by decide) (zg_ne eh_3 (by decide) h93)), ⟨_, zsm_at hh.2.2.1 (by decide) (zg_ne eh_3 (by decide) h94)⟩, (zsm_at hh.2.2.1 (by decide) (zg_ne eh_3 (by decide) h95)), (zsm_at hh.2.2.1 (by decide) (zg_ne eh_3 (by decide) h96)), (zsm_at hh.2.2.1 (by decide) (zg_ne eh_3 (by decide) h97)), (zsm_at hh.2.2.1 (by decide) (zg_ne eh_3 (by decide) h98)), (zsm_at hh.2.2.1 (by decide) (zg_ne eh_3 (by decide) h99)), ⟨_, zsm_at hh.2.2.1 (by decide) (zg_ne eh_3 (by decide) h100)⟩, ⟨_, zsm_at hh.2.2.1 (by decide) (zg_ne eh_3 (by decide) h101)⟩, hh.1, hh.2.1⟩⟩⟩
set_option maxRecDepth 20000 in
set_option maxHeartbeats 2000000 in
theorem p_take {G : zG} {h : zH} {th : Int32} {jn dr pn bl tn : Nat} {ms ml mo mT mp pt po pa pw bs bf tk tB tY : Nat → Int32} (hA : rAll h th jn dr pn bl tn ms ml mo mT mp pt po pa pw bs bf tk tB tY) {k : Int32} (hdr : dr ≤ 8) (hbl : bl ≤ 64) (hfx : ∀ k, k < bl → ∀ f, f < 6 → (bf k >>> (nI f &&& 31)) &&& 1 = 1 → ∃ o, o < bl ∧ bs o = (bs k ^^^ (1 <<< ((nI f) &&& 31)))) (ho : zTq bl (tn, tk, tB, tY)) : PW G M_Md_take (zroom 5 0 0) false (fun r h' => ∃ t : Int32, r = .inl (some (.int t)) ∧ zsm zMP h h' ∧ ((¬ (∃ K, K < bl ∧ k = nI K) ∧ rAll h' 1 jn dr pn bl tn ms ml mo mT mp pt po pa pw bs bf tk tB tY) ∨ (∃ K, K < bl ∧ k = nI K ∧ rLd ml mo tk bs bf mT bl dr K t ∧ t = -1 ∧ rAll h' 0 jn dr pn bl tn ms ml mo mT mp pt po pa pw bs bf tk tB tY) ∨ (∃ K, K < bl ∧ k = nI K ∧ rLd ml mo tk bs bf mT bl dr K t ∧ t ≠ -1 ∧ rAll h' 0 jn dr pn bl (tn + 1) ms ml mo mT mp pt po pa pw bs bf (upd tk K 1) (upd tB tn (nI K)) (upd tY tn t)))) 0 (zentry 2 [.ref 84, .int (k)]) [] h 0 0 := by
  show PW G M_Md_take (zroom 5 0 0) false _ 0 [some (.ref 84), some (.int (k))] [] h 0 0
  obtain ⟨hm, h85, h86, h87, h88, h89, h90, h91, h92, h93, ⟨w94, h94⟩, h95, h96, h97, h98, h99, ⟨w100, h100⟩, ⟨w101, h101⟩, ⟨w102, h102⟩, ⟨w103, h103⟩⟩ := hA
  refine pw_aload_n d_Md_take_0 rfl rfl ?_
  refine pw_aload_n d_Md_take_1 rfl rfl ?_
  refine pw_iload_n d_Md_take_2 rfl rfl ?_
  refine pw_callV1 (R' := (zroom 1 0 0)) (h2 := h) [.int (k)] (fun q => nomatch q) d_Md_take_3 lk_Md_152 hm rfl rfl rfl (c_isBlock hm) ?_
  refine pw_if_eq 13 d_Md_take_6 (by decide) (fun q_i => ?_) (fun q_i => ?_)
  · refine pw_iconst (x := 1) d_Md_take_13 (by decide) ?_
    obtain ⟨h_1, eh_1⟩ : ∃ x_9, x_9 = List.set h (84) (.inr (6, [.int (1), .ref 85, .int (nI jn), .ref 86, .ref 87, .int (nI dr), .ref 88, .ref 89, .int (nI pn), .ref 90, .ref 91, .ref 92, .ref 93, .ref 94, .int (nI bl), .ref 95, .ref 96, .ref 97, .int (nI tn), .ref 98, .ref 99, .ref 100, .ref 101, .ref 102, .ref 103])) := ⟨_, rfl⟩
    refine pw_put rfl d_Md_take_14 (fp_Md_75 _ _) hm (Nat.le_of_ble_eq_true rfl) (fun _ => ⟨rfl, rfl⟩) eh_1.symm ?_
    refine pw_aload_n d_Md_take_17 rfl rfl ?_
    refine pw_get d_Md_take_18 fl_Md_75 (zg_eq eh_1 hm) rfl ?_
    refine pw_if_le 28 d_Md_take_21 (by decide) (fun q_t => ?_) (fun q_t => ?_)
    · exact absurd q_t (by decide)
    · refine pw_iconst (x := 0) d_Md_take_24 (by decide) ?_
      refine pw_goto 33 d_Md_take_25 (by decide) ?_
      refine pw_ireturn d_Md_take_33 rfl (by decide) (by decide) ?_
      exact ⟨_, rfl, (zsm_st zsm_rf eh_1 (zMP_in (by decide) (by decide))), Or.inl ⟨fun z => z0 q_i ((zrg hbl).mpr z), ⟨(zg_eq eh_1 hm), (zg_ne eh_1 (by decide) h85), (zg_ne eh_1 (by decide) h86), (zg_ne eh_1 (by decide) h87), (zg_ne eh_1 (by decide) h88), (zg_ne eh_1 (by decide) h89), (zg_ne eh_1 (by decide) h90), (zg_ne eh_1 (by decide) h91), (zg_ne eh_1 (by decide) h92), (zg_ne eh_1 (by decide) h93), ⟨_, (zg_ne eh_1 (by decide) h94)⟩, (zg_ne eh_1 (by decide) h95), (zg_ne eh_1 (by decide) h96), (zg_ne eh_1 (by decide) h97), (zg_ne eh_1 (by decide) h98), (zg_ne eh_1 (by decide) h99), ⟨_, (zg_ne eh_1 (by decide) h100)⟩, ⟨_, (zg_ne eh_1 (by decide) h101)⟩, ⟨_, (zg_ne eh_1 (by decide) h102)⟩, ⟨_, (zg_ne eh_1 (by decide) h103)⟩⟩⟩⟩
  · refine pw_iconst (x := 0) d_Md_take_9 (by decide) ?_
    refine pw_goto 14 d_Md_take_10 (by decide) ?_
    obtain ⟨h_2, eh_2⟩ : ∃ x_9, x_9 = List.set h (84) (.inr (6, [.int (0), .ref 85, .int (nI jn), .ref 86, .ref 87, .int (nI dr), .ref 88, .ref 89, .int (nI pn), .ref 90, .ref 91, .ref 92, .ref 93, .ref 94, .int (nI bl), .ref 95, .ref 96, .ref 97, .int (nI tn), .ref 98, .ref 99, .ref 100, .ref 101, .ref 102, .ref 103])) := ⟨_, rfl⟩
    refine pw_put rfl d_Md_take_14 (fp_Md_75 _ _) hm (Nat.le_of_ble_eq_true rfl) (fun _ => ⟨rfl, rfl⟩) eh_2.symm ?_
    refine pw_aload_n d_Md_take_17 rfl rfl ?_
    refine pw_get d_Md_take_18 fl_Md_75 (zg_eq eh_2 hm) rfl ?_
    refine pw_if_le 28 d_Md_take_21 (by decide) (fun q_t => ?_) (fun q_t => ?_)
    · obtain ⟨K, hK, rfl⟩ := (zrg hbl).mp (z1 q_i)
      refine pw_aload_n d_Md_take_28 rfl rfl ?_
      refine pw_iload_n d_Md_take_29 rfl rfl ?_
      refine pw_callVw (R' := (zroom 4 0 0)) [.int (nI K)] (fun q => nomatch q) d_Md_take_30 lk_Md_184 (zg_eq eh_2 hm) rfl rfl rfl (c_taking (zg_eq eh_2 hm) (zg_ne eh_2 (by decide) h86) (zg_ne eh_2 (by decide) h95) (zg_ne eh_2 (by decide) h96) (zg_ne eh_2 (by decide) h87) (zg_ne eh_2 (by decide) h88) (zg_ne eh_2 (by decide) h98) (zg_ne eh_2 (by decide) h99) (zg_ne eh_2 (by decide) h97) hbl (show K < 64 by omega) (hfx K hK) hdr (fun e => zTq_lt (T := (tn, tk, tB, tY)) hK e ho) ⟨_, (zg_ne eh_2 (by decide) h102)⟩ ⟨_, (zg_ne eh_2 (by decide) h103)⟩) (fun t h9 hh => ?_)
      refine pw_ireturn d_Md_take_33 rfl (by decide) (by decide) ?_
      obtain ⟨k1, k2, k3, k4, k5⟩ := hh
      rcases k5 with ⟨e9, j1, j2, j3, j4⟩ | ⟨e9, j1, j2, j3, j4⟩
      · exact ⟨t, rfl, (zsm_tr (zsm_st zsm_rf eh_2 (zMP_in (by decide) (by decide))) k4 (by decide)), Or.inr (Or.inl ⟨K, hK, rfl, k1, e9, ⟨j1, (zsm_at k4 (by decide) (zg_ne eh_2 (by decide) h85)), (zsm_at k4 (by decide) (zg_ne eh_2 (by decide) h86)), (zsm_at k4 (by decide) (zg_ne eh_2 (by decide) h87)), (zsm_at k4 (by decide) (zg_ne eh_2 (by decide) h88)), (zsm_at k4 (by decide) (zg_ne eh_2 (by decide) h89)), (zsm_at k4 (by decide) (zg_ne eh_2 (by decide) h90)), (zsm_at k4 (by decide) (zg_ne eh_2 (by decide) h91)), (zsm_at k4 (by decide) (zg_ne eh_2 (by decide) h92)), (zsm_at k4 (by decide) (zg_ne eh_2 (by decide) h93)), ⟨_, zsm_at k4 (by decide) (zg_ne eh_2 (by decide) h94)⟩, (zsm_at k4 (by decide) (zg_ne eh_2 (by decide) h95)), (zsm_at k4 (by decide) (zg_ne eh_2 (by decide) h96)), j2, j3, j4, ⟨_, zsm_at k4 (by decide) (zg_ne eh_2 (by decide) h100)⟩, ⟨_, zsm_at k4 (by decide) (zg_ne eh_2 (by decide) h101)⟩, k2, k3⟩⟩)⟩
      · exact ⟨t, rfl, (zsm_tr (zsm_st zsm_rf eh_2 (zMP_in (by decide) (by decide))) k4 (by decide)), Or.inr (Or.inr ⟨K, hK, rfl, k1, e9, ⟨j1, (zsm_at k4 (by decide) (zg_ne eh_2 (by decide) h85)), (zsm_at k4 (by decide) (zg_ne eh_2 (by decide) h86)), (zsm_at k4 (by decide) (zg_ne eh_2 (by decide) h87)), (zsm_at k4 (by decide) (zg_ne eh_2 (by decide) h88)), (zsm_at k4 (by decide) (zg_ne eh_2 (by decide) h89)), (zsm_at k4 (by decide) (zg_ne eh_2 (by decide) h90)), (zsm_at k4 (by decide) (zg_ne eh_2 (by decide) h91)), (zsm_at k4 (by decide) (zg_ne eh_2 (by decide) h92)), (zsm_at k4 (by decide) (zg_ne eh_2 (by decide) h93)), ⟨_, zsm_at k4 (by decide) (zg_ne eh_2 (by decide) h94)⟩, (zsm_at k4 (by decide) (zg_ne eh_2 (by decide) h95)), (zsm_at k4 (by decide) (zg_ne eh_2 (by decide) h96)), j2, j3, j4, ⟨_, zsm_at k4 (by decide) (zg_ne eh_2 (by decide) h100)⟩, ⟨_, zsm_at k4 (by decide) (zg_ne eh_2 (by decide) h101)⟩, k2, k3⟩⟩)⟩
    · exact absurd (show (0 : Int32) ≤ 0 by decide) q_t
set_option maxRecDepth 20000 in
set_option maxHeartbeats 2000000 in
theorem p_order {G : zG} {h : zH} {th : Int32} {jn dr pn bl tn : Nat} {ms ml mo mT mp pt po pa pw bs bf tk tB tY : Nat → Int32} (hA : rAll h th jn dr pn bl tn ms ml mo mT mp pt po pa pw bs bf tk tB tY) (hdr : dr ≤ 8) (hbl : bl ≤ 64) (hfx : ∀ k, k < bl → ∀ f, f < 6 → (bf k >>> (nI f &&& 31)) &&& 1 = 1 → ∃ o, o < bl ∧ bs o = (bs k ^^^ (1 <<< ((nI f) &&& 31)))) (ho : zTq bl (tn, tk, tB, tY)) : PW G M_Md_order (zroom 5 0 0) false (fun r h' => ∃ t : Int32, r = .inl (some (.int t)) ∧ zsm zMP h h' ∧ ∃ (n : Nat) (T' : zTS), t = nI n ∧ rStn ml mo bs bf mT bl dr n (tn, tk, tB, tY) T' ∧ rSt0 ml mo bs bf mT bl dr T' ∧ rAll h' 0 jn dr pn bl (T'.1) ms ml mo mT mp pt po pa pw bs bf (T'.2.1) (T'.2.2.1) (T'.2.2.2)) 0 (zentry 3 [.ref 84]) [] h 0 0 := by
  obtain ⟨hm, h85, h86, h87, h88, h89, h90, h91, h92, h93, ⟨w94, h94⟩, h95, h96, h97, h98, h99, ⟨w100, h100⟩, ⟨w101, h101⟩, ⟨w102, h102⟩, ⟨w103, h103⟩⟩ := hA
  refine pw_mono ?_ (c_morder (T0 := (tn, tk, tB, tY)) hm h86 h95 h96 h87 h88 h97 h98 h99 ⟨⟨_, h102⟩, ⟨_, h103⟩⟩ hbl hdr hfx ho)
  rintro r h' ⟨n, T', e1, e2, e3, e4, e5⟩
  exact ⟨_, e1, zsm_mp e5 (by decide), n, T', rfl, e2, e3, ⟨e4.1, zsm_at e5 (by decide) h85, zsm_at e5 (by decide) h86, zsm_at e5 (by decide) h87, zsm_at e5 (by decide) h88, zsm_at e5 (by decide) h89, zsm_at e5 (by decide) h90, zsm_at e5 (by decide) h91, zsm_at e5 (by decide) h92, zsm_at e5 (by decide) h93, ⟨_, zsm_at e5 (by decide) h94⟩, zsm_at e5 (by decide) h95, zsm_at e5 (by decide) h96, e4.2.1, e4.2.2.1, e4.2.2.2.1, ⟨_, zsm_at e5 (by decide) h100⟩, ⟨_, zsm_at e5 (by decide) h101⟩, e4.2.2.2.2.1, e4.2.2.2.2.2⟩⟩
set_option maxRecDepth 20000 in
set_option maxHeartbeats 2000000 in
theorem p_mode {G : zG} {h : zH} {th : Int32} {jn dr pn bl tn : Nat} {ms ml mo mT mp pt po pa pw bs bf tk tB tY : Nat → Int32} (hA : rAll h th jn dr pn bl tn ms ml mo mT mp pt po pa pw bs bf tk tB tY) {k : Int32} (hbl : bl ≤ 64) (hfx : ∀ k, k < bl → ∀ f, f < 6 → (bf k >>> (nI f &&& 31)) &&& 1 = 1 → ∃ o, o < bl ∧ bs o = (bs k ^^^ (1 <<< ((nI f) &&& 31)))) (htk : ∀ o, o < bl → tk o = 0 ∨ tk o = 1) : PW G M_Md_mode (zroom 4 0 0) false (fun r h' => ∃ t : Int32, r = .inl (some (.int t)) ∧ zsm zMP h h' ∧ ((¬ (∃ K, K < bl ∧ k = nI K) ∧ rAll h' 1 jn dr pn bl tn ms ml mo mT mp pt po pa pw bs bf tk tB tY) ∨ (∃ K, K < bl ∧ k = nI K ∧ tk K = 1 ∧ t = -1 ∧ rAll h' 0 jn dr pn bl tn ms ml mo mT mp pt po pa pw bs bf tk tB tY) ∨ (∃ K, K < bl ∧ k = nI K ∧ tk K = 0 ∧ rMd ml mo tk bs bf mp bl K t ∧ rAll h' 0 jn dr pn bl tn ms ml mo mT mp pt po pa pw bs bf tk tB tY))) 0 (zentry 4 [.ref 84, .int (k)]) [] h 0 0 := by
  show PW G M_Md_mode (zroom 4 0 0) false _ 0 [some (.ref 84), some (.int (k)), none, none] [] h 0 0
  obtain ⟨hm, h85, h86, h87, h88, h89, h90, h91, h92, h93, ⟨w94, h94⟩, h95, h96, h97, h98, h99, ⟨w100, h100⟩, ⟨w101, h101⟩, ⟨w102, h102⟩, ⟨w103, h103⟩⟩ := hA
  refine pw_aload_n d_Md_mode_0 rfl rfl ?_
  refine pw_aload_n d_Md_mode_1 rfl rfl ?_
  refine pw_iload_n d_Md_mode_2 rfl rfl ?_
  refine pw_callV1 (R' := (zroom 1 0 0)) (h2 := h) [.int (k)] (fun q => nomatch q) d_Md_mode_3 lk_Md_152 hm rfl rfl rfl (c_isBlock hm) ?_
  refine pw_if_eq 13 d_Md_mode_6 (by decide) (fun q_i => ?_) (fun q_i => ?_)
  · refine pw_iconst (x := 1) d_Md_mode_13 (by decide) ?_
    obtain ⟨h_1, eh_1⟩ : ∃ x_9, x_9 = List.set h (84) (.inr (6, [.int (1), .ref 85, .int (nI jn), .ref 86, .ref 87, .int (nI dr), .ref 88, .ref 89, .int (nI pn), .ref 90, .ref 91, .ref 92, .ref 93, .ref 94, .int (nI bl), .ref 95, .ref 96, .ref 97, .int (nI tn), .ref 98, .ref 99, .ref 100, .ref 101, .ref 102, .ref 103])) := ⟨_, rfl⟩
    refine pw_put rfl d_Md_mode_14 (fp_Md_75 _ _) hm (Nat.le_of_ble_eq_true rfl) (fun _ => ⟨rfl, rfl⟩) eh_1.symm ?_
    refine pw_aload_n d_Md_mode_17 rfl rfl ?_
    refine pw_get d_Md_mode_18 fl_Md_75 (zg_eq eh_1 hm) rfl ?_
    refine pw_if_le 26 d_Md_mode_21 (by decide) (fun q_t => ?_) (fun q_t => ?_)
    · exact absurd q_t (by decide)
    · refine pw_iconst (x := 0) d_Md_mode_24 (by decide) ?_
      refine pw_ireturn d_Md_mode_25 rfl (by decide) (by decide) ?_
      exact ⟨_, rfl, (zsm_st zsm_rf eh_1 (zMP_in (by decide) (by decide))), Or.inl ⟨fun z => z0 q_i ((zrg hbl).mpr z), ⟨(zg_eq eh_1 hm), (zg_ne eh_1 (by decide) h85), (zg_ne eh_1 (by decide) h86), (zg_ne eh_1 (by decide) h87), (zg_ne eh_1 (by decide) h88), (zg_ne eh_1 (by decide) h89), (zg_ne eh_1 (by decide) h90), (zg_ne eh_1 (by decide) h91), (zg_ne eh_1 (by decide) h92), (zg_ne eh_1 (by decide) h93), ⟨_, (zg_ne eh_1 (by decide) h94)⟩, (zg_ne eh_1 (by decide) h95), (zg_ne eh_1 (by decide) h96), (zg_ne eh_1 (by decide) h97), (zg_ne eh_1 (by decide) h98), (zg_ne eh_1 (by decide) h99), ⟨_, (zg_ne eh_1 (by decide) h100)⟩, ⟨_, (zg_ne eh_1 (by decide) h101)⟩, ⟨_, (zg_ne eh_1 (by decide) h102)⟩, ⟨_, (zg_ne eh_1 (by decide) h103)⟩⟩⟩⟩
  · refine pw_iconst (x := 0) d_Md_mode_9 (by decide) ?_
    refine pw_goto 14 d_Md_mode_10 (by decide) ?_
    obtain ⟨h_2, eh_2⟩ : ∃ x_9, x_9 = List.set h (84) (.inr (6, [.int (0), .ref 85, .int (nI jn), .ref 86, .ref 87, .int (nI dr), .ref 88, .ref 89, .int (nI pn), .ref 90, .ref 91, .ref 92, .ref 93, .ref 94, .int (nI bl), .ref 95, .ref 96, .ref 97, .int (nI tn), .ref 98, .ref 99, .ref 100, .ref 101, .ref 102, .ref 103])) := ⟨_, rfl⟩
    refine pw_put rfl d_Md_mode_14 (fp_Md_75 _ _) hm (Nat.le_of_ble_eq_true rfl) (fun _ => ⟨rfl, rfl⟩) eh_2.symm ?_
    refine pw_aload_n d_Md_mode_17 rfl rfl ?_
    refine pw_get d_Md_mode_18 fl_Md_75 (zg_eq eh_2 hm) rfl ?_
    refine pw_if_le 26 d_Md_mode_21 (by decide) (fun q_t => ?_) (fun q_t => ?_)
    · obtain ⟨K, hK, rfl⟩ := (zrg hbl).mp (z1 q_i)
      refine pw_aload_n d_Md_mode_26 rfl rfl ?_
      refine pw_get d_Md_mode_27 fl_Md_47 (zg_eq eh_2 hm) rfl ?_
      refine pw_iload_n d_Md_mode_30 rfl rfl ?_
      refine pw_zald d_Md_mode_31 (zg_ne eh_2 (by decide) h97) rfl rfl (by omega) (by decide) ?_
      refine pw_if_eq 37 d_Md_mode_32 (by decide) (fun q_k => ?_) (fun q_k => ?_)
      · refine pw_iconst (x := 0) d_Md_mode_37 (by decide) ?_
        refine pw_istore_n d_Md_mode_38 rfl (by decide) (pl' := [some (.ref 84), some (.int (nI K)), some (.int (0)), none]) rfl ?_
        refine pw_mono ?_ (l_mo0 (h0 := h_2) (zg_eq eh_2 hm) (zg_ne eh_2 (by decide) h86) (zg_ne eh_2 (by decide) h95) (zg_ne eh_2 (by decide) h96) (zg_ne eh_2 (by decide) h87) (zg_ne eh_2 (by decide) h89) (zg_ne eh_2 (by decide) h97) hbl (show K < 64 by omega) (hfx K hK) q_k (zg_ne eh_2 (by decide) h100) (zg_ne eh_2 (by decide) h101) (zg_ne eh_2 (by decide) h103) 4 0 _ _ (by decide) (by decide) zsm_rf (zg_ne eh_2 (by decide) h102) (fun e he => absurd he (Nat.not_lt_zero _)))
        rintro r h' ⟨t, c1, c2, c3, c4, c5, c6, c7⟩
        exact ⟨t, c1, (zsm_tr (zsm_st zsm_rf eh_2 (zMP_in (by decide) (by decide))) c6 (by decide)), Or.inr (Or.inr ⟨K, hK, rfl, q_k, c7, ⟨(zsm_at c6 (by decide) (zg_eq eh_2 hm)), (zsm_at c6 (by decide) (zg_ne eh_2 (by decide) h85)), (zsm_at c6 (by decide) (zg_ne eh_2 (by decide) h86)), (zsm_at c6 (by decide) (zg_ne eh_2 (by decide) h87)), (zsm_at c6 (by decide) (zg_ne eh_2 (by decide) h88)), (zsm_at c6 (by decide) (zg_ne eh_2 (by decide) h89)), (zsm_at c6 (by decide) (zg_ne eh_2 (by decide) h90)), (zsm_at c6 (by decide) (zg_ne eh_2 (by decide) h91)), (zsm_at c6 (by decide) (zg_ne eh_2 (by decide) h92)), (zsm_at c6 (by decide) (zg_ne eh_2 (by decide) h93)), ⟨_, zsm_at c6 (by decide) (zg_ne eh_2 (by decide) h94)⟩, (zsm_at c6 (by decide) (zg_ne eh_2 (by decide) h95)), (zsm_at c6 (by decide) (zg_ne eh_2 (by decide) h96)), (zsm_at c6 (by decide) (zg_ne eh_2 (by decide) h97)), (zsm_at c6 (by decide) (zg_ne eh_2 (by decide) h98)), (zsm_at c6 (by decide) (zg_ne eh_2 (by decide) h99)), c2, c3, c4, c5⟩⟩)⟩
      · refine pw_iconst (x := (-1)) d_Md_mode_35 (by decide) ?_
        refine pw_ireturn d_Md_mode_36 rfl (by decide) (by decide) ?_
        exact ⟨_, rfl, (zsm_st zsm_rf eh_2 (zMP_in (by decide) (by decide))), Or.inr (Or.inl ⟨K, hK, rfl, (htk K hK).resolve_left q_k, rfl, ⟨(zg_eq eh_2 hm), (zg_ne eh_2 (by decide) h85), (zg_ne eh_2 (by decide) h86), (zg_ne eh_2 (by decide) h87), (zg_ne eh_2 (by decide) h88), (zg_ne eh_2 (by decide) h89), (zg_ne eh_2 (by decide) h90), (zg_ne eh_2 (by decide) h91), (zg_ne eh_2 (by decide) h92), (zg_ne eh_2 (by decide) h93), ⟨_, (zg_ne eh_2 (by decide) h94)⟩, (zg_ne eh_2 (by decide) h95), (zg_ne eh_2 (by decide) h96), (zg_ne eh_2 (by decide) h97), (zg_ne eh_2 (by decide) h98), (zg_ne eh_2 (by decide) h99), ⟨_, (zg_ne eh_2 (by decide) h100)⟩, ⟨_, (zg_ne eh_2 (by decide) h101)⟩, ⟨_, (zg_ne eh_2 (by decide) h102)⟩, ⟨_, (zg_ne eh_2 (by decide) h103)⟩⟩⟩)⟩
    · exact absurd (show (0 : Int32) ≤ 0 by decide) q_t
