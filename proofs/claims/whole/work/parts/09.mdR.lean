set_option maxRecDepth 20000 in
set_option maxHeartbeats 2000000 in
theorem c_mslidesAlong {G : zG} {h : zH} {jn dr pn bl tn : Nat} (hm : zMo h 0 jn dr pn bl tn) {ml bs bf mo mp : Nat → Int32} (h86 : h[86]? = some (.inl (0, 48, .inl ml))) (h95 : h[95]? = some (.inl (0, 64, .inl bs))) (h96 : h[96]? = some (.inl (0, 64, .inl bf))) (h87 : h[87]? = some (.inl (1, 12, .inl mo))) (h89 : h[89]? = some (.inl (0, 3, .inl mp))) {tk : Nat → Int32} (h97 : h[97]? = some (.inl (1, 64, .inl tk))) (hbl : bl ≤ 64) {k : Nat} (hk : k < 64) (hfx : ∀ f, f < 6 → (bf k >>> (nI f &&& 31)) &&& 1 = 1 → ∃ o, o < bl ∧ bs o = (bs k ^^^ (1 <<< ((nI f) &&& 31)))) {v1 : Nat → Int32} (h100 : h[100]? = some (.inl (0, 3, .inl v1))) {v2 : Nat → Int32} (h101 : h[101]? = some (.inl (0, 3, .inl v2))) {vw : Nat → Int32} (h102 : h[102]? = some (.inl (0, 3, .inl vw))) {vo : Nat → Int32} (h103 : h[103]? = some (.inl (0, 3, .inl vo))) {f j : Nat} (h_f : f < 12) (h_j : j < 12) : PW G M_Md_slidesAlong (zroom 3 0 0) false (fun r h' => ∃ t : Int32, r = .inl (some (.int t)) ∧ (∃ v, h'[100]? = some (.inl (0, 3, .inl v))) ∧ (∃ v, h'[101]? = some (.inl (0, 3, .inl v))) ∧ (∃ v, h'[102]? = some (.inl (0, 3, .inl v))) ∧ (∃ v, h'[103]? = some (.inl (0, 3, .inl v))) ∧ zsm [100, 101, 102, 103] h h' ∧ ((t = 1 ∧ rAl ml mo tk bs bf mp bl k f j) ∨ (t = 0 ∧ ¬ rAl ml mo tk bs bf mp bl k f j))) 0 (zentry 7 [.ref 84, .int (nI k), .int (nI f), .int (nI j)]) [] h 0 0 := by
  show PW G M_Md_slidesAlong (zroom 3 0 0) false _ 0 [some (.ref 84), some (.int (nI k)), some (.int (nI f)), some (.int (nI j)), none, none, none] [] h 0 0
  refine pw_aload_n d_Md_slidesAlong_0 rfl rfl ?_
  refine pw_iload_n d_Md_slidesAlong_1 rfl rfl ?_
  refine pw_iload_n d_Md_slidesAlong_2 rfl rfl ?_
  refine pw_callVt (R' := (zroom 1 0 0)) [.int (nI k), .int (nI f)] (fun q => nomatch q) d_Md_slidesAlong_3 lk_Md_167 hm rfl rfl rfl (c_holds hm h95 h96 h87 h97 hbl hk hfx h_f) (fun t_1 ht_1 => ?_)
  refine pw_if_eq 18 d_Md_slidesAlong_6 (by decide) (fun q_f => ?_) (fun q_f => ?_)
  · refine pw_iconst (x := 0) d_Md_slidesAlong_18 (by decide) ?_
    refine pw_zreturn d_Md_slidesAlong_19 rfl (by decide) (by decide) (by decide) ?_
    exact ⟨0, rfl, ⟨_, h100⟩, ⟨_, h101⟩, ⟨_, h102⟩, ⟨_, h103⟩, zsm_rf, Or.inr ⟨rfl, fun z => by rcases ht_1 with ⟨e, -⟩ | ⟨-, h1⟩; exact absurd (e.symm.trans q_f) (by decide); exact h1 z.1⟩⟩
  · refine pw_aload_n d_Md_slidesAlong_9 rfl rfl ?_
    refine pw_iload_n d_Md_slidesAlong_10 rfl rfl ?_
    refine pw_iload_n d_Md_slidesAlong_11 rfl rfl ?_
    refine pw_callVt (R' := (zroom 1 0 0)) [.int (nI k), .int (nI j)] (fun q => nomatch q) d_Md_slidesAlong_12 lk_Md_167 hm rfl rfl rfl (c_holds hm h95 h96 h87 h97 hbl hk hfx h_j) (fun t_2 ht_2 => ?_)
    refine pw_if_ne 20 d_Md_slidesAlong_15 (by decide) (fun q_j => ?_) (fun q_j => ?_)
    · refine pw_aload_n d_Md_slidesAlong_20 rfl rfl ?_
      refine pw_iload_n d_Md_slidesAlong_21 rfl rfl ?_
      refine pw_iload_n d_Md_slidesAlong_22 rfl rfl ?_
      refine pw_aload_n d_Md_slidesAlong_23 rfl rfl ?_
      refine pw_get d_Md_slidesAlong_24 fl_Md_56 hm rfl ?_
      refine pw_callVu (R' := (zroom 0 0 0)) [.int (nI k), .int (nI f), .ref 100] (fun q => nomatch q) d_Md_slidesAlong_27 lk_Md_170 hm rfl rfl rfl (c_inward hm h86 h95 hk h_f (w := 100) (by decide) h100) (fun h_3 kh_3 => ?_)
      obtain ⟨vh_3, kh_31, kh_32, kh_33⟩ := kh_3
      refine pw_aload_n d_Md_slidesAlong_30 rfl rfl ?_
      refine pw_iload_n d_Md_slidesAlong_31 rfl rfl ?_
      refine pw_iload_n d_Md_slidesAlong_32 rfl rfl ?_
      refine pw_aload_n d_Md_slidesAlong_33 rfl rfl ?_
      refine pw_get d_Md_slidesAlong_34 fl_Md_59 (zsm_at kh_32 (by decide) hm) rfl ?_
      refine pw_callVu (R' := (zroom 0 0 0)) [.int (nI k), .int (nI j), .ref 101] (fun q => nomatch q) d_Md_slidesAlong_37 lk_Md_170 (zsm_at kh_32 (by decide) hm) rfl rfl rfl (c_inward (zsm_at kh_32 (by decide) hm) (zsm_at kh_32 (by decide) h86) (zsm_at kh_32 (by decide) h95) hk h_j (w := 101) (by decide) (zsm_at kh_32 (by decide) h101)) (fun h_4 kh_4 => ?_)
      obtain ⟨vh_4, kh_41, kh_42, kh_43⟩ := kh_4
      refine pw_aload_n d_Md_slidesAlong_40 rfl rfl ?_
      refine pw_aload_n d_Md_slidesAlong_41 rfl rfl ?_
      refine pw_get d_Md_slidesAlong_42 fl_Md_56 (zsm_at kh_42 (by decide) (zsm_at kh_32 (by decide) hm)) rfl ?_
      refine pw_aload_n d_Md_slidesAlong_45 rfl rfl ?_
      refine pw_get d_Md_slidesAlong_46 fl_Md_65 (zsm_at kh_42 (by decide) (zsm_at kh_32 (by decide) hm)) rfl ?_
      refine pw_callVu (R' := (zroom 1 0 0)) [.ref 100, .ref 103] (fun q => nomatch q) d_Md_slidesAlong_49 lk_Md_187 (zsm_at kh_42 (by decide) (zsm_at kh_32 (by decide) hm)) rfl rfl rfl (c_slide (zsm_at kh_42 (by decide) (zsm_at kh_32 (by decide) hm)) (zsm_at kh_42 (by decide) (zsm_at kh_32 (by decide) h89)) (a := 100) (b := 103) (by decide) (by decide) (by decide) (zsm_at kh_42 (by decide) kh_31) (zsm_at kh_42 (by decide) (zsm_at kh_32 (by decide) h103))) (fun h_5 kh_5 => ?_)
      obtain ⟨vh_5, kh_51, kh_52, kh_53⟩ := kh_5
      refine pw_aload_n d_Md_slidesAlong_52 rfl rfl ?_
      refine pw_get d_Md_slidesAlong_53 fl_Md_65 (zsm_at kh_52 (by decide) (zsm_at kh_42 (by decide) (zsm_at kh_32 (by decide) hm))) rfl ?_
      refine pw_aload_n d_Md_slidesAlong_56 rfl rfl ?_
      refine pw_get d_Md_slidesAlong_57 fl_Md_59 (zsm_at kh_52 (by decide) (zsm_at kh_42 (by decide) (zsm_at kh_32 (by decide) hm))) rfl ?_
      refine pw_callS1 (R' := (zroom 0 0 0)) (h2 := h_5) [.ref 103, .ref 101] (fun q => nomatch q) d_Md_slidesAlong_60 lk_Md_174 rfl rfl (c_mtimes kh_51 (zsm_at kh_52 (by decide) kh_41)) ?_
      refine pw_if_ge 70 d_Md_slidesAlong_63 (by decide) (fun q_1 => ?_) (fun q_1 => ?_)
      · refine pw_iconst (x := 0) d_Md_slidesAlong_70 (by decide) ?_
        refine pw_istore d_Md_slidesAlong_71 (by decide) (pl' := [some (.ref 84), some (.int (nI k)), some (.int (nI f)), some (.int (nI j)), some (.int (0)), none, none]) rfl ?_
        refine pw_aload_n d_Md_slidesAlong_73 rfl rfl ?_
        refine pw_aload_n d_Md_slidesAlong_74 rfl rfl ?_
        refine pw_get d_Md_slidesAlong_75 fl_Md_59 (zsm_at kh_52 (by decide) (zsm_at kh_42 (by decide) (zsm_at kh_32 (by decide) hm))) rfl ?_
        refine pw_aload_n d_Md_slidesAlong_78 rfl rfl ?_
        refine pw_get d_Md_slidesAlong_79 fl_Md_65 (zsm_at kh_52 (by decide) (zsm_at kh_42 (by decide) (zsm_at kh_32 (by decide) hm))) rfl ?_
        refine pw_callVu (R' := (zroom 1 0 0)) [.ref 101, .ref 103] (fun q => nomatch q) d_Md_slidesAlong_82 lk_Md_187 (zsm_at kh_52 (by decide) (zsm_at kh_42 (by decide) (zsm_at kh_32 (by decide) hm))) rfl rfl rfl (c_slide (zsm_at kh_52 (by decide) (zsm_at kh_42 (by decide) (zsm_at kh_32 (by decide) hm))) (zsm_at kh_52 (by decide) (zsm_at kh_42 (by decide) (zsm_at kh_32 (by decide) h89))) (a := 101) (b := 103) (by decide) (by decide) (by decide) (zsm_at kh_52 (by decide) kh_41) kh_51) (fun h_6 kh_6 => ?_)
        obtain ⟨vh_6, kh_61, kh_62, kh_63⟩ := kh_6
        refine pw_iload d_Md_slidesAlong_85 rfl ?_
        refine pw_if_eq 108 d_Md_slidesAlong_87 (by decide) (fun q_e => ?_) (fun q_e => ?_)
        · refine pw_iconst (x := 0) d_Md_slidesAlong_108 (by decide) ?_
          refine pw_istore d_Md_slidesAlong_109 (by decide) (pl' := [some (.ref 84), some (.int (nI k)), some (.int (nI f)), some (.int (nI j)), some (.int (0)), none, none]) rfl ?_
          have u0 := kh_33
          have u1 := kh_43
          have a1 : ∀ c, c < 3 → vh_5 c = rSl mp (rIn ml bs k f) c := fun c hc => (kh_53 c hc).trans (rSl_cg kh_33 hc)
          have a2 : ∀ c, c < 3 → vh_6 c = rSl mp (rIn ml bs k j) c := fun c hc => (kh_63 c hc).trans (rSl_cg kh_43 hc)
          rw [a1 0 (by decide), a1 1 (by decide), a1 2 (by decide), u1 0 (by decide), u1 1 (by decide), u1 2 (by decide)] at q_1
          have hpr : ¬ (0 : Int32) = 0 ↔ rSl mp (rIn ml bs k f) 0 * (rIn ml bs k j) 0 + rSl mp (rIn ml bs k f) 1 * (rIn ml bs k j) 1 + rSl mp (rIn ml bs k f) 2 * (rIn ml bs k j) 2 < 0 ∧ rSl mp (rIn ml bs k j) 0 * (rIn ml bs k f) 0 + rSl mp (rIn ml bs k j) 1 * (rIn ml bs k f) 1 + rSl mp (rIn ml bs k j) 2 * (rIn ml bs k f) 2 < 0 := ⟨fun z => absurd rfl z, fun z => absurd z.1 (zlt.mpr q_1)⟩
          have hf9 : rHd mo tk bs bf bl k f := by rcases ht_1 with ⟨-, h1⟩ | ⟨e, -⟩; exact h1; exact absurd e q_f
          have hj9 : rHd mo tk bs bf bl k j := by rcases ht_2 with ⟨-, h1⟩ | ⟨e, -⟩; exact h1; exact absurd e q_j
          refine pw_mono ?_ (l_al_line (zsm_at kh_62 (by decide) (zsm_at kh_52 (by decide) (zsm_at kh_42 (by decide) (zsm_at kh_32 (by decide) hm)))) (zsm_at kh_62 (by decide) (zsm_at kh_52 (by decide) (zsm_at kh_42 (by decide) (zsm_at kh_32 (by decide) h86)))) (zsm_at kh_62 (by decide) (zsm_at kh_52 (by decide) (zsm_at kh_42 (by decide) (zsm_at kh_32 (by decide) h95)))) (zsm_at kh_62 (by decide) (zsm_at kh_52 (by decide) (zsm_at kh_42 (by decide) (zsm_at kh_32 (by decide) h96)))) (zsm_at kh_62 (by decide) (zsm_at kh_52 (by decide) (zsm_at kh_42 (by decide) (zsm_at kh_32 (by decide) h87)))) (zsm_at kh_62 (by decide) (zsm_at kh_52 (by decide) (zsm_at kh_42 (by decide) (zsm_at kh_32 (by decide) h89)))) (zsm_at kh_62 (by decide) (zsm_at kh_52 (by decide) (zsm_at kh_42 (by decide) (zsm_at kh_32 (by decide) h97)))) hbl hk hfx (zsm_at kh_62 (by decide) (zsm_at kh_52 (by decide) (zsm_at kh_42 (by decide) kh_31))) (zsm_at kh_62 (by decide) (zsm_at kh_52 (by decide) kh_41)) (zsm_at kh_62 (by decide) (zsm_at kh_52 (by decide) (zsm_at kh_42 (by decide) (zsm_at kh_32 (by decide) h102)))) kh_61 u0 u1 hpr hf9 hj9)
          rintro r h' ⟨t, b1, b2, b3, b4, b5, b6, b7⟩
          exact ⟨t, b1, b2, b3, b4, b5, zsm_tr (zsm_tr (zsm_tr (zsm_tr (zsm_tr zsm_rf kh_32 (by decide)) kh_42 (by decide)) kh_52 (by decide)) kh_62 (by decide)) b6 (fun _ q => q), b7⟩
        · exact absurd rfl q_e
      · refine pw_iconst (x := 1) d_Md_slidesAlong_66 (by decide) ?_
        refine pw_goto 71 d_Md_slidesAlong_67 (by decide) ?_
        refine pw_istore d_Md_slidesAlong_71 (by decide) (pl' := [some (.ref 84), some (.int (nI k)), some (.int (nI f)), some (.int (nI j)), some (.int (1)), none, none]) rfl ?_
        refine pw_aload_n d_Md_slidesAlong_73 rfl rfl ?_
        refine pw_aload_n d_Md_slidesAlong_74 rfl rfl ?_
        refine pw_get d_Md_slidesAlong_75 fl_Md_59 (zsm_at kh_52 (by decide) (zsm_at kh_42 (by decide) (zsm_at kh_32 (by decide) hm))) rfl ?_
        refine pw_aload_n d_Md_slidesAlong_78 rfl rfl ?_
        refine pw_get d_Md_slidesAlong_79 fl_Md_65 (zsm_at kh_52 (by decide) (zsm_at kh_42 (by decide) (zsm_at kh_32 (by decide) hm))) rfl ?_
        refine pw_callVu (R' := (zroom 1 0 0)) [.ref 101, .ref 103] (fun q => nomatch q) d_Md_slidesAlong_82 lk_Md_187 (zsm_at kh_52 (by decide) (zsm_at kh_42 (by decide) (zsm_at kh_32 (by decide) hm))) rfl rfl rfl (c_slide (zsm_at kh_52 (by decide) (zsm_at kh_42 (by decide) (zsm_at kh_32 (by decide) hm))) (zsm_at kh_52 (by decide) (zsm_at kh_42 (by decide) (zsm_at kh_32 (by decide) h89))) (a := 101) (b := 103) (by decide) (by decide) (by decide) (zsm_at kh_52 (by decide) kh_41) kh_51) (fun h_7 kh_7 => ?_)
        obtain ⟨vh_7, kh_71, kh_72, kh_73⟩ := kh_7
        refine pw_iload d_Md_slidesAlong_85 rfl ?_
        refine pw_if_eq 108 d_Md_slidesAlong_87 (by decide) (fun q_e => ?_) (fun q_e => ?_)
        · refine pw_iconst (x := 0) d_Md_slidesAlong_108 (by decide) ?_
          refine pw_istore d_Md_slidesAlong_109 (by decide) (pl' := [some (.ref 84), some (.int (nI k)), some (.int (nI f)), some (.int (nI j)), some (.int (0)), none, none]) rfl ?_
          exact absurd q_e (by decide)
        · refine pw_aload_n d_Md_slidesAlong_90 rfl rfl ?_
          refine pw_get d_Md_slidesAlong_91 fl_Md_65 (zsm_at kh_72 (by decide) (zsm_at kh_52 (by decide) (zsm_at kh_42 (by decide) (zsm_at kh_32 (by decide) hm)))) rfl ?_
          refine pw_aload_n d_Md_slidesAlong_94 rfl rfl ?_
          refine pw_get d_Md_slidesAlong_95 fl_Md_56 (zsm_at kh_72 (by decide) (zsm_at kh_52 (by decide) (zsm_at kh_42 (by decide) (zsm_at kh_32 (by decide) hm)))) rfl ?_
          refine pw_callS1 (R' := (zroom 0 0 0)) (h2 := h_7) [.ref 103, .ref 100] (fun q => nomatch q) d_Md_slidesAlong_98 lk_Md_174 rfl rfl (c_mtimes kh_71 (zsm_at kh_72 (by decide) (zsm_at kh_52 (by decide) (zsm_at kh_42 (by decide) kh_31)))) ?_
          refine pw_if_ge 108 d_Md_slidesAlong_101 (by decide) (fun q_2 => ?_) (fun q_2 => ?_)
          · refine pw_iconst (x := 0) d_Md_slidesAlong_108 (by decide) ?_
            refine pw_istore d_Md_slidesAlong_109 (by decide) (pl' := [some (.ref 84), some (.int (nI k)), some (.int (nI f)), some (.int (nI j)), some (.int (0)), none, none]) rfl ?_
            have u0 := kh_33
            have u1 := kh_43
            have a1 : ∀ c, c < 3 → vh_5 c = rSl mp (rIn ml bs k f) c := fun c hc => (kh_53 c hc).trans (rSl_cg kh_33 hc)
            have a2 : ∀ c, c < 3 → vh_7 c = rSl mp (rIn ml bs k j) c := fun c hc => (kh_73 c hc).trans (rSl_cg kh_43 hc)
            rw [a1 0 (by decide), a1 1 (by decide), a1 2 (by decide), u1 0 (by decide), u1 1 (by decide), u1 2 (by decide)] at q_1
            rw [a2 0 (by decide), a2 1 (by decide), a2 2 (by decide), u0 0 (by decide), u0 1 (by decide), u0 2 (by decide)] at q_2
            have hpr : ¬ (0 : Int32) = 0 ↔ rSl mp (rIn ml bs k f) 0 * (rIn ml bs k j) 0 + rSl mp (rIn ml bs k f) 1 * (rIn ml bs k j) 1 + rSl mp (rIn ml bs k f) 2 * (rIn ml bs k j) 2 < 0 ∧ rSl mp (rIn ml bs k j) 0 * (rIn ml bs k f) 0 + rSl mp (rIn ml bs k j) 1 * (rIn ml bs k f) 1 + rSl mp (rIn ml bs k j) 2 * (rIn ml bs k f) 2 < 0 := ⟨fun z => absurd rfl z, fun z => absurd z.2 (zlt.mpr q_2)⟩
            have hf9 : rHd mo tk bs bf bl k f := by rcases ht_1 with ⟨-, h1⟩ | ⟨e, -⟩; exact h1; exact absurd e q_f
            have hj9 : rHd mo tk bs bf bl k j := by rcases ht_2 with ⟨-, h1⟩ | ⟨e, -⟩; exact h1; exact absurd e q_j
            refine pw_mono ?_ (l_al_line (zsm_at kh_72 (by decide) (zsm_at kh_52 (by decide) (zsm_at kh_42 (by decide) (zsm_at kh_32 (by decide) hm)))) (zsm_at kh_72 (by decide) (zsm_at kh_52 (by decide) (zsm_at kh_42 (by decide) (zsm_at kh_32 (by decide) h86)))) (zsm_at kh_72 (by decide) (zsm_at kh_52 (by decide) (zsm_at kh_42 (by decide) (zsm_at kh_32 (by decide) h95)))) (zsm_at kh_72 (by decide) (zsm_at kh_52 (by decide) (zsm_at kh_42 (by decide) (zsm_at kh_32 (by decide) h96)))) (zsm_at kh_72 (by decide) (zsm_at kh_52 (by decide) (zsm_at kh_42 (by decide) (zsm_at kh_32 (by decide) h87)))) (zsm_at kh_72 (by decide) (zsm_at kh_52 (by decide) (zsm_at kh_42 (by decide) (zsm_at kh_32 (by decide) h89)))) (zsm_at kh_72 (by decide) (zsm_at kh_52 (by decide) (zsm_at kh_42 (by decide) (zsm_at kh_32 (by decide) h97)))) hbl hk hfx (zsm_at kh_72 (by decide) (zsm_at kh_52 (by decide) (zsm_at kh_42 (by decide) kh_31))) (zsm_at kh_72 (by decide) (zsm_at kh_52 (by decide) kh_41)) (zsm_at kh_72 (by decide) (zsm_at kh_52 (by decide) (zsm_at kh_42 (by decide) (zsm_at kh_32 (by decide) h102)))) kh_71 u0 u1 hpr hf9 hj9)
            rintro r h' ⟨t, b1, b2, b3, b4, b5, b6, b7⟩
            exact ⟨t, b1, b2, b3, b4, b5, zsm_tr (zsm_tr (zsm_tr (zsm_tr (zsm_tr zsm_rf kh_32 (by decide)) kh_42 (by decide)) kh_52 (by decide)) kh_72 (by decide)) b6 (fun _ q => q), b7⟩
          · refine pw_iconst (x := 1) d_Md_slidesAlong_104 (by decide) ?_
            refine pw_goto 109 d_Md_slidesAlong_105 (by decide) ?_
            refine pw_istore d_Md_slidesAlong_109 (by decide) (pl' := [some (.ref 84), some (.int (nI k)), some (.int (nI f)), some (.int (nI j)), some (.int (1)), none, none]) rfl ?_
            have u0 := kh_33
            have u1 := kh_43
            have a1 : ∀ c, c < 3 → vh_5 c = rSl mp (rIn ml bs k f) c := fun c hc => (kh_53 c hc).trans (rSl_cg kh_33 hc)
            have a2 : ∀ c, c < 3 → vh_7 c = rSl mp (rIn ml bs k j) c := fun c hc => (kh_73 c hc).trans (rSl_cg kh_43 hc)
            rw [a1 0 (by decide), a1 1 (by decide), a1 2 (by decide), u1 0 (by decide), u1 1 (by decide), u1 2 (by decide)] at q_1
            rw [a2 0 (by decide), a2 1 (by decide), a2 2 (by decide), u0 0 (by decide), u0 1 (by decide), u0 2 (by decide)] at q_2
            have hpr : ¬ (1 : Int32) = 0 ↔ rSl mp (rIn ml bs k f) 0 * (rIn ml bs k j) 0 + rSl mp (rIn ml bs k f) 1 * (rIn ml bs k j) 1 + rSl mp (rIn ml bs k f) 2 * (rIn ml bs k j) 2 < 0 ∧ rSl mp (rIn ml bs k j) 0 * (rIn ml bs k f) 0 + rSl mp (rIn ml bs k j) 1 * (rIn ml bs k f) 1 + rSl mp (rIn ml bs k j) 2 * (rIn ml bs k f) 2 < 0 := ⟨fun _ => ⟨zle.mp q_1, zle.mp q_2⟩, fun _ => by decide⟩
            have hf9 : rHd mo tk bs bf bl k f := by rcases ht_1 with ⟨-, h1⟩ | ⟨e, -⟩; exact h1; exact absurd e q_f
            have hj9 : rHd mo tk bs bf bl k j := by rcases ht_2 with ⟨-, h1⟩ | ⟨e, -⟩; exact h1; exact absurd e q_j
            refine pw_mono ?_ (l_al_line (zsm_at kh_72 (by decide) (zsm_at kh_52 (by decide) (zsm_at kh_42 (by decide) (zsm_at kh_32 (by decide) hm)))) (zsm_at kh_72 (by decide) (zsm_at kh_52 (by decide) (zsm_at kh_42 (by decide) (zsm_at kh_32 (by decide) h86)))) (zsm_at kh_72 (by decide) (zsm_at kh_52 (by decide) (zsm_at kh_42 (by decide) (zsm_at kh_32 (by decide) h95)))) (zsm_at kh_72 (by decide) (zsm_at kh_52 (by decide) (zsm_at kh_42 (by decide) (zsm_at kh_32 (by decide) h96)))) (zsm_at kh_72 (by decide) (zsm_at kh_52 (by decide) (zsm_at kh_42 (by decide) (zsm_at kh_32 (by decide) h87)))) (zsm_at kh_72 (by decide) (zsm_at kh_52 (by decide) (zsm_at kh_42 (by decide) (zsm_at kh_32 (by decide) h89)))) (zsm_at kh_72 (by decide) (zsm_at kh_52 (by decide) (zsm_at kh_42 (by decide) (zsm_at kh_32 (by decide) h97)))) hbl hk hfx (zsm_at kh_72 (by decide) (zsm_at kh_52 (by decide) (zsm_at kh_42 (by decide) kh_31))) (zsm_at kh_72 (by decide) (zsm_at kh_52 (by decide) kh_41)) (zsm_at kh_72 (by decide) (zsm_at kh_52 (by decide) (zsm_at kh_42 (by decide) (zsm_at kh_32 (by decide) h102)))) kh_71 u0 u1 hpr hf9 hj9)
            rintro r h' ⟨t, b1, b2, b3, b4, b5, b6, b7⟩
            exact ⟨t, b1, b2, b3, b4, b5, zsm_tr (zsm_tr (zsm_tr (zsm_tr (zsm_tr zsm_rf kh_32 (by decide)) kh_42 (by decide)) kh_52 (by decide)) kh_72 (by decide)) b6 (fun _ q => q), b7⟩
    · refine pw_iconst (x := 0) d_Md_slidesAlong_18 (by decide) ?_
      refine pw_zreturn d_Md_slidesAlong_19 rfl (by decide) (by decide) (by decide) ?_
      exact ⟨0, rfl, ⟨_, h100⟩, ⟨_, h101⟩, ⟨_, h102⟩, ⟨_, h103⟩, zsm_rf, Or.inr ⟨rfl, fun z => by rcases ht_2 with ⟨e, -⟩ | ⟨-, h1⟩; exact absurd (e.symm.trans q_j) (by decide); exact h1 z.2.1⟩⟩
/-- how block k moves when it is pulled, if it isn't taken -/
def rMd (ml mo tk bs bf mp : Nat → Int32) (bl k : Nat) (t : Int32) : Prop := (t = 1 ∧ rGo ml mo tk bs bf bl k (mp 0) (mp 1) (mp 2)) ∨ (¬ rGo ml mo tk bs bf bl k (mp 0) (mp 1) (mp 2) ∧ ((∃ i, i < 12 ∧ t = 10 + nI i ∧ rOn ml mo tk bs bf mp bl k i ∧ ∀ j, j < i → ¬ rOn ml mo tk bs bf mp bl k j) ∨ ((∀ i, i < 12 → ¬ rOn ml mo tk bs bf mp bl k i) ∧ ((∃ f j, f < j ∧ j < 12 ∧ t = 100 + 12 * nI f + nI j ∧ rAl ml mo tk bs bf mp bl k f j ∧ ∀ e i, e < i → i < 12 → (e < f ∨ (e = f ∧ i < j)) → ¬ rAl ml mo tk bs bf mp bl k e i) ∨ (t = 0 ∧ ∀ f j, f < j → j < 12 → ¬ rAl ml mo tk bs bf mp bl k f j)))))
set_option maxRecDepth 20000 in
set_option maxHeartbeats 2000000 in
theorem l_mo3 {G : zG} {h0 : zH} {jn dr pn bl tn : Nat} (hm0 : zMo h0 0 jn dr pn bl tn) {ml bs bf mo mp : Nat → Int32} (h860 : h0[86]? = some (.inl (0, 48, .inl ml))) (h950 : h0[95]? = some (.inl (0, 64, .inl bs))) (h960 : h0[96]? = some (.inl (0, 64, .inl bf))) (h870 : h0[87]? = some (.inl (1, 12, .inl mo))) (h890 : h0[89]? = some (.inl (0, 3, .inl mp))) {tk : Nat → Int32} (h970 : h0[97]? = some (.inl (1, 64, .inl tk))) (hbl : bl ≤ 64) {k : Nat} (hk : k < 64) (hfx : ∀ f, f < 6 → (bf k >>> (nI f &&& 31)) &&& 1 = 1 → ∃ o, o < bl ∧ bs o = (bs k ^^^ (1 <<< ((nI f) &&& 31)))) (ht0 : tk k = 0) (hng : ¬ rGo ml mo tk bs bf bl k (mp 0) (mp 1) (mp 2)) (hno : ∀ i, i < 12 → ¬ rOn ml mo tk bs bf mp bl k i) {f : Nat} (hf : f < 12) (K : ∀ h, ((∃ v, h[100]? = some (.inl (0, 3, .inl v))) ∧ (∃ v, h[101]? = some (.inl (0, 3, .inl v))) ∧ (∃ v, h[102]? = some (.inl (0, 3, .inl v))) ∧ (∃ v, h[103]? = some (.inl (0, 3, .inl v)))) → zsm [100, 101, 102, 103] h0 h → (∀ e i, e < i → i < 12 → (e < f ∨ (e = f ∧ i < 12)) → ¬ rAl ml mo tk bs bf mp bl k e i) → PW G M_Md_mode (zroom 4 0 0) false (fun r h' => ∃ t : Int32, r = .inl (some (.int t)) ∧ (∃ v, h'[100]? = some (.inl (0, 3, .inl v))) ∧ (∃ v, h'[101]? = some (.inl (0, 3, .inl v))) ∧ (∃ v, h'[102]? = some (.inl (0, 3, .inl v))) ∧ (∃ v, h'[103]? = some (.inl (0, 3, .inl v))) ∧ zsm [100, 101, 102, 103] h0 h' ∧ rMd ml mo tk bs bf mp bl k t) 144 [some (.ref 84), some (.int (nI k)), some (.int (nI f)), some (.int (nI 12))] [] h 0 0) : ∀ (n j : Nat) (h : zH), 12 - j < n → j ≤ 12 → f < j → ((∃ v, h[100]? = some (.inl (0, 3, .inl v))) ∧ (∃ v, h[101]? = some (.inl (0, 3, .inl v))) ∧ (∃ v, h[102]? = some (.inl (0, 3, .inl v))) ∧ (∃ v, h[103]? = some (.inl (0, 3, .inl v)))) → zsm [100, 101, 102, 103] h0 h → (∀ e i, e < i → i < 12 → (e < f ∨ (e = f ∧ i < j)) → ¬ rAl ml mo tk bs bf mp bl k e i) → PW G M_Md_mode (zroom 4 0 0) false (fun r h' => ∃ t : Int32, r = .inl (some (.int t)) ∧ (∃ v, h'[100]? = some (.inl (0, 3, .inl v))) ∧ (∃ v, h'[101]? = some (.inl (0, 3, .inl v))) ∧ (∃ v, h'[102]? = some (.inl (0, 3, .inl v))) ∧ (∃ v, h'[103]? = some (.inl (0, 3, .inl v))) ∧ zsm [100, 101, 102, 103] h0 h' ∧ rMd ml mo tk bs bf mp bl k t) 112 [some (.ref 84), some (.int (nI k)), some (.int (nI f)), some (.int (nI j))] [] h 0 0 := by
  intro n
  induction n with
  | zero => intro j h hn; exact absurd hn (Nat.not_lt_zero _)
  | succ n ih =>
    intro j h hn hi hfj hsc hz hv
    have h86 := zsm_at hz (by decide) h860
    have h95 := zsm_at hz (by decide) h950
    have h96 := zsm_at hz (by decide) h960
    have h87 := zsm_at hz (by decide) h870
    have h89 := zsm_at hz (by decide) h890
    have h97 := zsm_at hz (by decide) h970
    have hm := zsm_at hz (by decide) hm0
    obtain ⟨⟨v1, h100⟩, ⟨v2, h101⟩, ⟨vw, h102⟩, ⟨vo, h103⟩⟩ := hsc
    refine pw_iload_n d_Md_mode_112 rfl rfl ?_
    refine pw_bipush (x := 12) d_Md_mode_113 (by decide) ?_
    refine pw_icmp_ge 144 d_Md_mode_115 (by decide) (fun q_c => ?_) (fun q_c => ?_)
    · have hjc : j = 12 := by have := (nI_leI (a := 12) (b := j) (by decide) (by omega)).mp q_c; omega
      subst hjc
      exact K h ⟨⟨_, h100⟩, ⟨_, h101⟩, ⟨_, h102⟩, ⟨_, h103⟩⟩ hz hv
    · have hjc : j < 12 := by have := mt (nI_leI (a := 12) (b := j) (by decide) (by omega)).mpr q_c; omega
      refine pw_aload_n d_Md_mode_118 rfl rfl ?_
      refine pw_iload_n d_Md_mode_119 rfl rfl ?_
      refine pw_iload_n d_Md_mode_120 rfl rfl ?_
      refine pw_iload_n d_Md_mode_121 rfl rfl ?_
      refine pw_callVw (R' := (zroom 3 0 0)) [.int (nI k), .int (nI f), .int (nI j)] (fun q => nomatch q) d_Md_mode_122 lk_Md_194 hm rfl rfl rfl (c_mslidesAlong hm h86 h95 h96 h87 h89 h97 hbl hk hfx h100 h101 h102 h103 hf hjc) (fun t h9 hh => ?_)
      refine pw_if_eq 138 d_Md_mode_125 (by decide) (fun q_t => ?_) (fun q_t => ?_)
      · refine pw_iinc (y := nI (j + 1)) d_Md_mode_138 rfl (nI_1 j) (by decide) (pl' := [some (.ref 84), some (.int (nI k)), some (.int (nI f)), some (.int (nI (j + 1)))]) rfl ?_
        refine pw_goto 112 d_Md_mode_141 (by decide) ?_
        have hn9 : ¬ rAl ml mo tk bs bf mp bl k f j := by rcases hh.2.2.2.2.2 with ⟨e, -⟩ | ⟨-, h1⟩; exact absurd (e.symm.trans q_t) (by decide); exact h1
        exact ih (j + 1) h9 (by omega) (by omega) (by omega) ⟨hh.1, hh.2.1, hh.2.2.1, hh.2.2.2.1⟩ (zsm_tr hz hh.2.2.2.2.1 (fun _ q => q)) (fun e i a1 a2 a3 => by
          rcases a3 with a3 | ⟨rfl, a3⟩
          · exact hv e i a1 a2 (Or.inl a3)
          · rcases Nat.lt_succ_iff_lt_or_eq.mp a3 with h4 | rfl
            · exact hv e i a1 a2 (Or.inr ⟨rfl, h4⟩)
            · exact hn9)
      · refine pw_bipush (x := 100) d_Md_mode_128 (by decide) ?_
        refine pw_bipush (x := 12) d_Md_mode_130 (by decide) ?_
        refine pw_iload_n d_Md_mode_132 rfl rfl ?_
        refine pw_imul d_Md_mode_133 ?_
        refine pw_iadd d_Md_mode_134 ?_
        refine pw_iload_n d_Md_mode_135 rfl rfl ?_
        refine pw_iadd d_Md_mode_136 ?_
        refine pw_ireturn d_Md_mode_137 rfl (by decide) (by decide) ?_
        have hy9 : rAl ml mo tk bs bf mp bl k f j := by rcases hh.2.2.2.2.2 with ⟨-, h1⟩ | ⟨e, -⟩; exact h1; exact absurd e q_t
        exact ⟨_, rfl, hh.1, hh.2.1, hh.2.2.1, hh.2.2.2.1, zsm_tr hz hh.2.2.2.2.1 (fun _ q => q), Or.inr ⟨hng, Or.inr ⟨hno, Or.inl ⟨f, j, hfj, hjc, rfl, hy9, hv⟩⟩⟩⟩
set_option maxRecDepth 20000 in
set_option maxHeartbeats 2000000 in
theorem l_mo2 {G : zG} {h0 : zH} {jn dr pn bl tn : Nat} (hm0 : zMo h0 0 jn dr pn bl tn) {ml bs bf mo mp : Nat → Int32} (h860 : h0[86]? = some (.inl (0, 48, .inl ml))) (h950 : h0[95]? = some (.inl (0, 64, .inl bs))) (h960 : h0[96]? = some (.inl (0, 64, .inl bf))) (h870 : h0[87]? = some (.inl (1, 12, .inl mo))) (h890 : h0[89]? = some (.inl (0, 3, .inl mp))) {tk : Nat → Int32} (h970 : h0[97]? = some (.inl (1, 64, .inl tk))) (hbl : bl ≤ 64) {k : Nat} (hk : k < 64) (hfx : ∀ f, f < 6 → (bf k >>> (nI f &&& 31)) &&& 1 = 1 → ∃ o, o < bl ∧ bs o = (bs k ^^^ (1 <<< ((nI f) &&& 31)))) (ht0 : tk k = 0) (hng : ¬ rGo ml mo tk bs bf bl k (mp 0) (mp 1) (mp 2)) (hno : ∀ i, i < 12 → ¬ rOn ml mo tk bs bf mp bl k i) : ∀ (n f : Nat) (h : zH) (o3 : Option Value), 12 - f < n → f ≤ 12 → ((∃ v, h[100]? = some (.inl (0, 3, .inl v))) ∧ (∃ v, h[101]? = some (.inl (0, 3, .inl v))) ∧ (∃ v, h[102]? = some (.inl (0, 3, .inl v))) ∧ (∃ v, h[103]? = some (.inl (0, 3, .inl v)))) → zsm [100, 101, 102, 103] h0 h → (∀ e i, e < i → i < 12 → e < f → ¬ rAl ml mo tk bs bf mp bl k e i) → PW G M_Md_mode (zroom 4 0 0) false (fun r h' => ∃ t : Int32, r = .inl (some (.int t)) ∧ (∃ v, h'[100]? = some (.inl (0, 3, .inl v))) ∧ (∃ v, h'[101]? = some (.inl (0, 3, .inl v))) ∧ (∃ v, h'[102]? = some (.inl (0, 3, .inl v))) ∧ (∃ v, h'[103]? = some (.inl (0, 3, .inl v))) ∧ zsm [100, 101, 102, 103] h0 h' ∧ rMd ml mo tk bs bf mp bl k t) 102 [some (.ref 84), some (.int (nI k)), some (.int (nI f)), o3] [] h 0 0 := by
  intro n
  induction n with
  | zero => intro f h o3 hn; exact absurd hn (Nat.not_lt_zero _)
  | succ n ih =>
    intro f h o3 hn hi hsc hz hv
    refine pw_iload_n d_Md_mode_102 rfl rfl ?_
    refine pw_bipush (x := 12) d_Md_mode_103 (by decide) ?_
    refine pw_icmp_ge 150 d_Md_mode_105 (by decide) (fun q_c => ?_) (fun q_c => ?_)
    · refine pw_iconst (x := 0) d_Md_mode_150 (by decide) ?_
      refine pw_ireturn d_Md_mode_151 rfl (by decide) (by decide) ?_
      have hfc : f = 12 := by have := (nI_leI (a := 12) (b := f) (by decide) (by omega)).mp q_c; omega
      subst hfc
      exact ⟨_, rfl, hsc.1, hsc.2.1, hsc.2.2.1, hsc.2.2.2, hz, Or.inr ⟨hng, Or.inr ⟨hno, Or.inr ⟨rfl, fun e i a1 a2 => hv e i a1 a2 (by omega)⟩⟩⟩⟩
    · have hfc : f < 12 := by have := mt (nI_leI (a := 12) (b := f) (by decide) (by omega)).mpr q_c; omega
      refine pw_iload_n d_Md_mode_108 rfl rfl ?_
      refine pw_iconst (x := 1) d_Md_mode_109 (by decide) ?_
      refine pw_iadd d_Md_mode_110 ?_
      refine pw_istore_n d_Md_mode_111 rfl (by decide) (pl' := [some (.ref 84), some (.int (nI k)), some (.int (nI f)), some (.int ((nI f + 1)))]) rfl ?_
      rw [nI_1 f]
      refine l_mo3 hm0 h860 h950 h960 h870 h890 h970 hbl hk hfx ht0 hng hno hfc (fun h1 a1 a2 a3 => ?_) 13 (f + 1) h (by omega) (by omega) (by omega) hsc hz (fun e i a1 a2 a3 => hv e i a1 a2 (by omega))
      refine pw_iinc (y := nI (f + 1)) d_Md_mode_144 rfl (nI_1 f) (by decide) (pl' := [some (.ref 84), some (.int (nI k)), some (.int (nI (f + 1))), some (.int (nI 12))]) rfl ?_
      refine pw_goto 102 d_Md_mode_147 (by decide) ?_
      exact ih (f + 1) h1 _ (by omega) (by omega) a1 a2 (fun e i b1 b2 b3 => a3 e i b1 b2 (by omega))
set_option maxRecDepth 20000 in
set_option maxHeartbeats 2000000 in
theorem l_mo1 {G : zG} {h0 : zH} {jn dr pn bl tn : Nat} (hm0 : zMo h0 0 jn dr pn bl tn) {ml bs bf mo mp : Nat → Int32} (h860 : h0[86]? = some (.inl (0, 48, .inl ml))) (h950 : h0[95]? = some (.inl (0, 64, .inl bs))) (h960 : h0[96]? = some (.inl (0, 64, .inl bf))) (h870 : h0[87]? = some (.inl (1, 12, .inl mo))) (h890 : h0[89]? = some (.inl (0, 3, .inl mp))) {tk : Nat → Int32} (h970 : h0[97]? = some (.inl (1, 64, .inl tk))) (hbl : bl ≤ 64) {k : Nat} (hk : k < 64) (hfx : ∀ f, f < 6 → (bf k >>> (nI f &&& 31)) &&& 1 = 1 → ∃ o, o < bl ∧ bs o = (bs k ^^^ (1 <<< ((nI f) &&& 31)))) (ht0 : tk k = 0) (hng : ¬ rGo ml mo tk bs bf bl k (mp 0) (mp 1) (mp 2)) {o3 : Option Value} : ∀ (n i : Nat) (h : zH), 12 - i < n → i ≤ 12 → ((∃ v, h[100]? = some (.inl (0, 3, .inl v))) ∧ (∃ v, h[101]? = some (.inl (0, 3, .inl v))) ∧ (∃ v, h[102]? = some (.inl (0, 3, .inl v))) ∧ (∃ v, h[103]? = some (.inl (0, 3, .inl v)))) → zsm [100, 101, 102, 103] h0 h → (∀ j, j < i → ¬ rOn ml mo tk bs bf mp bl k j) → PW G M_Md_mode (zroom 4 0 0) false (fun r h' => ∃ t : Int32, r = .inl (some (.int t)) ∧ (∃ v, h'[100]? = some (.inl (0, 3, .inl v))) ∧ (∃ v, h'[101]? = some (.inl (0, 3, .inl v))) ∧ (∃ v, h'[102]? = some (.inl (0, 3, .inl v))) ∧ (∃ v, h'[103]? = some (.inl (0, 3, .inl v))) ∧ zsm [100, 101, 102, 103] h0 h' ∧ rMd ml mo tk bs bf mp bl k t) 74 [some (.ref 84), some (.int (nI k)), some (.int (nI i)), o3] [] h 0 0 := by
  intro n
  induction n with
  | zero => intro i h hn; exact absurd hn (Nat.not_lt_zero _)
  | succ n ih =>
    intro i h hn hi hsc hz hv
    have h86 := zsm_at hz (by decide) h860
    have h95 := zsm_at hz (by decide) h950
    have h96 := zsm_at hz (by decide) h960
    have h87 := zsm_at hz (by decide) h870
    have h89 := zsm_at hz (by decide) h890
    have h97 := zsm_at hz (by decide) h970
    have hm := zsm_at hz (by decide) hm0
    obtain ⟨⟨v1, h100⟩, ⟨v2, h101⟩, ⟨vw, h102⟩, ⟨vo, h103⟩⟩ := hsc
    refine pw_iload_n d_Md_mode_74 rfl rfl ?_
    refine pw_bipush (x := 12) d_Md_mode_75 (by decide) ?_
    refine pw_icmp_ge 100 d_Md_mode_77 (by decide) (fun q_c => ?_) (fun q_c => ?_)
    · refine pw_iconst (x := 0) d_Md_mode_100 (by decide) ?_
      refine pw_istore_n d_Md_mode_101 rfl (by decide) (pl' := [some (.ref 84), some (.int (nI k)), some (.int (0)), o3]) rfl ?_
      have hic : i = 12 := by have := (nI_leI (a := 12) (b := i) (by decide) (by omega)).mp q_c; omega
      subst hic
      exact l_mo2 hm0 h860 h950 h960 h870 h890 h970 hbl hk hfx ht0 hng hv 13 0 h _ (by decide) (by decide) ⟨⟨_, h100⟩, ⟨_, h101⟩, ⟨_, h102⟩, ⟨_, h103⟩⟩ hz (fun e i _ _ h9 => absurd h9 (Nat.not_lt_zero _))
    · have hic : i < 12 := by have := mt (nI_leI (a := 12) (b := i) (by decide) (by omega)).mpr q_c; omega
      refine pw_aload_n d_Md_mode_80 rfl rfl ?_
      refine pw_iload_n d_Md_mode_81 rfl rfl ?_
      refine pw_iload_n d_Md_mode_82 rfl rfl ?_
      refine pw_callVw (R' := (zroom 3 0 0)) [.int (nI k), .int (nI i)] (fun q => nomatch q) d_Md_mode_83 lk_Md_191 hm rfl rfl rfl (c_slidesOn hm h86 h95 h96 h87 h89 h97 hbl hk hfx h100 h101 h102 h103 hic) (fun t h9 hh => ?_)
      refine pw_if_eq 94 d_Md_mode_86 (by decide) (fun q_t => ?_) (fun q_t => ?_)
      · refine pw_iinc (y := nI (i + 1)) d_Md_mode_94 rfl (nI_1 i) (by decide) (pl' := [some (.ref 84), some (.int (nI k)), some (.int (nI (i + 1))), o3]) rfl ?_
        refine pw_goto 74 d_Md_mode_97 (by decide) ?_
        have hn9 : ¬ rOn ml mo tk bs bf mp bl k i := by rcases hh.2.2.2.2.2 with ⟨e, -⟩ | ⟨-, h1⟩; exact absurd (e.symm.trans q_t) (by decide); exact h1
        exact ih (i + 1) h9 (by omega) (by omega) ⟨hh.1, hh.2.1, hh.2.2.1, hh.2.2.2.1⟩ (zsm_tr hz hh.2.2.2.2.1 (fun _ q => q)) (fun j hj => by rcases Nat.lt_succ_iff_lt_or_eq.mp hj with h1 | rfl; exact hv j h1; exact hn9)
      · refine pw_bipush (x := 10) d_Md_mode_89 (by decide) ?_
        refine pw_iload_n d_Md_mode_91 rfl rfl ?_
        refine pw_iadd d_Md_mode_92 ?_
        refine pw_ireturn d_Md_mode_93 rfl (by decide) (by decide) ?_
        have hy9 : rOn ml mo tk bs bf mp bl k i := by rcases hh.2.2.2.2.2 with ⟨-, h1⟩ | ⟨e, -⟩; exact h1; exact absurd e q_t
        exact ⟨_, rfl, hh.1, hh.2.1, hh.2.2.1, hh.2.2.2.1, zsm_tr hz hh.2.2.2.2.1 (fun _ q => q), Or.inr ⟨hng, Or.inl ⟨i, hic, rfl, hy9, hv⟩⟩⟩
set_option maxRecDepth 20000 in
set_option maxHeartbeats 2000000 in
theorem l_mo0 {G : zG} {h0 : zH} {jn dr pn bl tn : Nat} (hm0 : zMo h0 0 jn dr pn bl tn) {ml bs bf mo mp : Nat → Int32} (h860 : h0[86]? = some (.inl (0, 48, .inl ml))) (h950 : h0[95]? = some (.inl (0, 64, .inl bs))) (h960 : h0[96]? = some (.inl (0, 64, .inl bf))) (h870 : h0[87]? = some (.inl (1, 12, .inl mo))) (h890 : h0[89]? = some (.inl (0, 3, .inl mp))) {tk : Nat → Int32} (h970 : h0[97]? = some (.inl (1, 64, .inl tk))) (hbl : bl ≤ 64) {k : Nat} (hk : k < 64) (hfx : ∀ f, f < 6 → (bf k >>> (nI f &&& 31)) &&& 1 = 1 → ∃ o, o < bl ∧ bs o = (bs k ^^^ (1 <<< ((nI f) &&& 31)))) (ht0 : tk k = 0) {v1 v2 vo : Nat → Int32} (h1000 : h0[100]? = some (.inl (0, 3, .inl v1))) (h1010 : h0[101]? = some (.inl (0, 3, .inl v2))) (h1030 : h0[103]? = some (.inl (0, 3, .inl vo))) {o3 : Option Value} : ∀ (n c : Nat) (h : zH) (vw : Nat → Int32), 3 - c < n → c ≤ 3 → zsm [102] h0 h → h[102]? = some (.inl (0, 3, .inl vw)) → (∀ e, e < c → vw e = mp e) → PW G M_Md_mode (zroom 4 0 0) false (fun r h' => ∃ t : Int32, r = .inl (some (.int t)) ∧ (∃ v, h'[100]? = some (.inl (0, 3, .inl v))) ∧ (∃ v, h'[101]? = some (.inl (0, 3, .inl v))) ∧ (∃ v, h'[102]? = some (.inl (0, 3, .inl v))) ∧ (∃ v, h'[103]? = some (.inl (0, 3, .inl v))) ∧ zsm [100, 101, 102, 103] h0 h' ∧ rMd ml mo tk bs bf mp bl k t) 39 [some (.ref 84), some (.int (nI k)), some (.int (nI c)), o3] [] h 0 0 := by
  intro n
  induction n with
  | zero => intro c h vw hn; exact absurd hn (Nat.not_lt_zero _)
  | succ n ih =>
    intro c h vw hn hc hz h102 hv
    have h86 := zsm_at hz (by decide) h860
    have h95 := zsm_at hz (by decide) h950
    have h96 := zsm_at hz (by decide) h960
    have h87 := zsm_at hz (by decide) h870
    have h89 := zsm_at hz (by decide) h890
    have h97 := zsm_at hz (by decide) h970
    have hm := zsm_at hz (by decide) hm0
    have h100 := zsm_at hz (by decide) h1000
    have h101 := zsm_at hz (by decide) h1010
    have h103 := zsm_at hz (by decide) h1030
    refine pw_iload_n d_Md_mode_39 rfl rfl ?_
    refine pw_iconst (x := 3) d_Md_mode_40 (by decide) ?_
    refine pw_icmp_ge 62 d_Md_mode_41 (by decide) (fun q_c => ?_) (fun q_c => ?_)
    · have hcc : c = 3 := by have := (nI_leI (a := 3) (b := c) (by decide) (by omega)).mp q_c; omega
      subst hcc
      refine pw_aload_n d_Md_mode_62 rfl rfl ?_
      refine pw_iload_n d_Md_mode_63 rfl rfl ?_
      refine pw_callVw (R' := (zroom 2 0 0)) [.int (nI k)] (fun q => nomatch q) d_Md_mode_64 lk_Md_178 hm rfl rfl rfl (c_canGo hm h86 h95 h96 h87 h97 hbl hk hfx h102 h103) (fun th_1 h_1 kh_1 => ?_)
      refine pw_if_eq 72 d_Md_mode_67 (by decide) (fun q_g => ?_) (fun q_g => ?_)
      · refine pw_iconst (x := 0) d_Md_mode_72 (by decide) ?_
        refine pw_istore_n d_Md_mode_73 rfl (by decide) (pl' := [some (.ref 84), some (.int (nI k)), some (.int (0)), o3]) rfl ?_
        have hg := kh_1.2.2
        rw [hv 0 (by decide), hv 1 (by decide), hv 2 (by decide)] at hg
        have hng : ¬ rGo ml mo tk bs bf bl k (mp 0) (mp 1) (mp 2) := fun z => by rcases hg with ⟨e, -⟩ | ⟨-, h1⟩; exact absurd (e.symm.trans q_g) (by decide); exact h1 ⟨ht0, z⟩
        exact l_mo1 hm0 h860 h950 h960 h870 h890 h970 hbl hk hfx ht0 hng 13 0 _ (by decide) (by decide) ⟨⟨_, zsm_at kh_1.2.1 (by decide) h100⟩, ⟨_, zsm_at kh_1.2.1 (by decide) h101⟩, ⟨_, zsm_at kh_1.2.1 (by decide) h102⟩, kh_1.1⟩ (zsm_tr (zsm_tr zsm_rf hz (by decide)) kh_1.2.1 (by decide)) (fun j hj => absurd hj (Nat.not_lt_zero _))
      · refine pw_iconst (x := 1) d_Md_mode_70 (by decide) ?_
        refine pw_ireturn d_Md_mode_71 rfl (by decide) (by decide) ?_
        have hg := kh_1.2.2
        rw [hv 0 (by decide), hv 1 (by decide), hv 2 (by decide)] at hg
        have hg2 := (hg.resolve_right (fun z => q_g z.1)).2
        exact ⟨1, rfl, ⟨_, zsm_at kh_1.2.1 (by decide) h100⟩, ⟨_, zsm_at kh_1.2.1 (by decide) h101⟩, ⟨_, zsm_at kh_1.2.1 (by decide) h102⟩, kh_1.1, zsm_tr (zsm_tr zsm_rf hz (by decide)) kh_1.2.1 (by decide), Or.inl ⟨rfl, hg2.2⟩⟩
    · have hcc : c < 3 := by have := mt (nI_leI (a := 3) (b := c) (by decide) (by omega)).mpr q_c; omega
      refine pw_aload_n d_Md_mode_44 rfl rfl ?_
      refine pw_get d_Md_mode_45 fl_Md_62 hm rfl ?_
      refine pw_iload_n d_Md_mode_48 rfl rfl ?_
      refine pw_aload_n d_Md_mode_49 rfl rfl ?_
      refine pw_get d_Md_mode_50 fl_Md_23 hm rfl ?_
      refine pw_iload_n d_Md_mode_53 rfl rfl ?_
      refine pw_iald d_Md_mode_54 h89 rfl rfl hcc (by decide) ?_
      obtain ⟨h_2, eh_2⟩ : ∃ x_9, x_9 = List.set h (102) (.inl (0, 3, .inl (upd vw c (mp c)))) := ⟨_, rfl⟩
      refine pw_iast rfl d_Md_mode_55 h102 rfl rfl hcc (by decide) eh_2.symm ?_
      refine pw_iinc (y := nI (c + 1)) d_Md_mode_56 rfl (nI_1 c) (by decide) (pl' := [some (.ref 84), some (.int (nI k)), some (.int (nI (c + 1))), o3]) rfl ?_
      refine pw_goto 39 d_Md_mode_59 (by decide) ?_
      refine ih (c + 1) _ _ (by omega) (by omega) (zsm_st hz eh_2 (by decide)) (zg_eq eh_2 h102) (fun e9 he9 => ?_)
      rcases Nat.lt_succ_iff_lt_or_eq.mp he9 with h1 | rfl
      · rw [pk_un (by omega)]; exact hv e9 h1
      · exact pk_us
