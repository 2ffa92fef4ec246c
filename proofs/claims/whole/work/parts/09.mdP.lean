/-- what is left of the pull along a face -/
def rSl (mp u : Nat → Int32) (c : Nat) : Int32 := mp c * (u 0 * u 0 + u 1 * u 1 + u 2 * u 2) - u c * (mp 0 * u 0 + mp 1 * u 1 + mp 2 * u 2)
theorem rSl_cg {mp u v : Nat → Int32} (h : ∀ c, c < 3 → u c = v c) {c : Nat} (hc : c < 3) : rSl mp u c = rSl mp v c := by
  unfold rSl
  rw [h 0 (by decide), h 1 (by decide), h 2 (by decide), h c hc]
set_option maxRecDepth 20000 in
set_option maxHeartbeats 2000000 in
theorem l_slide {G : zG} {h0 : zH} {th : Int32} {jn dr pn bl tn : Nat} (hm0 : zMo h0 th jn dr pn bl tn) {mp : Nat → Int32} (h890 : h0[89]? = some (.inl (0, 3, .inl mp))) {a b : Nat} (ha : 100 ≤ a) (hb : 100 ≤ b) (hab : a ≠ b) {u : Nat → Int32} (hu0 : h0[a]? = some (.inl (0, 3, .inl u))) : ∀ (n c : Nat) (h : zH) (v : Nat → Int32), 3 - c < n → c ≤ 3 → zsm [b] h0 h → h[b]? = some (.inl (0, 3, .inl v)) → (∀ e, e < c → v e = rSl mp u e) → PW G M_Md_slide (zroom 1 0 0) false (fun r h' => r = .inl none ∧ ∃ v : Nat → Int32, h'[b]? = some (.inl (0, 3, .inl v)) ∧ zsm [b] h0 h' ∧ ∀ c, c < 3 → v c = rSl mp u c) 19 [some (.ref 84), some (.ref a), some (.ref b), some (.int (u 0 * u 0 + u 1 * u 1 + u 2 * u 2)), some (.int (mp 0 * u 0 + mp 1 * u 1 + mp 2 * u 2)), some (.int (nI c))] [] h 0 0 := by
  intro n
  induction n with
  | zero => intro c h v hn; exact absurd hn (Nat.not_lt_zero _)
  | succ n ih =>
    intro c h v hn hc hz hv hc9
    have hm := zsm_at hz (by simp; omega) hm0
    have h89 := zsm_at hz (by simp; omega) h890
    have hu := zsm_at hz (by simp; omega) hu0
    refine pw_iload d_Md_slide_19 rfl ?_
    refine pw_iconst (x := 3) d_Md_slide_21 (by decide) ?_
    refine pw_icmp_ge 52 d_Md_slide_22 (by decide) (fun q_c => ?_) (fun q_c => ?_)
    · refine pw_return d_Md_slide_52 rfl (by decide) (by decide) ?_
      have hcc : c = 3 := by have := (nI_leI (a := 3) (b := c) (by decide) (by omega)).mp q_c; omega
      subst hcc
      exact ⟨rfl, v, hv, hz, hc9⟩
    · have hcc : c < 3 := by have := mt (nI_leI (a := 3) (b := c) (by decide) (by omega)).mpr q_c; omega
      refine pw_aload_n d_Md_slide_25 rfl rfl ?_
      refine pw_iload d_Md_slide_26 rfl ?_
      refine pw_aload_n d_Md_slide_28 rfl rfl ?_
      refine pw_get d_Md_slide_29 fl_Md_23 hm rfl ?_
      refine pw_iload d_Md_slide_32 rfl ?_
      refine pw_iald d_Md_slide_34 h89 rfl rfl hcc (by decide) ?_
      refine pw_iload_n d_Md_slide_35 rfl rfl ?_
      refine pw_imul d_Md_slide_36 ?_
      refine pw_aload_n d_Md_slide_37 rfl rfl ?_
      refine pw_iload d_Md_slide_38 rfl ?_
      refine pw_iald d_Md_slide_40 hu rfl rfl hcc (by decide) ?_
      refine pw_iload d_Md_slide_41 rfl ?_
      refine pw_imul d_Md_slide_43 ?_
      refine pw_isub d_Md_slide_44 ?_
      obtain ⟨h_1, eh_1⟩ : ∃ x_9, x_9 = List.set h (b) (.inl (0, 3, .inl (upd v c (((mp c * (u 0 * u 0 + u 1 * u 1 + u 2 * u 2)) - (u c * (mp 0 * u 0 + mp 1 * u 1 + mp 2 * u 2))))))) := ⟨_, rfl⟩
      refine pw_iast rfl d_Md_slide_45 hv rfl rfl hcc (by decide) eh_1.symm ?_
      refine pw_iinc (y := nI (c + 1)) d_Md_slide_46 rfl (nI_1 c) (by decide) (pl' := [some (.ref 84), some (.ref a), some (.ref b), some (.int ((u 0 * u 0 + u 1 * u 1 + u 2 * u 2))), some (.int ((mp 0 * u 0 + mp 1 * u 1 + mp 2 * u 2))), some (.int (nI (c + 1)))]) rfl ?_
      refine pw_goto 19 d_Md_slide_49 (by decide) ?_
      refine ih (c + 1) _ _ (by omega) (by omega) (zsm_st hz eh_1 (by simp)) (zg_eq eh_1 hv) (fun e9 he9 => ?_)
      rcases Nat.lt_succ_iff_lt_or_eq.mp he9 with h1 | rfl
      · rw [pk_un (by omega)]; exact hc9 e9 h1
      · exact pk_us
set_option maxRecDepth 20000 in
set_option maxHeartbeats 2000000 in
theorem c_slide {G : zG} {h : zH} {th : Int32} {jn dr pn bl tn : Nat} (hm : zMo h th jn dr pn bl tn) {mp : Nat → Int32} (h89 : h[89]? = some (.inl (0, 3, .inl mp))) {a b : Nat} (ha : 100 ≤ a) (hb : 100 ≤ b) (hab : a ≠ b) {u v : Nat → Int32} (hu : h[a]? = some (.inl (0, 3, .inl u))) (hv : h[b]? = some (.inl (0, 3, .inl v))) : PW G M_Md_slide (zroom 1 0 0) false (fun r h' => r = .inl none ∧ ∃ v : Nat → Int32, h'[b]? = some (.inl (0, 3, .inl v)) ∧ zsm [b] h h' ∧ ∀ c, c < 3 → v c = rSl mp u c) 0 (zentry 6 [.ref 84, .ref a, .ref b]) [] h 0 0 := by
  show PW G M_Md_slide (zroom 1 0 0) false _ 0 [some (.ref 84), some (.ref a), some (.ref b), none, none, none] [] h 0 0
  refine pw_aload_n d_Md_slide_0 rfl rfl ?_
  refine pw_aload_n d_Md_slide_1 rfl rfl ?_
  refine pw_callS1 (R' := (zroom 0 0 0)) (h2 := h) [.ref a, .ref a] (fun q => nomatch q) d_Md_slide_2 lk_Md_174 rfl rfl (c_mtimes hu hu) ?_
  refine pw_istore_n d_Md_slide_5 rfl (by decide) (pl' := [some (.ref 84), some (.ref a), some (.ref b), some (.int ((u 0 * u 0 + u 1 * u 1 + u 2 * u 2))), none, none]) rfl ?_
  refine pw_aload_n d_Md_slide_6 rfl rfl ?_
  refine pw_get d_Md_slide_7 fl_Md_23 hm rfl ?_
  refine pw_aload_n d_Md_slide_10 rfl rfl ?_
  refine pw_callS1 (R' := (zroom 0 0 0)) (h2 := h) [.ref 89, .ref a] (fun q => nomatch q) d_Md_slide_11 lk_Md_174 rfl rfl (c_mtimes h89 hu) ?_
  refine pw_istore d_Md_slide_14 (by decide) (pl' := [some (.ref 84), some (.ref a), some (.ref b), some (.int ((u 0 * u 0 + u 1 * u 1 + u 2 * u 2))), some (.int ((mp 0 * u 0 + mp 1 * u 1 + mp 2 * u 2))), none]) rfl ?_
  refine pw_iconst (x := 0) d_Md_slide_16 (by decide) ?_
  refine pw_istore d_Md_slide_17 (by decide) (pl' := [some (.ref 84), some (.ref a), some (.ref b), some (.int ((u 0 * u 0 + u 1 * u 1 + u 2 * u 2))), some (.int ((mp 0 * u 0 + mp 1 * u 1 + mp 2 * u 2))), some (.int (0))]) rfl ?_
  exact l_slide hm h89 ha hb hab hu 4 0 h v (by decide) (by decide) zsm_rf hv (fun e he => absurd he (Nat.not_lt_zero _))
/-- block k slides on face f -/
def rOn (ml mo tk bs bf mp : Nat → Int32) (bl k f : Nat) : Prop := rHd mo tk bs bf bl k f ∧ mp 0 * rIn ml bs k f 0 + mp 1 * rIn ml bs k f 1 + mp 2 * rIn ml bs k f 2 < 0 ∧ tk k = 0 ∧ rGo ml mo tk bs bf bl k (rSl mp (rIn ml bs k f) 0) (rSl mp (rIn ml bs k f) 1) (rSl mp (rIn ml bs k f) 2)
set_option maxRecDepth 20000 in
set_option maxHeartbeats 2000000 in
theorem c_slidesOn {G : zG} {h : zH} {jn dr pn bl tn : Nat} (hm : zMo h 0 jn dr pn bl tn) {ml bs bf mo mp : Nat → Int32} (h86 : h[86]? = some (.inl (0, 48, .inl ml))) (h95 : h[95]? = some (.inl (0, 64, .inl bs))) (h96 : h[96]? = some (.inl (0, 64, .inl bf))) (h87 : h[87]? = some (.inl (1, 12, .inl mo))) (h89 : h[89]? = some (.inl (0, 3, .inl mp))) {tk : Nat → Int32} (h97 : h[97]? = some (.inl (1, 64, .inl tk))) (hbl : bl ≤ 64) {k : Nat} (hk : k < 64) (hfx : ∀ f, f < 6 → (bf k >>> (nI f &&& 31)) &&& 1 = 1 → ∃ o, o < bl ∧ bs o = (bs k ^^^ (1 <<< ((nI f) &&& 31)))) {v1 : Nat → Int32} (h100 : h[100]? = some (.inl (0, 3, .inl v1))) {v2 : Nat → Int32} (h101 : h[101]? = some (.inl (0, 3, .inl v2))) {vw : Nat → Int32} (h102 : h[102]? = some (.inl (0, 3, .inl vw))) {vo : Nat → Int32} (h103 : h[103]? = some (.inl (0, 3, .inl vo))) {f : Nat} (h_f : f < 12) : PW G M_Md_slidesOn (zroom 3 0 0) false (fun r h' => ∃ t : Int32, r = .inl (some (.int t)) ∧ (∃ v, h'[100]? = some (.inl (0, 3, .inl v))) ∧ (∃ v, h'[101]? = some (.inl (0, 3, .inl v))) ∧ (∃ v, h'[102]? = some (.inl (0, 3, .inl v))) ∧ (∃ v, h'[103]? = some (.inl (0, 3, .inl v))) ∧ zsm [100, 101, 102, 103] h h' ∧ ((t = 1 ∧ rOn ml mo tk bs bf mp bl k f) ∨ (t = 0 ∧ ¬ rOn ml mo tk bs bf mp bl k f))) 0 (zentry 3 [.ref 84, .int (nI k), .int (nI f)]) [] h 0 0 := by
  show PW G M_Md_slidesOn (zroom 3 0 0) false _ 0 [some (.ref 84), some (.int (nI k)), some (.int (nI f))] [] h 0 0
  refine pw_aload_n d_Md_slidesOn_0 rfl rfl ?_
  refine pw_iload_n d_Md_slidesOn_1 rfl rfl ?_
  refine pw_iload_n d_Md_slidesOn_2 rfl rfl ?_
  refine pw_callVt (R' := (zroom 1 0 0)) [.int (nI k), .int (nI f)] (fun q => nomatch q) d_Md_slidesOn_3 lk_Md_167 hm rfl rfl rfl (c_holds hm h95 h96 h87 h97 hbl hk hfx h_f) (fun t_1 ht_1 => ?_)
  refine pw_if_ne 11 d_Md_slidesOn_6 (by decide) (fun q_h => ?_) (fun q_h => ?_)
  · refine pw_aload_n d_Md_slidesOn_11 rfl rfl ?_
    refine pw_iload_n d_Md_slidesOn_12 rfl rfl ?_
    refine pw_iload_n d_Md_slidesOn_13 rfl rfl ?_
    refine pw_aload_n d_Md_slidesOn_14 rfl rfl ?_
    refine pw_get d_Md_slidesOn_15 fl_Md_56 hm rfl ?_
    refine pw_callVu (R' := (zroom 0 0 0)) [.int (nI k), .int (nI f), .ref 100] (fun q => nomatch q) d_Md_slidesOn_18 lk_Md_170 hm rfl rfl rfl (c_inward hm h86 h95 hk h_f (w := 100) (by decide) h100) (fun h_2 kh_2 => ?_)
    obtain ⟨vh_2, kh_21, kh_22, kh_23⟩ := kh_2
    refine pw_aload_n d_Md_slidesOn_21 rfl rfl ?_
    refine pw_aload_n d_Md_slidesOn_22 rfl rfl ?_
    refine pw_get d_Md_slidesOn_23 fl_Md_56 (zsm_at kh_22 (by decide) hm) rfl ?_
    refine pw_aload_n d_Md_slidesOn_26 rfl rfl ?_
    refine pw_get d_Md_slidesOn_27 fl_Md_62 (zsm_at kh_22 (by decide) hm) rfl ?_
    refine pw_callVu (R' := (zroom 1 0 0)) [.ref 100, .ref 102] (fun q => nomatch q) d_Md_slidesOn_30 lk_Md_187 (zsm_at kh_22 (by decide) hm) rfl rfl rfl (c_slide (zsm_at kh_22 (by decide) hm) (zsm_at kh_22 (by decide) h89) (a := 100) (b := 102) (by decide) (by decide) (by decide) kh_21 (zsm_at kh_22 (by decide) h102)) (fun h_3 kh_3 => ?_)
    obtain ⟨vh_3, kh_31, kh_32, kh_33⟩ := kh_3
    refine pw_aload_n d_Md_slidesOn_33 rfl rfl ?_
    refine pw_get d_Md_slidesOn_34 fl_Md_23 (zsm_at kh_32 (by decide) (zsm_at kh_22 (by decide) hm)) rfl ?_
    refine pw_aload_n d_Md_slidesOn_37 rfl rfl ?_
    refine pw_get d_Md_slidesOn_38 fl_Md_56 (zsm_at kh_32 (by decide) (zsm_at kh_22 (by decide) hm)) rfl ?_
    refine pw_callS1 (R' := (zroom 0 0 0)) (h2 := h_3) [.ref 89, .ref 100] (fun q => nomatch q) d_Md_slidesOn_41 lk_Md_174 rfl rfl (c_mtimes (zsm_at kh_32 (by decide) (zsm_at kh_22 (by decide) h89)) (zsm_at kh_32 (by decide) kh_21)) ?_
    refine pw_if_ge 59 d_Md_slidesOn_44 (by decide) (fun q_p => ?_) (fun q_p => ?_)
    · refine pw_iconst (x := 0) d_Md_slidesOn_59 (by decide) ?_
      refine pw_zreturn d_Md_slidesOn_60 rfl (by decide) (by decide) (by decide) ?_
      have i0 := kh_23 0 (by decide)
      have i1 := kh_23 1 (by decide)
      have i2 := kh_23 2 (by decide)
      rw [i0, i1, i2] at q_p
      exact ⟨0, rfl, ⟨_, (zsm_at kh_32 (by decide) kh_21)⟩, ⟨_, (zsm_at kh_32 (by decide) (zsm_at kh_22 (by decide) h101))⟩, ⟨_, kh_31⟩, ⟨_, (zsm_at kh_32 (by decide) (zsm_at kh_22 (by decide) h103))⟩, (zsm_tr (zsm_tr zsm_rf kh_22 (by decide)) kh_32 (by decide)), Or.inr ⟨rfl, fun z => absurd z.2.1 (zlt.mpr q_p)⟩⟩
    · refine pw_aload_n d_Md_slidesOn_47 rfl rfl ?_
      refine pw_iload_n d_Md_slidesOn_48 rfl rfl ?_
      refine pw_callVw (R' := (zroom 2 0 0)) [.int (nI k)] (fun q => nomatch q) d_Md_slidesOn_49 lk_Md_178 (zsm_at kh_32 (by decide) (zsm_at kh_22 (by decide) hm)) rfl rfl rfl (c_canGo (zsm_at kh_32 (by decide) (zsm_at kh_22 (by decide) hm)) (zsm_at kh_32 (by decide) (zsm_at kh_22 (by decide) h86)) (zsm_at kh_32 (by decide) (zsm_at kh_22 (by decide) h95)) (zsm_at kh_32 (by decide) (zsm_at kh_22 (by decide) h96)) (zsm_at kh_32 (by decide) (zsm_at kh_22 (by decide) h87)) (zsm_at kh_32 (by decide) (zsm_at kh_22 (by decide) h97)) hbl hk hfx kh_31 (zsm_at kh_32 (by decide) (zsm_at kh_22 (by decide) h103))) (fun th_4 h_4 kh_4 => ?_)
      refine pw_if_eq 59 d_Md_slidesOn_52 (by decide) (fun q_g => ?_) (fun q_g => ?_)
      · refine pw_iconst (x := 0) d_Md_slidesOn_59 (by decide) ?_
        refine pw_zreturn d_Md_slidesOn_60 rfl (by decide) (by decide) (by decide) ?_
        have i0 := kh_23 0 (by decide)
        have i1 := kh_23 1 (by decide)
        have i2 := kh_23 2 (by decide)
        rw [i0, i1, i2] at q_p
        have s0 := (kh_33 0 (by decide)).trans (rSl_cg kh_23 (by decide))
        have s1 := (kh_33 1 (by decide)).trans (rSl_cg kh_23 (by decide))
        have s2 := (kh_33 2 (by decide)).trans (rSl_cg kh_23 (by decide))
        have hg := kh_4.2.2
        rw [s0, s1, s2] at hg
        exact ⟨0, rfl, ⟨_, (zsm_at kh_4.2.1 (by decide) (zsm_at kh_32 (by decide) kh_21))⟩, ⟨_, (zsm_at kh_4.2.1 (by decide) (zsm_at kh_32 (by decide) (zsm_at kh_22 (by decide) h101)))⟩, ⟨_, (zsm_at kh_4.2.1 (by decide) kh_31)⟩, kh_4.1, (zsm_tr (zsm_tr (zsm_tr zsm_rf kh_22 (by decide)) kh_32 (by decide)) kh_4.2.1 (by decide)), Or.inr ⟨rfl, fun z => by rcases hg with ⟨e, -⟩ | ⟨-, h1⟩; exact absurd (e.symm.trans q_g) (by decide); exact h1 ⟨z.2.2.1, z.2.2.2⟩⟩⟩
      · refine pw_iconst (x := 1) d_Md_slidesOn_55 (by decide) ?_
        refine pw_goto 60 d_Md_slidesOn_56 (by decide) ?_
        refine pw_zreturn d_Md_slidesOn_60 rfl (by decide) (by decide) (by decide) ?_
        have i0 := kh_23 0 (by decide)
        have i1 := kh_23 1 (by decide)
        have i2 := kh_23 2 (by decide)
        rw [i0, i1, i2] at q_p
        have s0 := (kh_33 0 (by decide)).trans (rSl_cg kh_23 (by decide))
        have s1 := (kh_33 1 (by decide)).trans (rSl_cg kh_23 (by decide))
        have s2 := (kh_33 2 (by decide)).trans (rSl_cg kh_23 (by decide))
        have hg := kh_4.2.2
        rw [s0, s1, s2] at hg
        have hh9 : rHd mo tk bs bf bl k f := by rcases ht_1 with ⟨-, h1⟩ | ⟨e, -⟩; exact h1; exact absurd e q_h
        have hg2 := (hg.resolve_right (fun z => q_g z.1)).2
        exact ⟨1, rfl, ⟨_, (zsm_at kh_4.2.1 (by decide) (zsm_at kh_32 (by decide) kh_21))⟩, ⟨_, (zsm_at kh_4.2.1 (by decide) (zsm_at kh_32 (by decide) (zsm_at kh_22 (by decide) h101)))⟩, ⟨_, (zsm_at kh_4.2.1 (by decide) kh_31)⟩, kh_4.1, (zsm_tr (zsm_tr (zsm_tr zsm_rf kh_22 (by decide)) kh_32 (by decide)) kh_4.2.1 (by decide)), Or.inl ⟨rfl, hh9, zle.mp q_p, hg2.1, hg2.2⟩⟩
  · refine pw_iconst (x := 0) d_Md_slidesOn_9 (by decide) ?_
    refine pw_zreturn d_Md_slidesOn_10 rfl (by decide) (by decide) (by decide) ?_
    exact ⟨0, rfl, ⟨_, h100⟩, ⟨_, h101⟩, ⟨_, h102⟩, ⟨_, h103⟩, zsm_rf, Or.inr ⟨rfl, fun z => by rcases ht_1 with ⟨e, -⟩ | ⟨-, h1⟩; exact absurd (e.symm.trans q_h) (by decide); exact h1 z.1⟩⟩
