set_option maxRecDepth 20000 in
set_option maxHeartbeats 2000000 in
theorem c_mtimes {G : zG} {h : zH} {a b : Nat} {u v : Nat → Int32} (ha : h[a]? = some (.inl (0, 3, .inl u))) (hb : h[b]? = some (.inl (0, 3, .inl v))) : PW G M_Md_times (zroom 0 0 0) true (zr (some (.int (u 0 * v 0 + u 1 * v 1 + u 2 * v 2))) h) 0 (zentry 2 [.ref a, .ref b]) [] h 0 0 := by
  show PW G M_Md_times (zroom 0 0 0) true _ 0 [some (.ref a), some (.ref b)] [] h 0 0
  refine pw_aload_n d_Md_times_0 rfl rfl ?_
  refine pw_iconst (x := 0) d_Md_times_1 (by decide) ?_
  refine pw_iald d_Md_times_2 ha rfl rfl (by decide) (by decide) ?_
  refine pw_aload_n d_Md_times_3 rfl rfl ?_
  refine pw_iconst (x := 0) d_Md_times_4 (by decide) ?_
  refine pw_iald d_Md_times_5 hb rfl rfl (by decide) (by decide) ?_
  refine pw_imul d_Md_times_6 ?_
  refine pw_aload_n d_Md_times_7 rfl rfl ?_
  refine pw_iconst (x := 1) d_Md_times_8 (by decide) ?_
  refine pw_iald d_Md_times_9 ha rfl rfl (by decide) (by decide) ?_
  refine pw_aload_n d_Md_times_10 rfl rfl ?_
  refine pw_iconst (x := 1) d_Md_times_11 (by decide) ?_
  refine pw_iald d_Md_times_12 hb rfl rfl (by decide) (by decide) ?_
  refine pw_imul d_Md_times_13 ?_
  refine pw_iadd d_Md_times_14 ?_
  refine pw_aload_n d_Md_times_15 rfl rfl ?_
  refine pw_iconst (x := 2) d_Md_times_16 (by decide) ?_
  refine pw_iald d_Md_times_17 ha rfl rfl (by decide) (by decide) ?_
  refine pw_aload_n d_Md_times_18 rfl rfl ?_
  refine pw_iconst (x := 2) d_Md_times_19 (by decide) ?_
  refine pw_iald d_Md_times_20 hb rfl rfl (by decide) (by decide) ?_
  refine pw_imul d_Md_times_21 ?_
  refine pw_iadd d_Md_times_22 ?_
  refine pw_ireturn d_Md_times_23 rfl (by decide) (by decide) ?_
  exact ⟨rfl, rfl⟩
set_option maxRecDepth 20000 in
set_option maxHeartbeats 2000000 in
theorem l_inward {G : zG} {h0 : zH} {th : Int32} {jn dr pn bl tn : Nat} (hm0 : zMo h0 th jn dr pn bl tn) {ml : Nat → Int32} (h860 : h0[86]? = some (.inl (0, 48, .inl ml))) {bs : Nat → Int32} {k f : Nat} (hf : f < 12) {w : Nat} (hw : 100 ≤ w) {tu : Int32} (htu : ¬ tu = 0 ↔ rTu bs k f) : ∀ (n c : Nat) (h : zH) (v : Nat → Int32), 3 - c < n → c ≤ 3 → zsm [w] h0 h → h[w]? = some (.inl (0, 3, .inl v)) → (∀ e, e < c → v e = rIn ml bs k f e) → PW G M_Md_inward (zroom 0 0 0) false (fun r h' => r = .inl none ∧ ∃ v : Nat → Int32, h'[w]? = some (.inl (0, 3, .inl v)) ∧ zsm [w] h0 h' ∧ ∀ c, c < 3 → v c = rIn ml bs k f c) 44 [some (.ref 84), some (.int (nI k)), some (.int (nI f)), some (.ref w), some (.int tu), some (.int (nI c))] [] h 0 0 := by
  intro n
  induction n with
  | zero => intro c h v hn; exact absurd hn (Nat.not_lt_zero _)
  | succ n ih =>
    intro c h v hn hc hz hv hc9
    have hm := zsm_at hz (by simp; omega) hm0
    have h86 := zsm_at hz (by simp; omega) h860
    refine pw_iload d_Md_inward_44 rfl ?_
    refine pw_iconst (x := 3) d_Md_inward_46 (by decide) ?_
    refine pw_icmp_ge 91 d_Md_inward_47 (by decide) (fun q_c => ?_) (fun q_c => ?_)
    · refine pw_return d_Md_inward_91 rfl (by decide) (by decide) ?_
      have hcc : c = 3 := by have := (nI_leI (a := 3) (b := c) (by decide) (by omega)).mp q_c; omega
      subst hcc
      exact ⟨rfl, v, hv, hz, hc9⟩
    · have hcc : c < 3 := by have := mt (nI_leI (a := 3) (b := c) (by decide) (by omega)).mpr q_c; omega
      refine pw_aload_n d_Md_inward_50 rfl rfl ?_
      refine pw_iload d_Md_inward_51 rfl ?_
      refine pw_iload d_Md_inward_53 rfl ?_
      refine pw_if_eq 73 d_Md_inward_55 (by decide) (fun q_t => ?_) (fun q_t => ?_)
      · refine pw_aload_n d_Md_inward_73 rfl rfl ?_
        refine pw_get d_Md_inward_74 fl_Md_13 hm rfl ?_
        refine pw_iconst (x := 4) d_Md_inward_77 (by decide) ?_
        refine pw_iload_n d_Md_inward_78 rfl rfl ?_
        refine pw_imul d_Md_inward_79 ?_
        refine pw_iload d_Md_inward_80 rfl ?_
        refine pw_iadd d_Md_inward_82 ?_
        refine pw_iald d_Md_inward_83 h86 rfl (n4 f c) (by omega) (by decide) ?_
        obtain ⟨h_1, eh_1⟩ : ∃ x_9, x_9 = List.set h (w) (.inl (0, 3, .inl (upd v c (ml (4 * f + c))))) := ⟨_, rfl⟩
        refine pw_iast rfl d_Md_inward_84 hv rfl rfl hcc (by decide) eh_1.symm ?_
        refine pw_iinc (y := nI (c + 1)) d_Md_inward_85 rfl (nI_1 c) (by decide) (pl' := [some (.ref 84), some (.int (nI k)), some (.int (nI f)), some (.ref w), some (.int (tu)), some (.int (nI (c + 1)))]) rfl ?_
        refine pw_goto 44 d_Md_inward_88 (by decide) ?_
        refine ih (c + 1) _ _ (by omega) (by omega) (zsm_st hz eh_1 (by simp)) (zg_eq eh_1 hv) (fun e9 he9 => ?_)
        rcases Nat.lt_succ_iff_lt_or_eq.mp he9 with h1 | rfl
        · rw [pk_un (by omega)]; exact hc9 e9 h1
        · rw [pk_us]; unfold rIn
          exact (if_neg (fun z => htu.mpr z q_t)).symm
      · refine pw_aload_n d_Md_inward_58 rfl rfl ?_
        refine pw_get d_Md_inward_59 fl_Md_13 hm rfl ?_
        refine pw_iconst (x := 4) d_Md_inward_62 (by decide) ?_
        refine pw_iload_n d_Md_inward_63 rfl rfl ?_
        refine pw_imul d_Md_inward_64 ?_
        refine pw_iload d_Md_inward_65 rfl ?_
        refine pw_iadd d_Md_inward_67 ?_
        refine pw_iald d_Md_inward_68 h86 rfl (n4 f c) (by omega) (by decide) ?_
        refine pw_ineg d_Md_inward_69 ?_
        refine pw_goto 84 d_Md_inward_70 (by decide) ?_
        obtain ⟨h_2, eh_2⟩ : ∃ x_9, x_9 = List.set h (w) (.inl (0, 3, .inl (upd v c ((-(ml (4 * f + c))))))) := ⟨_, rfl⟩
        refine pw_iast rfl d_Md_inward_84 hv rfl rfl hcc (by decide) eh_2.symm ?_
        refine pw_iinc (y := nI (c + 1)) d_Md_inward_85 rfl (nI_1 c) (by decide) (pl' := [some (.ref 84), some (.int (nI k)), some (.int (nI f)), some (.ref w), some (.int (tu)), some (.int (nI (c + 1)))]) rfl ?_
        refine pw_goto 44 d_Md_inward_88 (by decide) ?_
        refine ih (c + 1) _ _ (by omega) (by omega) (zsm_st hz eh_2 (by simp)) (zg_eq eh_2 hv) (fun e9 he9 => ?_)
        rcases Nat.lt_succ_iff_lt_or_eq.mp he9 with h1 | rfl
        · rw [pk_un (by omega)]; exact hc9 e9 h1
        · rw [pk_us]; unfold rIn
          exact (if_pos (htu.mp q_t)).symm
set_option maxRecDepth 20000 in
set_option maxHeartbeats 2000000 in
theorem c_inward {G : zG} {h : zH} {th : Int32} {jn dr pn bl tn : Nat} (hm : zMo h th jn dr pn bl tn) {ml bs : Nat → Int32} (h86 : h[86]? = some (.inl (0, 48, .inl ml))) (h95 : h[95]? = some (.inl (0, 64, .inl bs))) {k f : Nat} (hk : k < 64) (hf : f < 12) {w : Nat} (hw : 100 ≤ w) {v : Nat → Int32} (hv : h[w]? = some (.inl (0, 3, .inl v))) : PW G M_Md_inward (zroom 0 0 0) false (fun r h' => r = .inl none ∧ ∃ v : Nat → Int32, h'[w]? = some (.inl (0, 3, .inl v)) ∧ zsm [w] h h' ∧ ∀ c, c < 3 → v c = rIn ml bs k f c) 0 (zentry 6 [.ref 84, .int (nI k), .int (nI f), .ref w]) [] h 0 0 := by
  show PW G M_Md_inward (zroom 0 0 0) false _ 0 [some (.ref 84), some (.int (nI k)), some (.int (nI f)), some (.ref w), none, none] [] h 0 0
  refine pw_iload_n d_Md_inward_0 rfl rfl ?_
  refine pw_bipush (x := 6) d_Md_inward_1 (by decide) ?_
  refine pw_icmp_lt 21 d_Md_inward_3 (by decide) (fun q_6 => ?_) (fun q_6 => ?_)
  · refine pw_aload_n d_Md_inward_21 rfl rfl ?_
    refine pw_get d_Md_inward_22 fl_Md_41 hm rfl ?_
    refine pw_iload_n d_Md_inward_25 rfl rfl ?_
    refine pw_iald d_Md_inward_26 h95 rfl rfl hk (by decide) ?_
    refine pw_iload_n d_Md_inward_27 rfl rfl ?_
    refine pw_ishr d_Md_inward_28 ?_
    refine pw_iconst (x := 1) d_Md_inward_29 (by decide) ?_
    refine pw_iand d_Md_inward_30 ?_
    refine pw_if_ne 38 d_Md_inward_31 (by decide) (fun q_b => ?_) (fun q_b => ?_)
    · refine pw_iconst (x := 0) d_Md_inward_38 (by decide) ?_
      refine pw_istore d_Md_inward_39 (by decide) (pl' := [some (.ref 84), some (.int (nI k)), some (.int (nI f)), some (.ref w), some (.int (0)), none]) rfl ?_
      refine pw_iconst (x := 0) d_Md_inward_41 (by decide) ?_
      refine pw_istore d_Md_inward_42 (by decide) (pl' := [some (.ref 84), some (.int (nI k)), some (.int (nI f)), some (.ref w), some (.int (0)), some (.int (0))]) rfl ?_
      have h6 : f < 6 := (nI_ltI (a := f) (b := 6) (by omega) (by decide)).mp q_6
      have e6 : rTu bs k f ↔ ¬ (bs k >>> (nI f &&& 31)) &&& 1 = 1 := by unfold rTu; rw [if_neg (by omega)]
      have htu : ¬ (0 : Int32) = 0 ↔ rTu bs k f := by rw [e6, ← zand01]; exact ⟨fun z => absurd rfl z, fun z => absurd z q_b⟩
      exact l_inward hm h86 hf hw htu 4 0 h v (by decide) (by decide) zsm_rf hv (fun e he => absurd he (Nat.not_lt_zero _))
    · refine pw_iconst (x := 1) d_Md_inward_34 (by decide) ?_
      refine pw_goto 39 d_Md_inward_35 (by decide) ?_
      refine pw_istore d_Md_inward_39 (by decide) (pl' := [some (.ref 84), some (.int (nI k)), some (.int (nI f)), some (.ref w), some (.int (1)), none]) rfl ?_
      refine pw_iconst (x := 0) d_Md_inward_41 (by decide) ?_
      refine pw_istore d_Md_inward_42 (by decide) (pl' := [some (.ref 84), some (.int (nI k)), some (.int (nI f)), some (.ref w), some (.int (1)), some (.int (0))]) rfl ?_
      have h6 : f < 6 := (nI_ltI (a := f) (b := 6) (by omega) (by decide)).mp q_6
      have e6 : rTu bs k f ↔ ¬ (bs k >>> (nI f &&& 31)) &&& 1 = 1 := by unfold rTu; rw [if_neg (by omega)]
      have htu : ¬ (1 : Int32) = 0 ↔ rTu bs k f := by rw [e6, ← zand01]; exact ⟨fun z => q_b, fun z => by decide⟩
      exact l_inward hm h86 hf hw htu 4 0 h v (by decide) (by decide) zsm_rf hv (fun e he => absurd he (Nat.not_lt_zero _))
  · refine pw_iload_n d_Md_inward_6 rfl rfl ?_
    refine pw_iconst (x := 2) d_Md_inward_7 (by decide) ?_
    refine pw_irem d_Md_inward_8 (by decide) ?_
    refine pw_iconst (x := 1) d_Md_inward_9 (by decide) ?_
    refine pw_icmp_ne 17 d_Md_inward_10 (by decide) (fun q_2 => ?_) (fun q_2 => ?_)
    · refine pw_iconst (x := 0) d_Md_inward_17 (by decide) ?_
      refine pw_goto 39 d_Md_inward_18 (by decide) ?_
      refine pw_istore d_Md_inward_39 (by decide) (pl' := [some (.ref 84), some (.int (nI k)), some (.int (nI f)), some (.ref w), some (.int (0)), none]) rfl ?_
      refine pw_iconst (x := 0) d_Md_inward_41 (by decide) ?_
      refine pw_istore d_Md_inward_42 (by decide) (pl' := [some (.ref 84), some (.int (nI k)), some (.int (nI f)), some (.ref w), some (.int (0)), some (.int (0))]) rfl ?_
      have h6 : 6 ≤ f := by have := mt (nI_ltI (a := f) (b := 6) (by omega) (by decide)).mpr q_6; omega
      have e6 : rTu bs k f ↔ f % 2 = 1 := by unfold rTu; rw [if_pos h6]
      have htu : ¬ (0 : Int32) = 0 ↔ rTu bs k f := by rw [e6, ← zmod2 f hf]; exact ⟨fun z => absurd rfl z, fun z => absurd z q_2⟩
      exact l_inward hm h86 hf hw htu 4 0 h v (by decide) (by decide) zsm_rf hv (fun e he => absurd he (Nat.not_lt_zero _))
    · refine pw_iconst (x := 1) d_Md_inward_13 (by decide) ?_
      refine pw_goto 39 d_Md_inward_14 (by decide) ?_
      refine pw_istore d_Md_inward_39 (by decide) (pl' := [some (.ref 84), some (.int (nI k)), some (.int (nI f)), some (.ref w), some (.int (1)), none]) rfl ?_
      refine pw_iconst (x := 0) d_Md_inward_41 (by decide) ?_
      refine pw_istore d_Md_inward_42 (by decide) (pl' := [some (.ref 84), some (.int (nI k)), some (.int (nI f)), some (.ref w), some (.int (1)), some (.int (0))]) rfl ?_
      have h6 : 6 ≤ f := by have := mt (nI_ltI (a := f) (b := 6) (by omega) (by decide)).mpr q_6; omega
      have e6 : rTu bs k f ↔ f % 2 = 1 := by unfold rTu; rw [if_pos h6]
      have htu : ¬ (1 : Int32) = 0 ↔ rTu bs k f := by rw [e6, ← zmod2 f hf]; exact ⟨fun z => q_2, fun z => by decide⟩
      exact l_inward hm h86 hf hw htu 4 0 h v (by decide) (by decide) zsm_rf hv (fun e he => absurd he (Nat.not_lt_zero _))
set_option maxRecDepth 20000 in
set_option maxHeartbeats 2000000 in
theorem l_canGo {G : zG} {h0 : zH} {jn dr pn bl tn : Nat} (hm0 : zMo h0 0 jn dr pn bl tn) {ml bs bf mo vw : Nat → Int32} (h860 : h0[86]? = some (.inl (0, 48, .inl ml))) (h950 : h0[95]? = some (.inl (0, 64, .inl bs))) (h960 : h0[96]? = some (.inl (0, 64, .inl bf))) (h870 : h0[87]? = some (.inl (1, 12, .inl mo))) (h1020 : h0[102]? = some (.inl (0, 3, .inl vw))) {tk : Nat → Int32} (h970 : h0[97]? = some (.inl (1, 64, .inl tk))) (hbl : bl ≤ 64) {k : Nat} (hk : k < 64) (hfx : ∀ f, f < 6 → (bf k >>> (nI f &&& 31)) &&& 1 = 1 → ∃ o, o < bl ∧ bs o = (bs k ^^^ (1 <<< ((nI f) &&& 31)))) : ∀ (n f : Nat) (h : zH) (can : Int32) (vo : Nat → Int32), 12 - f < n → f ≤ 12 → zsm [103] h0 h → h[103]? = some (.inl (0, 3, .inl vo)) → ((can = 1 ∧ (tk k = 0 ∧ ¬ (vw 0 = 0 ∧ vw 1 = 0 ∧ vw 2 = 0)) ∧ (∀ e, e < f → rHd mo tk bs bf bl k e → ¬ (vw 0 * rIn ml bs k e 0 + vw 1 * rIn ml bs k e 1 + vw 2 * rIn ml bs k e 2 < 0))) ∨ (can = 0 ∧ ¬ (tk k = 0 ∧ rGo ml mo tk bs bf bl k (vw 0) (vw 1) (vw 2)))) → PW G M_Md_canGo (zroom 2 0 0) false (fun r h' => ∃ t : Int32, r = .inl (some (.int t)) ∧ (∃ vo, h'[103]? = some (.inl (0, 3, .inl vo))) ∧ zsm [103] h0 h' ∧ ((t = 1 ∧ tk k = 0 ∧ rGo ml mo tk bs bf bl k (vw 0) (vw 1) (vw 2)) ∨ (t = 0 ∧ ¬ (tk k = 0 ∧ rGo ml mo tk bs bf bl k (vw 0) (vw 1) (vw 2))))) 44 [some (.ref 84), some (.int (nI k)), some (.int can), some (.int (nI f))] [] h 0 0 := by
  intro n
  induction n with
  | zero => intro f h can vo hn; exact absurd hn (Nat.not_lt_zero _)
  | succ n ih =>
    intro f h can vo hn hf hz h103 hI
    have h86 := zsm_at hz (by decide) h860
    have h95 := zsm_at hz (by decide) h950
    have h96 := zsm_at hz (by decide) h960
    have h87 := zsm_at hz (by decide) h870
    have h102 := zsm_at hz (by decide) h1020
    have h97 := zsm_at hz (by decide) h970
    have hm := zsm_at hz (by decide) hm0
    refine pw_iload_n d_Md_canGo_44 rfl rfl ?_
    refine pw_bipush (x := 12) d_Md_canGo_45 (by decide) ?_
    refine pw_icmp_ge 99 d_Md_canGo_47 (by decide) (fun q_c => ?_) (fun q_c => ?_)
    · refine pw_iload_n d_Md_canGo_99 rfl rfl ?_
      refine pw_zreturn d_Md_canGo_100 rfl (by rcases hI with ⟨rfl, -⟩ | ⟨rfl, -⟩; exact Or.inr rfl; exact Or.inl rfl) (by decide) (by decide) ?_
      have hfc : f = 12 := by have := (nI_leI (a := 12) (b := f) (by decide) (by omega)).mp q_c; omega
      subst hfc
      rcases hI with ⟨rfl, e1, e2⟩ | ⟨rfl, e1⟩
      · exact ⟨1, rfl, ⟨_, h103⟩, hz, Or.inl ⟨rfl, e1.1, e1.2, e2⟩⟩
      · exact ⟨0, rfl, ⟨_, h103⟩, hz, Or.inr ⟨rfl, e1⟩⟩
    · have hfc : f < 12 := by have := mt (nI_leI (a := 12) (b := f) (by decide) (by omega)).mpr q_c; omega
      refine pw_iload_n d_Md_canGo_50 rfl rfl ?_
      refine pw_if_eq 99 d_Md_canGo_51 (by decide) (fun q_a => ?_) (fun q_a => ?_)
      · refine pw_iload_n d_Md_canGo_99 rfl rfl ?_
        refine pw_zreturn d_Md_canGo_100 rfl (by rcases hI with ⟨rfl, -⟩ | ⟨rfl, -⟩; exact Or.inr rfl; exact Or.inl rfl) (by decide) (by decide) ?_
        rcases hI with ⟨rfl, -⟩ | ⟨rfl, e1⟩
        · exact absurd q_a (by decide)
        · exact ⟨0, rfl, ⟨_, h103⟩, hz, Or.inr ⟨rfl, e1⟩⟩
      · obtain ⟨rfl, hcan⟩ : can = 1 ∧ _ := hI.resolve_right (fun z => q_a z.1)
        refine pw_aload_n d_Md_canGo_54 rfl rfl ?_
        refine pw_iload_n d_Md_canGo_55 rfl rfl ?_
        refine pw_iload_n d_Md_canGo_56 rfl rfl ?_
        refine pw_callVt (R' := (zroom 1 0 0)) [.int (nI k), .int (nI f)] (fun q => nomatch q) d_Md_canGo_57 lk_Md_167 hm rfl rfl rfl (c_holds hm h95 h96 h87 h97 hbl hk hfx hfc) (fun t ht => ?_)
        refine pw_if_eq 93 d_Md_canGo_60 (by decide) (fun q_h => ?_) (fun q_h => ?_)
        · refine pw_iinc (y := nI (f + 1)) d_Md_canGo_93 rfl (nI_1 f) (by decide) (pl' := [some (.ref 84), some (.int (nI k)), some (.int (1)), some (.int (nI (f + 1)))]) rfl ?_
          refine pw_goto 44 d_Md_canGo_96 (by decide) ?_
          have hh9 : ¬ rHd mo tk bs bf bl k f := by rcases ht with ⟨e, -⟩ | ⟨-, h1⟩; exact absurd (e.symm.trans q_h) (by decide); exact h1
          exact ih (f + 1) h _ _ (by omega) (by omega) hz h103 (Or.inl ⟨rfl, hcan.1, fun e he hh => by rcases Nat.lt_succ_iff_lt_or_eq.mp he with h1 | rfl; exact hcan.2 e h1 hh; exact absurd hh hh9⟩)
        · refine pw_aload_n d_Md_canGo_63 rfl rfl ?_
          refine pw_iload_n d_Md_canGo_64 rfl rfl ?_
          refine pw_iload_n d_Md_canGo_65 rfl rfl ?_
          refine pw_aload_n d_Md_canGo_66 rfl rfl ?_
          refine pw_get d_Md_canGo_67 fl_Md_65 hm rfl ?_
          refine pw_callVu (R' := (zroom 0 0 0)) [.int (nI k), .int (nI f), .ref 103] (fun q => nomatch q) d_Md_canGo_70 lk_Md_170 hm rfl rfl rfl (c_inward hm h86 h95 hk hfc (w := 103) (by decide) h103) (fun h1 hh => ?_)
          obtain ⟨v1, k1, k2, k3⟩ := hh
          refine pw_aload_n d_Md_canGo_73 rfl rfl ?_
          refine pw_get d_Md_canGo_74 fl_Md_62 (zsm_at k2 (by decide) hm) rfl ?_
          refine pw_aload_n d_Md_canGo_77 rfl rfl ?_
          refine pw_get d_Md_canGo_78 fl_Md_65 (zsm_at k2 (by decide) hm) rfl ?_
          refine pw_callS1 (R' := (zroom 0 0 0)) (h2 := h1) [.ref 102, .ref 103] (fun q => nomatch q) d_Md_canGo_81 lk_Md_174 rfl rfl (c_mtimes (zsm_at k2 (by decide) h102) k1) ?_
          refine pw_if_lt 91 d_Md_canGo_84 (by decide) (fun q_n => ?_) (fun q_n => ?_)
          · refine pw_iconst (x := 0) d_Md_canGo_91 (by decide) ?_
            refine pw_istore_n d_Md_canGo_92 rfl (by decide) (pl' := [some (.ref 84), some (.int (nI k)), some (.int (0)), some (.int (nI f))]) rfl ?_
            refine pw_iinc (y := nI (f + 1)) d_Md_canGo_93 rfl (nI_1 f) (by decide) (pl' := [some (.ref 84), some (.int (nI k)), some (.int (0)), some (.int (nI (f + 1)))]) rfl ?_
            refine pw_goto 44 d_Md_canGo_96 (by decide) ?_
            have hh9 : rHd mo tk bs bf bl k f := by rcases ht with ⟨-, h1⟩ | ⟨e, -⟩; exact h1; exact absurd e q_h
            rw [k3 0 (by decide), k3 1 (by decide), k3 2 (by decide)] at q_n
            exact ih (f + 1) h1 _ _ (by omega) (by omega) (zsm_tr hz k2 (fun _ q => q)) k1 (Or.inr ⟨rfl, fun z => z.2.2 f hfc hh9 q_n⟩)
          · refine pw_iconst (x := 1) d_Md_canGo_87 (by decide) ?_
            refine pw_goto 92 d_Md_canGo_88 (by decide) ?_
            refine pw_istore_n d_Md_canGo_92 rfl (by decide) (pl' := [some (.ref 84), some (.int (nI k)), some (.int (1)), some (.int (nI f))]) rfl ?_
            refine pw_iinc (y := nI (f + 1)) d_Md_canGo_93 rfl (nI_1 f) (by decide) (pl' := [some (.ref 84), some (.int (nI k)), some (.int (1)), some (.int (nI (f + 1)))]) rfl ?_
            refine pw_goto 44 d_Md_canGo_96 (by decide) ?_
            have hh9 : rHd mo tk bs bf bl k f := by rcases ht with ⟨-, h1⟩ | ⟨e, -⟩; exact h1; exact absurd e q_h
            rw [k3 0 (by decide), k3 1 (by decide), k3 2 (by decide)] at q_n
            exact ih (f + 1) h1 _ _ (by omega) (by omega) (zsm_tr hz k2 (fun _ q => q)) k1 (Or.inl ⟨rfl, hcan.1, fun e he hh => by rcases Nat.lt_succ_iff_lt_or_eq.mp he with h1 | rfl; exact hcan.2 e h1 hh; exact q_n⟩)
set_option maxRecDepth 20000 in
set_option maxHeartbeats 2000000 in
theorem c_canGo {G : zG} {h : zH} {jn dr pn bl tn : Nat} (hm : zMo h 0 jn dr pn bl tn) {ml bs bf mo : Nat → Int32} (h86 : h[86]? = some (.inl (0, 48, .inl ml))) (h95 : h[95]? = some (.inl (0, 64, .inl bs))) (h96 : h[96]? = some (.inl (0, 64, .inl bf))) (h87 : h[87]? = some (.inl (1, 12, .inl mo))) {tk : Nat → Int32} (h97 : h[97]? = some (.inl (1, 64, .inl tk))) (hbl : bl ≤ 64) {k : Nat} (hk : k < 64) (hfx : ∀ f, f < 6 → (bf k >>> (nI f &&& 31)) &&& 1 = 1 → ∃ o, o < bl ∧ bs o = (bs k ^^^ (1 <<< ((nI f) &&& 31)))) {vw : Nat → Int32} (h102 : h[102]? = some (.inl (0, 3, .inl vw))) {vo : Nat → Int32} (h103 : h[103]? = some (.inl (0, 3, .inl vo))) : PW G M_Md_canGo (zroom 2 0 0) false (fun r h' => ∃ t : Int32, r = .inl (some (.int t)) ∧ (∃ vo, h'[103]? = some (.inl (0, 3, .inl vo))) ∧ zsm [103] h h' ∧ ((t = 1 ∧ tk k = 0 ∧ rGo ml mo tk bs bf bl k (vw 0) (vw 1) (vw 2)) ∨ (t = 0 ∧ ¬ (tk k = 0 ∧ rGo ml mo tk bs bf bl k (vw 0) (vw 1) (vw 2))))) 0 (zentry 4 [.ref 84, .int (nI k)]) [] h 0 0 := by
  show PW G M_Md_canGo (zroom 2 0 0) false _ 0 [some (.ref 84), some (.int (nI k)), none, none] [] h 0 0
  refine pw_aload_n d_Md_canGo_0 rfl rfl ?_
  refine pw_get d_Md_canGo_1 fl_Md_47 hm rfl ?_
  refine pw_iload_n d_Md_canGo_4 rfl rfl ?_
  refine pw_zald d_Md_canGo_5 h97 rfl rfl hk (by decide) ?_
  refine pw_if_ne 40 d_Md_canGo_6 (by decide) (fun q_t => ?_) (fun q_t => ?_)
  · refine pw_iconst (x := 0) d_Md_canGo_40 (by decide) ?_
    refine pw_istore_n d_Md_canGo_41 rfl (by decide) (pl' := [some (.ref 84), some (.int (nI k)), some (.int (0)), none]) rfl ?_
    refine pw_iconst (x := 0) d_Md_canGo_42 (by decide) ?_
    refine pw_istore_n d_Md_canGo_43 rfl (by decide) (pl' := [some (.ref 84), some (.int (nI k)), some (.int (0)), some (.int (0))]) rfl ?_
    exact l_canGo hm h86 h95 h96 h87 h102 h97 hbl hk hfx 13 0 h 0 vo (by decide) (by decide) zsm_rf h103 (Or.inr ⟨rfl, fun z => q_t z.1⟩)
  · refine pw_aload_n d_Md_canGo_9 rfl rfl ?_
    refine pw_get d_Md_canGo_10 fl_Md_62 hm rfl ?_
    refine pw_iconst (x := 0) d_Md_canGo_13 (by decide) ?_
    refine pw_iald d_Md_canGo_14 h102 rfl rfl (by decide) (by decide) ?_
    refine pw_if_ne 36 d_Md_canGo_15 (by decide) (fun q_0 => ?_) (fun q_0 => ?_)
    · refine pw_iconst (x := 1) d_Md_canGo_36 (by decide) ?_
      refine pw_goto 41 d_Md_canGo_37 (by decide) ?_
      refine pw_istore_n d_Md_canGo_41 rfl (by decide) (pl' := [some (.ref 84), some (.int (nI k)), some (.int (1)), none]) rfl ?_
      refine pw_iconst (x := 0) d_Md_canGo_42 (by decide) ?_
      refine pw_istore_n d_Md_canGo_43 rfl (by decide) (pl' := [some (.ref 84), some (.int (nI k)), some (.int (1)), some (.int (0))]) rfl ?_
      exact l_canGo hm h86 h95 h96 h87 h102 h97 hbl hk hfx 13 0 h 1 vo (by decide) (by decide) zsm_rf h103 (Or.inl ⟨rfl, ⟨q_t, fun z => q_0 z.1⟩, fun e he => absurd he (Nat.not_lt_zero _)⟩)
    · refine pw_aload_n d_Md_canGo_18 rfl rfl ?_
      refine pw_get d_Md_canGo_19 fl_Md_62 hm rfl ?_
      refine pw_iconst (x := 1) d_Md_canGo_22 (by decide) ?_
      refine pw_iald d_Md_canGo_23 h102 rfl rfl (by decide) (by decide) ?_
      refine pw_if_ne 36 d_Md_canGo_24 (by decide) (fun q_1 => ?_) (fun q_1 => ?_)
      · refine pw_iconst (x := 1) d_Md_canGo_36 (by decide) ?_
        refine pw_goto 41 d_Md_canGo_37 (by decide) ?_
        refine pw_istore_n d_Md_canGo_41 rfl (by decide) (pl' := [some (.ref 84), some (.int (nI k)), some (.int (1)), none]) rfl ?_
        refine pw_iconst (x := 0) d_Md_canGo_42 (by decide) ?_
        refine pw_istore_n d_Md_canGo_43 rfl (by decide) (pl' := [some (.ref 84), some (.int (nI k)), some (.int (1)), some (.int (0))]) rfl ?_
        exact l_canGo hm h86 h95 h96 h87 h102 h97 hbl hk hfx 13 0 h 1 vo (by decide) (by decide) zsm_rf h103 (Or.inl ⟨rfl, ⟨q_t, fun z => q_1 z.2.1⟩, fun e he => absurd he (Nat.not_lt_zero _)⟩)
      · refine pw_aload_n d_Md_canGo_27 rfl rfl ?_
        refine pw_get d_Md_canGo_28 fl_Md_62 hm rfl ?_
        refine pw_iconst (x := 2) d_Md_canGo_31 (by decide) ?_
        refine pw_iald d_Md_canGo_32 h102 rfl rfl (by decide) (by decide) ?_
        refine pw_if_eq 40 d_Md_canGo_33 (by decide) (fun q_2 => ?_) (fun q_2 => ?_)
        · refine pw_iconst (x := 0) d_Md_canGo_40 (by decide) ?_
          refine pw_istore_n d_Md_canGo_41 rfl (by decide) (pl' := [some (.ref 84), some (.int (nI k)), some (.int (0)), none]) rfl ?_
          refine pw_iconst (x := 0) d_Md_canGo_42 (by decide) ?_
          refine pw_istore_n d_Md_canGo_43 rfl (by decide) (pl' := [some (.ref 84), some (.int (nI k)), some (.int (0)), some (.int (0))]) rfl ?_
          exact l_canGo hm h86 h95 h96 h87 h102 h97 hbl hk hfx 13 0 h 0 vo (by decide) (by decide) zsm_rf h103 (Or.inr ⟨rfl, fun z => z.2.1 ⟨q_0, q_1, q_2⟩⟩)
        · refine pw_iconst (x := 1) d_Md_canGo_36 (by decide) ?_
          refine pw_goto 41 d_Md_canGo_37 (by decide) ?_
          refine pw_istore_n d_Md_canGo_41 rfl (by decide) (pl' := [some (.ref 84), some (.int (nI k)), some (.int (1)), none]) rfl ?_
          refine pw_iconst (x := 0) d_Md_canGo_42 (by decide) ?_
          refine pw_istore_n d_Md_canGo_43 rfl (by decide) (pl' := [some (.ref 84), some (.int (nI k)), some (.int (1)), some (.int (0))]) rfl ?_
          exact l_canGo hm h86 h95 h96 h87 h102 h97 hbl hk hfx 13 0 h 1 vo (by decide) (by decide) zsm_rf h103 (Or.inl ⟨rfl, ⟨q_t, fun z => q_2 z.2.2⟩, fun e he => absurd he (Nat.not_lt_zero _)⟩)
