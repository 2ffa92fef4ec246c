set_option maxRecDepth 20000 in
set_option maxHeartbeats 2000000 in
theorem l_canGoBy {G : zG} {h0 : zH} {jn dr pn bl tn : Nat} (hm0 : zMo h0 0 jn dr pn bl tn) {ml bs bf mo mT : Nat → Int32} (h860 : h0[86]? = some (.inl (0, 48, .inl ml))) (h950 : h0[95]? = some (.inl (0, 64, .inl bs))) (h960 : h0[96]? = some (.inl (0, 64, .inl bf))) (h870 : h0[87]? = some (.inl (1, 12, .inl mo))) (h880 : h0[88]? = some (.inl (0, 24, .inl mT))) {tk : Nat → Int32} (h970 : h0[97]? = some (.inl (1, 64, .inl tk))) (hbl : bl ≤ 64) {k : Nat} (hk : k < 64) (hfx : ∀ f, f < 6 → (bf k >>> (nI f &&& 31)) &&& 1 = 1 → ∃ o, o < bl ∧ bs o = (bs k ^^^ (1 <<< ((nI f) &&& 31)))) {vo : Nat → Int32} (h1030 : h0[103]? = some (.inl (0, 3, .inl vo))) {d : Nat} (hd : d < 8) : ∀ (n c : Nat) (h : zH) (vw : Nat → Int32), 3 - c < n → c ≤ 3 → zsm [102] h0 h → h[102]? = some (.inl (0, 3, .inl vw)) → (∀ e, e < c → vw e = mT (3 * d + e)) → PW G M_Md_canGoBy (zroom 3 0 0) false (fun r h' => ∃ t : Int32, r = .inl (some (.int t)) ∧ (∃ v, h'[102]? = some (.inl (0, 3, .inl v))) ∧ (∃ v, h'[103]? = some (.inl (0, 3, .inl v))) ∧ zsm [102, 103] h0 h' ∧ ((t = 1 ∧ tk k = 0 ∧ rGo ml mo tk bs bf bl k (mT (3 * d)) (mT (3 * d + 1)) (mT (3 * d + 2))) ∨ (t = 0 ∧ ¬ (tk k = 0 ∧ rGo ml mo tk bs bf bl k (mT (3 * d)) (mT (3 * d + 1)) (mT (3 * d + 2)))))) 2 [some (.ref 84), some (.int (nI k)), some (.int (nI d)), some (.int (nI c))] [] h 0 0 := by
  intro n
  induction n with
  | zero => intro c h vw hn; exact absurd hn (Nat.not_lt_zero _)
  | succ n ih =>
    intro c h vw hn hc hz h102 hv
    have h86 := zsm_at hz (by decide) h860
    have h95 := zsm_at hz (by decide) h950
    have h96 := zsm_at hz (by decide) h960
    have h87 := zsm_at hz (by decide) h870
    have h88 := zsm_at hz (by decide) h880
    have h97 := zsm_at hz (by decide) h970
    have h103 := zsm_at hz (by decide) h1030
    have hm := zsm_at hz (by decide) hm0
    refine pw_iload_n d_Md_canGoBy_2 rfl rfl ?_
    refine pw_iconst (x := 3) d_Md_canGoBy_3 (by decide) ?_
    refine pw_icmp_ge 29 d_Md_canGoBy_4 (by decide) (fun q_c => ?_) (fun q_c => ?_)
    · have hcc : c = 3 := by have := (nI_leI (a := 3) (b := c) (by decide) (by omega)).mp q_c; omega
      subst hcc
      refine pw_aload_n d_Md_canGoBy_29 rfl rfl ?_
      refine pw_iload_n d_Md_canGoBy_30 rfl rfl ?_
      refine pw_callVw (R' := (zroom 2 0 0)) [.int (nI k)] (fun q => nomatch q) d_Md_canGoBy_31 lk_Md_178 hm rfl rfl rfl (c_canGo hm h86 h95 h96 h87 h97 hbl hk hfx h102 h103) (fun t h9 hh => ?_)
      refine pw_zreturn d_Md_canGoBy_34 rfl (by rcases hh.2.2 with ⟨e, -⟩ | ⟨e, -⟩; exact Or.inr e; exact Or.inl e) (by decide) (by decide) ?_
      have e0 := hv 0 (by decide)
      have e1 := hv 1 (by decide)
      have e2 := hv 2 (by decide)
      obtain ⟨k1, k2, k3⟩ := hh
      rw [e0, e1, e2] at k3
      exact ⟨t, rfl, ⟨_, zsm_at k2 (by decide) h102⟩, k1, zsm_tr (zsm_tr zsm_rf hz (by decide)) k2 (by decide), k3⟩
    · have hcc : c < 3 := by have := mt (nI_leI (a := 3) (b := c) (by decide) (by omega)).mpr q_c; omega
      refine pw_aload_n d_Md_canGoBy_7 rfl rfl ?_
      refine pw_get d_Md_canGoBy_8 fl_Md_62 hm rfl ?_
      refine pw_iload_n d_Md_canGoBy_11 rfl rfl ?_
      refine pw_aload_n d_Md_canGoBy_12 rfl rfl ?_
      refine pw_get d_Md_canGoBy_13 fl_Md_20 hm rfl ?_
      refine pw_iconst (x := 3) d_Md_canGoBy_16 (by decide) ?_
      refine pw_iload_n d_Md_canGoBy_17 rfl rfl ?_
      refine pw_imul d_Md_canGoBy_18 ?_
      refine pw_iload_n d_Md_canGoBy_19 rfl rfl ?_
      refine pw_iadd d_Md_canGoBy_20 ?_
      refine pw_iald d_Md_canGoBy_21 h88 rfl (n3 d c) (by omega) (by decide) ?_
      obtain ⟨h_1, eh_1⟩ : ∃ x_9, x_9 = List.set h (102) (.inl (0, 3, .inl (upd vw c (mT (3 * d + c))))) := ⟨_, rfl⟩
      refine pw_iast rfl d_Md_canGoBy_22 h102 rfl rfl hcc (by decide) eh_1.symm ?_
      refine pw_iinc (y := nI (c + 1)) d_Md_canGoBy_23 rfl (nI_1 c) (by decide) (pl' := [some (.ref 84), some (.int (nI k)), some (.int (nI d)), some (.int (nI (c + 1)))]) rfl ?_
      refine pw_goto 2 d_Md_canGoBy_26 (by decide) ?_
      refine ih (c + 1) _ _ (by omega) (by omega) (zsm_st hz eh_1 (by decide)) (zg_eq eh_1 h102) (fun e9 he9 => ?_)
      rcases Nat.lt_succ_iff_lt_or_eq.mp he9 with h1 | rfl
      · rw [pk_un (by omega)]; exact hv e9 h1
      · exact pk_us
set_option maxRecDepth 20000 in
set_option maxHeartbeats 2000000 in
theorem c_canGoBy {G : zG} {h : zH} {jn dr pn bl tn : Nat} (hm : zMo h 0 jn dr pn bl tn) {ml bs bf mo mT : Nat → Int32} (h86 : h[86]? = some (.inl (0, 48, .inl ml))) (h95 : h[95]? = some (.inl (0, 64, .inl bs))) (h96 : h[96]? = some (.inl (0, 64, .inl bf))) (h87 : h[87]? = some (.inl (1, 12, .inl mo))) (h88 : h[88]? = some (.inl (0, 24, .inl mT))) {tk : Nat → Int32} (h97 : h[97]? = some (.inl (1, 64, .inl tk))) (hbl : bl ≤ 64) {k : Nat} (hk : k < 64) (hfx : ∀ f, f < 6 → (bf k >>> (nI f &&& 31)) &&& 1 = 1 → ∃ o, o < bl ∧ bs o = (bs k ^^^ (1 <<< ((nI f) &&& 31)))) (h102 : ∃ v, h[102]? = some (.inl (0, 3, .inl v))) (h103 : ∃ v, h[103]? = some (.inl (0, 3, .inl v))) {d : Nat} (hd : d < 8) : PW G M_Md_canGoBy (zroom 3 0 0) false (fun r h' => ∃ t : Int32, r = .inl (some (.int t)) ∧ (∃ v, h'[102]? = some (.inl (0, 3, .inl v))) ∧ (∃ v, h'[103]? = some (.inl (0, 3, .inl v))) ∧ zsm [102, 103] h h' ∧ ((t = 1 ∧ tk k = 0 ∧ rGo ml mo tk bs bf bl k (mT (3 * d)) (mT (3 * d + 1)) (mT (3 * d + 2))) ∨ (t = 0 ∧ ¬ (tk k = 0 ∧ rGo ml mo tk bs bf bl k (mT (3 * d)) (mT (3 * d + 1)) (mT (3 * d + 2)))))) 0 (zentry 4 [.ref 84, .int (nI k), .int (nI d)]) [] h 0 0 := by
  show PW G M_Md_canGoBy (zroom 3 0 0) false _ 0 [some (.ref 84), some (.int (nI k)), some (.int (nI d)), none] [] h 0 0
  obtain ⟨vw, h102⟩ := h102
  obtain ⟨vo, h103⟩ := h103
  refine pw_iconst (x := 0) d_Md_canGoBy_0 (by decide) ?_
  refine pw_istore_n d_Md_canGoBy_1 rfl (by decide) (pl' := [some (.ref 84), some (.int (nI k)), some (.int (nI d)), some (.int (0))]) rfl ?_
  exact l_canGoBy hm h86 h95 h96 h87 h88 h97 hbl hk hfx h103 hd 4 0 h vw (by decide) (by decide) zsm_rf h102 (fun e he => absurd he (Nat.not_lt_zero _))
/-- the least direction along which block k goes is t, or it is none -/
def rLd (ml mo tk bs bf mT : Nat → Int32) (bl dr k : Nat) (t : Int32) : Prop := (∃ d, d < dr ∧ t = nI d ∧ tk k = 0 ∧ rGo ml mo tk bs bf bl k (mT (3 * d)) (mT (3 * d + 1)) (mT (3 * d + 2)) ∧ ∀ e, e < d → ¬ (tk k = 0 ∧ rGo ml mo tk bs bf bl k (mT (3 * e)) (mT (3 * e + 1)) (mT (3 * e + 2)))) ∨ (t = -1 ∧ ∀ d, d < dr → ¬ (tk k = 0 ∧ rGo ml mo tk bs bf bl k (mT (3 * d)) (mT (3 * d + 1)) (mT (3 * d + 2))))
abbrev rTP : List Nat := [84, 97, 98, 99, 102, 103]
set_option maxRecDepth 20000 in
set_option maxHeartbeats 2000000 in
theorem l_taking {G : zG} {h0 : zH} {jn dr pn bl tn : Nat} (hm0 : zMo h0 0 jn dr pn bl tn) {ml bs bf mo mT tB tY : Nat → Int32} (h860 : h0[86]? = some (.inl (0, 48, .inl ml))) (h950 : h0[95]? = some (.inl (0, 64, .inl bs))) (h960 : h0[96]? = some (.inl (0, 64, .inl bf))) (h870 : h0[87]? = some (.inl (1, 12, .inl mo))) (h880 : h0[88]? = some (.inl (0, 24, .inl mT))) (h980 : h0[98]? = some (.inl (0, 64, .inl tB))) (h990 : h0[99]? = some (.inl (0, 64, .inl tY))) {tk : Nat → Int32} (h970 : h0[97]? = some (.inl (1, 64, .inl tk))) (hbl : bl ≤ 64) {k : Nat} (hk : k < 64) (hfx : ∀ f, f < 6 → (bf k >>> (nI f &&& 31)) &&& 1 = 1 → ∃ o, o < bl ∧ bs o = (bs k ^^^ (1 <<< ((nI f) &&& 31)))) (hdr : dr ≤ 8) (htn : tk k = 0 → tn < 64) : ∀ (n i : Nat) (h : zH), dr - i < n → i ≤ dr → zsm [102, 103] h0 h → (∃ v, h[102]? = some (.inl (0, 3, .inl v))) → (∃ v, h[103]? = some (.inl (0, 3, .inl v))) → (∀ j, j < i → ¬ (tk k = 0 ∧ rGo ml mo tk bs bf bl k (mT (3 * j)) (mT (3 * j + 1)) (mT (3 * j + 2)))) → PW G M_Md_taking (zroom 4 0 0) false (fun r h' => ∃ t : Int32, r = .inl (some (.int t)) ∧ rLd ml mo tk bs bf mT bl dr k t ∧ (∃ v, h'[102]? = some (.inl (0, 3, .inl v))) ∧ (∃ v, h'[103]? = some (.inl (0, 3, .inl v))) ∧ zsm rTP h0 h' ∧ ((t = -1 ∧ zMo h' 0 jn dr pn bl tn ∧ h'[97]? = some (.inl (1, 64, .inl tk)) ∧ h'[98]? = some (.inl (0, 64, .inl tB)) ∧ h'[99]? = some (.inl (0, 64, .inl tY))) ∨ (t ≠ -1 ∧ zMo h' 0 jn dr pn bl (tn + 1) ∧ h'[97]? = some (.inl (1, 64, .inl (upd tk k 1))) ∧ h'[98]? = some (.inl (0, 64, .inl (upd tB tn (nI k)))) ∧ h'[99]? = some (.inl (0, 64, .inl (upd tY tn t)))))) 2 [some (.ref 84), some (.int (nI k)), some (.int (nI i))] [] h 0 0 := by
  intro n
  induction n with
  | zero => intro i h hn; exact absurd hn (Nat.not_lt_zero _)
  | succ n ih =>
    intro i h hn hi hz h102 h103 hv
    have h86 := zsm_at hz (by decide) h860
    have h95 := zsm_at hz (by decide) h950
    have h96 := zsm_at hz (by decide) h960
    have h87 := zsm_at hz (by decide) h870
    have h88 := zsm_at hz (by decide) h880
    have h97 := zsm_at hz (by decide) h970
    have h98 := zsm_at hz (by decide) h980
    have h99 := zsm_at hz (by decide) h990
    have hm := zsm_at hz (by decide) hm0
    refine pw_iload_n d_Md_taking_2 rfl rfl ?_
    refine pw_aload_n d_Md_taking_3 rfl rfl ?_
    refine pw_get d_Md_taking_4 fl_Md_146 hm rfl ?_
    refine pw_icmp_ge 64 d_Md_taking_7 (by decide) (fun q_c => ?_) (fun q_c => ?_)
    · refine pw_iconst (x := (-1)) d_Md_taking_64 (by decide) ?_
      refine pw_ireturn d_Md_taking_65 rfl (by decide) (by decide) ?_
      have hic : i = dr := by have := (nI_leI (a := dr) (b := i) (by omega) (by omega)).mp q_c; omega
      subst hic
      exact ⟨-1, rfl, Or.inr ⟨rfl, hv⟩, h102, h103, zsm_tr zsm_rf hz (by decide), Or.inl ⟨rfl, hm, h97, h98, h99⟩⟩
    · have hic : i < dr := by have := mt (nI_leI (a := dr) (b := i) (by omega) (by omega)).mpr q_c; omega
      refine pw_aload_n d_Md_taking_10 rfl rfl ?_
      refine pw_iload_n d_Md_taking_11 rfl rfl ?_
      refine pw_iload_n d_Md_taking_12 rfl rfl ?_
      refine pw_callVw (R' := (zroom 3 0 0)) [.int (nI k), .int (nI i)] (fun q => nomatch q) d_Md_taking_13 lk_Md_181 hm rfl rfl rfl (c_canGoBy hm h86 h95 h96 h87 h88 h97 hbl hk hfx h102 h103 (show i < 8 by omega)) (fun t h9 hh => ?_)
      refine pw_if_eq 58 d_Md_taking_16 (by decide) (fun q_t => ?_) (fun q_t => ?_)
      · refine pw_iinc (y := nI (i + 1)) d_Md_taking_58 rfl (nI_1 i) (by decide) (pl' := [some (.ref 84), some (.int (nI k)), some (.int (nI (i + 1)))]) rfl ?_
        refine pw_goto 2 d_Md_taking_61 (by decide) ?_
        have hno : ¬ (tk k = 0 ∧ rGo ml mo tk bs bf bl k (mT (3 * i)) (mT (3 * i + 1)) (mT (3 * i + 2))) := by rcases hh.2.2.2 with ⟨e, -⟩ | ⟨-, h1⟩; exact absurd (e.symm.trans q_t) (by decide); exact h1
        exact ih (i + 1) h9 (by omega) (by omega) (zsm_tr hz hh.2.2.1 (by decide)) hh.1 hh.2.1 (fun j hj => by rcases Nat.lt_succ_iff_lt_or_eq.mp hj with h1 | rfl; exact hv j h1; exact hno)
      · have htn9 : tn < 64 := htn (by rcases hh.2.2.2 with ⟨-, h1, -⟩ | ⟨e, -⟩; exact h1; exact absurd e q_t)
        refine pw_aload_n d_Md_taking_19 rfl rfl ?_
        refine pw_get d_Md_taking_20 fl_Md_47 (zsm_at hh.2.2.1 (by decide) hm) rfl ?_
        refine pw_iload_n d_Md_taking_23 rfl rfl ?_
        refine pw_iconst (x := 1) d_Md_taking_24 (by decide) ?_
        obtain ⟨h_1, eh_1⟩ : ∃ x_9, x_9 = List.set h9 (97) (.inl (1, 64, .inl (upd tk k (1)))) := ⟨_, rfl⟩
        refine pw_zast rfl d_Md_taking_25 (zsm_at hh.2.2.1 (by decide) h97) rfl rfl hk (by decide) (Or.inr rfl) eh_1.symm ?_
        refine pw_aload_n d_Md_taking_26 rfl rfl ?_
        refine pw_get d_Md_taking_27 fl_Md_50 (zg_ne eh_1 (by decide) (zsm_at hh.2.2.1 (by decide) hm)) rfl ?_
        refine pw_aload_n d_Md_taking_30 rfl rfl ?_
        refine pw_get d_Md_taking_31 fl_Md_114 (zg_ne eh_1 (by decide) (zsm_at hh.2.2.1 (by decide) hm)) rfl ?_
        refine pw_iload_n d_Md_taking_34 rfl rfl ?_
        obtain ⟨h_2, eh_2⟩ : ∃ x_9, x_9 = List.set h_1 (98) (.inl (0, 64, .inl (upd tB tn (nI k)))) := ⟨_, rfl⟩
        refine pw_iast rfl d_Md_taking_35 (zg_ne eh_1 (by decide) (zsm_at hh.2.2.1 (by decide) h98)) rfl rfl htn9 (by decide) eh_2.symm ?_
        refine pw_aload_n d_Md_taking_36 rfl rfl ?_
        refine pw_get d_Md_taking_37 fl_Md_53 (zg_ne eh_2 (by decide) (zg_ne eh_1 (by decide) (zsm_at hh.2.2.1 (by decide) hm))) rfl ?_
        refine pw_aload_n d_Md_taking_40 rfl rfl ?_
        refine pw_get d_Md_taking_41 fl_Md_114 (zg_ne eh_2 (by decide) (zg_ne eh_1 (by decide) (zsm_at hh.2.2.1 (by decide) hm))) rfl ?_
        refine pw_iload_n d_Md_taking_44 rfl rfl ?_
        obtain ⟨h_3, eh_3⟩ : ∃ x_9, x_9 = List.set h_2 (99) (.inl (0, 64, .inl (upd tY tn (nI i)))) := ⟨_, rfl⟩
        refine pw_iast rfl d_Md_taking_45 (zg_ne eh_2 (by decide) (zg_ne eh_1 (by decide) (zsm_at hh.2.2.1 (by decide) h99))) rfl rfl htn9 (by decide) eh_3.symm ?_
        refine pw_aload_n d_Md_taking_46 rfl rfl ?_
        refine pw_dup d_Md_taking_47 rfl ?_
        refine pw_get d_Md_taking_48 fl_Md_114 (zg_ne eh_3 (by decide) (zg_ne eh_2 (by decide) (zg_ne eh_1 (by decide) (zsm_at hh.2.2.1 (by decide) hm)))) rfl ?_
        refine pw_iconst (x := 1) d_Md_taking_51 (by decide) ?_
        refine pw_iadd d_Md_taking_52 ?_
        obtain ⟨h_4, eh_4⟩ : ∃ x_9, x_9 = List.set h_3 (84) (.inr (6, [.int (0), .ref 85, .int (nI jn), .ref 86, .ref 87, .int (nI dr), .ref 88, .ref 89, .int (nI pn), .ref 90, .ref 91, .ref 92, .ref 93, .ref 94, .int (nI bl), .ref 95, .ref 96, .ref 97, .int ((nI tn + 1)), .ref 98, .ref 99, .ref 100, .ref 101, .ref 102, .ref 103])) := ⟨_, rfl⟩
        refine pw_put rfl d_Md_taking_53 (fp_Md_114 _ _) (zg_ne eh_3 (by decide) (zg_ne eh_2 (by decide) (zg_ne eh_1 (by decide) (zsm_at hh.2.2.1 (by decide) hm)))) (Nat.le_of_ble_eq_true rfl) (fun _ => ⟨rfl, rfl⟩) eh_4.symm ?_
        refine pw_iload_n d_Md_taking_56 rfl rfl ?_
        refine pw_ireturn d_Md_taking_57 rfl (by decide) (by decide) ?_
        have hgo : (tk k = 0 ∧ rGo ml mo tk bs bf bl k (mT (3 * i)) (mT (3 * i + 1)) (mT (3 * i + 2))) := by rcases hh.2.2.2 with ⟨-, h1⟩ | ⟨e, -⟩; exact h1; exact absurd e q_t
        have h84n : zMo h_4 0 jn dr pn bl (tn + 1) := by unfold zMo; rw [← nI_1]; exact (zg_eq eh_4 (zg_ne eh_3 (by decide) (zg_ne eh_2 (by decide) (zg_ne eh_1 (by decide) (zsm_at hh.2.2.1 (by decide) hm)))))
        obtain ⟨w2, hw2⟩ := hh.1
        obtain ⟨w3, hw3⟩ := hh.2.1
        refine ⟨nI i, rfl, Or.inl ⟨i, hic, rfl, hgo.1, hgo.2, hv⟩, ⟨w2, ?_⟩, ⟨w3, ?_⟩, (zsm_st (zsm_st (zsm_st (zsm_st (zsm_tr (zsm_tr zsm_rf hz (by decide)) hh.2.2.1 (by decide)) eh_1 (by decide)) eh_2 (by decide)) eh_3 (by decide)) eh_4 (by decide)), Or.inr ⟨zm1 (by omega), h84n, (zg_ne eh_4 (by decide) (zg_ne eh_3 (by decide) (zg_ne eh_2 (by decide) (zg_eq eh_1 (zsm_at hh.2.2.1 (by decide) h97))))), (zg_ne eh_4 (by decide) (zg_ne eh_3 (by decide) (zg_eq eh_2 (zg_ne eh_1 (by decide) (zsm_at hh.2.2.1 (by decide) h98))))), (zg_ne eh_4 (by decide) (zg_eq eh_3 (zg_ne eh_2 (by decide) (zg_ne eh_1 (by decide) (zsm_at hh.2.2.1 (by decide) h99)))))⟩⟩
        · exact zg_ne eh_4 (by decide) (zg_ne eh_3 (by decide) (zg_ne eh_2 (by decide) (zg_ne eh_1 (by decide) hw2)))
        · exact zg_ne eh_4 (by decide) (zg_ne eh_3 (by decide) (zg_ne eh_2 (by decide) (zg_ne eh_1 (by decide) hw3)))
set_option maxRecDepth 20000 in
set_option maxHeartbeats 2000000 in
theorem c_taking {G : zG} {h : zH} {jn dr pn bl tn : Nat} (hm : zMo h 0 jn dr pn bl tn) {ml bs bf mo mT tB tY : Nat → Int32} (h86 : h[86]? = some (.inl (0, 48, .inl ml))) (h95 : h[95]? = some (.inl (0, 64, .inl bs))) (h96 : h[96]? = some (.inl (0, 64, .inl bf))) (h87 : h[87]? = some (.inl (1, 12, .inl mo))) (h88 : h[88]? = some (.inl (0, 24, .inl mT))) (h98 : h[98]? = some (.inl (0, 64, .inl tB))) (h99 : h[99]? = some (.inl (0, 64, .inl tY))) {tk : Nat → Int32} (h97 : h[97]? = some (.inl (1, 64, .inl tk))) (hbl : bl ≤ 64) {k : Nat} (hk : k < 64) (hfx : ∀ f, f < 6 → (bf k >>> (nI f &&& 31)) &&& 1 = 1 → ∃ o, o < bl ∧ bs o = (bs k ^^^ (1 <<< ((nI f) &&& 31)))) (hdr : dr ≤ 8) (htn : tk k = 0 → tn < 64) (h102 : ∃ v, h[102]? = some (.inl (0, 3, .inl v))) (h103 : ∃ v, h[103]? = some (.inl (0, 3, .inl v))) : PW G M_Md_taking (zroom 4 0 0) false (fun r h' => ∃ t : Int32, r = .inl (some (.int t)) ∧ rLd ml mo tk bs bf mT bl dr k t ∧ (∃ v, h'[102]? = some (.inl (0, 3, .inl v))) ∧ (∃ v, h'[103]? = some (.inl (0, 3, .inl v))) ∧ zsm rTP h h' ∧ ((t = -1 ∧ zMo h' 0 jn dr pn bl tn ∧ h'[97]? = some (.inl (1, 64, .inl tk)) ∧ h'[98]? = some (.inl (0, 64, .inl tB)) ∧ h'[99]? = some (.inl (0, 64, .inl tY))) ∨ (t ≠ -1 ∧ zMo h' 0 jn dr pn bl (tn + 1) ∧ h'[97]? = some (.inl (1, 64, .inl (upd tk k 1))) ∧ h'[98]? = some (.inl (0, 64, .inl (upd tB tn (nI k)))) ∧ h'[99]? = some (.inl (0, 64, .inl (upd tY tn t)))))) 0 (zentry 3 [.ref 84, .int (nI k)]) [] h 0 0 := by
  show PW G M_Md_taking (zroom 4 0 0) false _ 0 [some (.ref 84), some (.int (nI k)), none] [] h 0 0
  refine pw_iconst (x := 0) d_Md_taking_0 (by decide) ?_
  refine pw_istore_n d_Md_taking_1 rfl (by decide) (pl' := [some (.ref 84), some (.int (nI k)), some (.int (0))]) rfl ?_
  exact l_taking hm h86 h95 h96 h87 h88 h98 h99 h97 hbl hk hfx hdr htn (dr + 1) 0 h (by omega) (by omega) zsm_rf h102 h103 (fun j hj => absurd hj (Nat.not_lt_zero _))
