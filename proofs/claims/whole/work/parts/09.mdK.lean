theorem z2j : ∀ j, j ≤ 6 → (1 : Int32) <<< ((nI j) &&& 31) = nI (2 ^ j) := by decide +kernel
theorem z2l : ∀ j, j ≤ 6 → 2 ^ j ≤ 64 := by decide
/-- the sides s make a block -/
def rP (po pa pw : Nat → Int32) (jn pn : Nat) (s : Nat) : Prop := zfr po pa pw (nI s) 0 pn &&& zkn jn = zkn jn
/-- the blocks of the sides below n -/
def rB (po pa pw : Nat → Int32) (jn pn n : Nat) (bs bf tk : Nat → Int32) : Prop := (∀ s, s < n → rP po pa pw jn pn s → bs (zct (rP po pa pw jn pn) s) = nI s ∧ bf (zct (rP po pa pw jn pn) s) = zff po pa pw jn pn (nI s) 12) ∧ ∀ k, k < zct (rP po pa pw jn pn) n → tk k = 0
set_option maxRecDepth 20000 in
set_option maxHeartbeats 2000000 in
theorem l_cutS {G : zG} {h0 : zH} {th : Int32} {jn dr pn tn : Nat} {po pa pw : Nat → Int32} (h910 : h0[91]? = some (.inl (0, 220, .inl po))) (h920 : h0[92]? = some (.inl (0, 220, .inl pa))) (h930 : h0[93]? = some (.inl (0, 220, .inl pw))) (hjn : jn ≤ 6) (hpn : pn ≤ 220) {o2 o3 : Option Value} {Q : zO → zH → Prop} (K : ∀ (h : zH) (bs bf tk : Nat → Int32), zsm [84, 95, 96, 97] h0 h → zMo h th jn dr pn (zct (rP po pa pw jn pn) (2 ^ jn)) tn → h[95]? = some (.inl (0, 64, .inl bs)) → h[96]? = some (.inl (0, 64, .inl bf)) → h[97]? = some (.inl (1, 64, .inl tk)) → rB po pa pw jn pn (2 ^ jn) bs bf tk → Q (.inl none) h) : ∀ (n s : Nat) (h : zH) (bs bf tk : Nat → Int32), 2 ^ jn - s < n → s ≤ 2 ^ jn → zsm [84, 95, 96, 97] h0 h → zMo h th jn dr pn (zct (rP po pa pw jn pn) s) tn → h[95]? = some (.inl (0, 64, .inl bs)) → h[96]? = some (.inl (0, 64, .inl bf)) → h[97]? = some (.inl (1, 64, .inl tk)) → rB po pa pw jn pn s bs bf tk → PW G M_Md_cut (zroom 3 0 0) false Q 267 [some (.ref 84), some (.int (nI s)), o2, o3] [] h 0 0 := by
  intro n
  induction n with
  | zero => intro s h bs bf tk hn; exact absurd hn (Nat.not_lt_zero _)
  | succ n ih =>
    intro s h bs bf tk hn hs hz hm h95 h96 h97 hB
    have h2l := z2l jn hjn
    have h91 := zsm_at hz (by decide) h910
    have h92 := zsm_at hz (by decide) h920
    have h93 := zsm_at hz (by decide) h930
    refine pw_iload_n d_Md_cut_267 rfl rfl ?_
    refine pw_iconst (x := 1) d_Md_cut_268 (by decide) ?_
    refine pw_aload_n d_Md_cut_269 rfl rfl ?_
    refine pw_get d_Md_cut_270 fl_Md_83 hm rfl ?_
    refine pw_ishl d_Md_cut_273 ?_
    refine pw_icmp_ge 340 d_Md_cut_274 (by decide) (fun q_c => ?_) (fun q_c => ?_)
    · refine pw_return d_Md_cut_340 rfl (by decide) (by decide) ?_
      have hsc : s = 2 ^ jn := by have := q_c; rw [z2j jn hjn] at this; have := (nI_leI (a := 2 ^ jn) (b := s) (by omega) (by omega)).mp this; omega
      subst hsc
      exact K h bs bf tk hz hm h95 h96 h97 hB
    · have hsc : s < 2 ^ jn := by have := q_c; rw [z2j jn hjn] at this; have := mt (nI_leI (a := 2 ^ jn) (b := s) (by omega) (by omega)).mpr this; omega
      have hbl : (zct (rP po pa pw jn pn) s) < 64 := by have := zct_le (rP po pa pw jn pn) s; omega
      refine pw_aload_n d_Md_cut_277 rfl rfl ?_
      refine pw_get d_Md_cut_278 fl_Md_47 hm rfl ?_
      refine pw_aload_n d_Md_cut_281 rfl rfl ?_
      refine pw_get d_Md_cut_282 fl_Md_111 hm rfl ?_
      refine pw_iconst (x := 0) d_Md_cut_285 (by decide) ?_
      obtain ⟨h_1, eh_1⟩ : ∃ x_9, x_9 = List.set h (97) (.inl (1, 64, .inl (upd tk (zct (rP po pa pw jn pn) s) (0)))) := ⟨_, rfl⟩
      refine pw_zast rfl d_Md_cut_286 h97 rfl rfl hbl (by decide) (Or.inl rfl) eh_1.symm ?_
      refine pw_aload_n d_Md_cut_287 rfl rfl ?_
      refine pw_iload_n d_Md_cut_288 rfl rfl ?_
      refine pw_iconst (x := 0) d_Md_cut_289 (by decide) ?_
      refine pw_callV1 (R' := (zroom 1 0 0)) (h2 := h_1) [.int (nI s), .int (0)] (fun q => nomatch q) d_Md_cut_290 lk_Md_117 (zg_ne eh_1 (by decide) hm) rfl rfl rfl (c_freeOf (bl := (zct (rP po pa pw jn pn) s)) (zg_ne eh_1 (by decide) hm) (zg_ne eh_1 (by decide) h91) (zg_ne eh_1 (by decide) h92) (zg_ne eh_1 (by decide) h93) hpn hjn) ?_
      refine pw_aload_n d_Md_cut_293 rfl rfl ?_
      refine pw_callV1 (R' := (zroom 0 0 0)) (h2 := h_1) [] (fun q => nomatch q) d_Md_cut_294 lk_Md_120 (zg_ne eh_1 (by decide) hm) rfl rfl rfl (c_all (bl := (zct (rP po pa pw jn pn) s)) (zg_ne eh_1 (by decide) hm) hjn) ?_
      refine pw_icmp_ne 334 d_Md_cut_297 (by decide) (fun q_p => ?_) (fun q_p => ?_)
      · refine pw_iinc (y := nI (s + 1)) d_Md_cut_334 rfl (nI_1 s) (by decide) (pl' := [some (.ref 84), some (.int (nI (s + 1))), o2, o3]) rfl ?_
        refine pw_goto 267 d_Md_cut_337 (by decide) ?_
        have hno : ¬ rP po pa pw jn pn s := q_p
        refine ih (s + 1) _ _ _ _ (by omega) (by omega) (zsm_st hz eh_1 (by decide)) (by rw [zct_f hno]; exact (zg_ne eh_1 (by decide) hm)) (zg_ne eh_1 (by decide) h95) (zg_ne eh_1 (by decide) h96) (zg_eq eh_1 h97) ⟨fun s9 h1 h2 => ?_, fun k h1 => ?_⟩
        · rcases Nat.lt_succ_iff_lt_or_eq.mp h1 with h3 | rfl
          · exact hB.1 s9 h3 h2
          · exact absurd h2 hno
        · rw [zct_f hno] at h1
          rw [pk_un (by omega)]
          exact hB.2 k h1
      · refine pw_aload_n d_Md_cut_300 rfl rfl ?_
        refine pw_get d_Md_cut_301 fl_Md_41 (zg_ne eh_1 (by decide) hm) rfl ?_
        refine pw_aload_n d_Md_cut_304 rfl rfl ?_
        refine pw_get d_Md_cut_305 fl_Md_111 (zg_ne eh_1 (by decide) hm) rfl ?_
        refine pw_iload_n d_Md_cut_308 rfl rfl ?_
        obtain ⟨h_2, eh_2⟩ : ∃ x_9, x_9 = List.set h_1 (95) (.inl (0, 64, .inl (upd bs (zct (rP po pa pw jn pn) s) (nI s)))) := ⟨_, rfl⟩
        refine pw_iast rfl d_Md_cut_309 (zg_ne eh_1 (by decide) h95) rfl rfl hbl (by decide) eh_2.symm ?_
        refine pw_aload_n d_Md_cut_310 rfl rfl ?_
        refine pw_get d_Md_cut_311 fl_Md_44 (zg_ne eh_2 (by decide) (zg_ne eh_1 (by decide) hm)) rfl ?_
        refine pw_aload_n d_Md_cut_314 rfl rfl ?_
        refine pw_get d_Md_cut_315 fl_Md_111 (zg_ne eh_2 (by decide) (zg_ne eh_1 (by decide) hm)) rfl ?_
        refine pw_aload_n d_Md_cut_318 rfl rfl ?_
        refine pw_iload_n d_Md_cut_319 rfl rfl ?_
        refine pw_callV1 (R' := (zroom 2 0 0)) (h2 := h_2) [.int (nI s)] (fun q => nomatch q) d_Md_cut_320 lk_Md_124 (zg_ne eh_2 (by decide) (zg_ne eh_1 (by decide) hm)) rfl rfl rfl (c_findFaces (bl := (zct (rP po pa pw jn pn) s)) (zg_ne eh_2 (by decide) (zg_ne eh_1 (by decide) hm)) (zg_ne eh_2 (by decide) (zg_ne eh_1 (by decide) h91)) (zg_ne eh_2 (by decide) (zg_ne eh_1 (by decide) h92)) (zg_ne eh_2 (by decide) (zg_ne eh_1 (by decide) h93)) hpn hjn) ?_
        obtain ⟨h_3, eh_3⟩ : ∃ x_9, x_9 = List.set h_2 (96) (.inl (0, 64, .inl (upd bf (zct (rP po pa pw jn pn) s) ((zff po pa pw jn pn (nI s) 12))))) := ⟨_, rfl⟩
        refine pw_iast rfl d_Md_cut_323 (zg_ne eh_2 (by decide) (zg_ne eh_1 (by decide) h96)) rfl rfl hbl (by decide) eh_3.symm ?_
        refine pw_aload_n d_Md_cut_324 rfl rfl ?_
        refine pw_dup d_Md_cut_325 rfl ?_
        refine pw_get d_Md_cut_326 fl_Md_111 (zg_ne eh_3 (by decide) (zg_ne eh_2 (by decide) (zg_ne eh_1 (by decide) hm))) rfl ?_
        refine pw_iconst (x := 1) d_Md_cut_329 (by decide) ?_
        refine pw_iadd d_Md_cut_330 ?_
        obtain ⟨h_4, eh_4⟩ : ∃ x_9, x_9 = List.set h_3 (84) (.inr (6, [.int (th), .ref 85, .int (nI jn), .ref 86, .ref 87, .int (nI dr), .ref 88, .ref 89, .int (nI pn), .ref 90, .ref 91, .ref 92, .ref 93, .ref 94, .int ((nI (zct (rP po pa pw jn pn) s) + 1)), .ref 95, .ref 96, .ref 97, .int (nI tn), .ref 98, .ref 99, .ref 100, .ref 101, .ref 102, .ref 103])) := ⟨_, rfl⟩
        refine pw_put rfl d_Md_cut_331 (fp_Md_111 _ _) (zg_ne eh_3 (by decide) (zg_ne eh_2 (by decide) (zg_ne eh_1 (by decide) hm))) (Nat.le_of_ble_eq_true rfl) (fun _ => ⟨rfl, rfl⟩) eh_4.symm ?_
        refine pw_iinc (y := nI (s + 1)) d_Md_cut_334 rfl (nI_1 s) (by decide) (pl' := [some (.ref 84), some (.int (nI (s + 1))), o2, o3]) rfl ?_
        refine pw_goto 267 d_Md_cut_337 (by decide) ?_
        have hyes : rP po pa pw jn pn s := q_p
        have h84n : zMo h_4 th jn dr pn (zct (rP po pa pw jn pn) (s + 1)) tn := by rw [zct_t hyes]; unfold zMo; rw [← nI_1]; exact (zg_eq eh_4 (zg_ne eh_3 (by decide) (zg_ne eh_2 (by decide) (zg_ne eh_1 (by decide) hm))))
        refine ih (s + 1) _ _ _ _ (by omega) (by omega) (zsm_st (zsm_st (zsm_st (zsm_st hz eh_1 (by decide)) eh_2 (by decide)) eh_3 (by decide)) eh_4 (by decide)) h84n (zg_ne eh_4 (by decide) (zg_ne eh_3 (by decide) (zg_eq eh_2 (zg_ne eh_1 (by decide) h95)))) (zg_ne eh_4 (by decide) (zg_eq eh_3 (zg_ne eh_2 (by decide) (zg_ne eh_1 (by decide) h96)))) (zg_ne eh_4 (by decide) (zg_ne eh_3 (by decide) (zg_ne eh_2 (by decide) (zg_eq eh_1 h97)))) ⟨fun s9 h1 h2 => ?_, fun k h1 => ?_⟩
        · rcases Nat.lt_succ_iff_lt_or_eq.mp h1 with h3 | rfl
          · have hne := zct_lt h2 h3
            rw [pk_un (by omega), pk_un (by omega)]
            exact hB.1 s9 h3 h2
          · rw [pk_us, pk_us]
            exact ⟨rfl, rfl⟩
        · rw [zct_t hyes] at h1
          rcases Nat.lt_succ_iff_lt_or_eq.mp h1 with h3 | rfl
          · rw [pk_un (by omega)]
            exact hB.2 k h3
          · exact pk_us
/-- what cut leaves -/
def rCut (jn : Nat) (ms ml : Nat → Int32) (pn : Nat) (pt po pa pw : Nat → Int32) (bl : Nat) (bs bf tk : Nat → Int32) : Prop := pn ≤ 220 ∧ rOk pn pt ∧ (∀ x y z q, zmm (rS pn pt) x y z q ↔ ∃ a b c, a < b ∧ b < c ∧ c < 12 ∧ (6 ≤ a ∨ a < jn) ∧ (6 ≤ b ∨ b < jn) ∧ (6 ≤ c ∨ c < jn) ∧ gT (iI (mA ml)) (iI (mB ml)) (iI (mC ml)) (iI (mD ml)) (ms 0).toInt (ms 1).toInt (ms 2).toInt a b c x y z q) ∧ (∀ r, r < pn → zBt jn ml pt po pa pw r 12) ∧ bl = (zct (rP po pa pw jn pn) (2 ^ jn)) ∧ rB po pa pw jn pn (2 ^ jn) bs bf tk
/-- the reference's rows that cut writes -/
def rRw (h : zH) (th : Int32) (jn dr : Nat) (pn : Nat) (pt po pa pw : Nat → Int32) (bl : Nat) (bs bf tk : Nat → Int32) (tn : Nat) : Prop := zMo h th jn dr pn bl tn ∧ h[90]? = some (.inl (0, 880, .inl pt)) ∧ h[91]? = some (.inl (0, 220, .inl po)) ∧ h[92]? = some (.inl (0, 220, .inl pa)) ∧ h[93]? = some (.inl (0, 220, .inl pw)) ∧ (∃ mk, h[94]? = some (.inl (0, 4, .inl mk))) ∧ h[95]? = some (.inl (0, 64, .inl bs)) ∧ h[96]? = some (.inl (0, 64, .inl bf)) ∧ h[97]? = some (.inl (1, 64, .inl tk))
/-- the places that cut writes -/
abbrev zCP : List Nat := [84, 90, 91, 92, 93, 94, 95, 96, 97]
set_option maxRecDepth 20000 in
set_option maxHeartbeats 2000000 in
theorem c_cut {G : zG} {h : zH} {th : Int32} {jn dr pn bl tn : Nat} {pt po pa pw bs bf tk : Nat → Int32} (hw : rRw h th jn dr pn pt po pa pw bl bs bf tk tn) {ms ml : Nat → Int32} (h85 : h[85]? = some (.inl (0, 3, .inl ms))) (h86 : h[86]? = some (.inl (0, 48, .inl ml))) (hjn : jn ≤ 6) (hb : zpb (mA ml) (mB ml) (mC ml) (mD ml)) (hs : ∀ c, c < 3 → zsz (ms c)) : PW G M_Md_cut (zroom 3 0 0) false (fun r h' => r = .inl none ∧ ∃ pn pt po pa pw bl bs bf tk, rRw h' th jn dr pn pt po pa pw bl bs bf tk 0 ∧ zsm zCP h h' ∧ rCut jn ms ml pn pt po pa pw bl bs bf tk) 0 (zentry 4 [.ref 84]) [] h 0 0 := by
  show PW G M_Md_cut (zroom 3 0 0) false _ 0 [some (.ref 84), none, none, none] [] h 0 0
  refine pw_aload_n d_Md_cut_0 rfl rfl ?_
  refine pw_iconst (x := 0) d_Md_cut_1 (by decide) ?_
  obtain ⟨h_1, eh_1⟩ : ∃ x_9, x_9 = List.set h (84) (.inr (6, [.int (th), .ref 85, .int (nI jn), .ref 86, .ref 87, .int (nI dr), .ref 88, .ref 89, .int (0), .ref 90, .ref 91, .ref 92, .ref 93, .ref 94, .int (nI bl), .ref 95, .ref 96, .ref 97, .int (nI tn), .ref 98, .ref 99, .ref 100, .ref 101, .ref 102, .ref 103])) := ⟨_, rfl⟩
  refine pw_put rfl d_Md_cut_2 (fp_Md_94 _ _) hw.1 (Nat.le_of_ble_eq_true rfl) (fun _ => ⟨rfl, rfl⟩) eh_1.symm ?_
  refine pw_iconst (x := 0) d_Md_cut_5 (by decide) ?_
  refine pw_istore_n d_Md_cut_6 rfl (by decide) (pl' := [some (.ref 84), some (.int (0)), none, none]) rfl ?_
  have z0 : zsm [84, 90, 94] h h_1 := zsm_st zsm_rf eh_1 (by decide)
  refine l_cut1 (h0 := h) h85 h86 hjn hb hs (fun h1 pn1 pt1 o2 o3 c1 c2 => ?_) 13 0 _ 0 pt _ _ (by decide) (by decide) ⟨(zg_eq eh_1 hw.1), zg_ne eh_1 (by decide) hw.2.1, (by obtain ⟨mk, h94⟩ := hw.2.2.2.2.2.1; exact ⟨mk, zg_ne eh_1 (by decide) h94⟩), z0, ⟨fun p hp => absurd hp (Nat.not_lt_zero _), fun p r _ hr => absurd hr (Nat.not_lt_zero _)⟩, fun x y z q => ⟨fun ⟨p, hp, _⟩ => absurd hp (Nat.not_lt_zero _), fun ⟨a, b, c, _, _, _, _, _, _, h9, _⟩ => absurd h9 (Nat.not_lt_zero _)⟩⟩ (Nat.zero_le _)
  obtain ⟨m1, m2, m3, m4, m5, m6⟩ := c1
  refine pw_iconst (x := 0) d_Md_cut_82 (by decide) ?_
  refine pw_istore_n d_Md_cut_83 rfl (by decide) (pl' := [some (.ref 84), some (.int 0), o2, o3]) rfl ?_
  refine l_cutP (h0 := h1) m1 (zsm_at m4 (by decide) h86) m2 hjn c2 (fun h2 po2 pa2 pw2 u1 u2 u3 k1 k2 k3 k4 k5 => ?_) (pn1 + 1) 0 h1 po pa pw _ _ (by omega) (by omega) zsm_rf (zsm_at m4 (by decide) hw.2.2.1) (zsm_at m4 (by decide) hw.2.2.2.1) (zsm_at m4 (by decide) hw.2.2.2.2.1) (fun r hr => absurd hr (Nat.not_lt_zero _))
  refine pw_aload_n d_Md_cut_255 rfl rfl ?_
  refine pw_iconst (x := 0) d_Md_cut_256 (by decide) ?_
  obtain ⟨h_71, eh_71⟩ : ∃ x_9, x_9 = List.set h2 (84) (.inr (6, [.int (th), .ref 85, .int (nI jn), .ref 86, .ref 87, .int (nI dr), .ref 88, .ref 89, .int (nI pn1), .ref 90, .ref 91, .ref 92, .ref 93, .ref 94, .int (0), .ref 95, .ref 96, .ref 97, .int (nI tn), .ref 98, .ref 99, .ref 100, .ref 101, .ref 102, .ref 103])) := ⟨_, rfl⟩
  refine pw_put rfl d_Md_cut_257 (fp_Md_111 _ _) (zsm_at k1 (by decide) m1) (Nat.le_of_ble_eq_true rfl) (fun _ => ⟨rfl, rfl⟩) eh_71.symm ?_
  refine pw_aload_n d_Md_cut_260 rfl rfl ?_
  refine pw_iconst (x := 0) d_Md_cut_261 (by decide) ?_
  obtain ⟨h_72, eh_72⟩ : ∃ x_9, x_9 = List.set h_71 (84) (.inr (6, [.int (th), .ref 85, .int (nI jn), .ref 86, .ref 87, .int (nI dr), .ref 88, .ref 89, .int (nI pn1), .ref 90, .ref 91, .ref 92, .ref 93, .ref 94, .int (0), .ref 95, .ref 96, .ref 97, .int (0), .ref 98, .ref 99, .ref 100, .ref 101, .ref 102, .ref 103])) := ⟨_, rfl⟩
  refine pw_put rfl d_Md_cut_262 (fp_Md_114 _ _) (zg_eq eh_71 (zsm_at k1 (by decide) m1)) (Nat.le_of_ble_eq_true rfl) (fun _ => ⟨rfl, rfl⟩) eh_72.symm ?_
  refine pw_iconst (x := 0) d_Md_cut_265 (by decide) ?_
  refine pw_istore_n d_Md_cut_266 rfl (by decide) (pl' := [some (.ref 84), some (.int (0)), u2, u3]) rfl ?_
  have z3 : zsm [84] h2 h_72 := zsm_st (zsm_st zsm_rf eh_71 (by decide)) eh_72 (by decide)
  have hz5 : zsm zCP h h_72 := zsm_tr (zsm_tr (zsm_tr zsm_rf m4 (by decide)) k1 (by decide)) z3 (by decide)
  refine l_cutS (h0 := h_72) (po := po2) (pa := pa2) (pw := pw2) (zsm_at z3 (by decide) k2) (zsm_at z3 (by decide) k3) (zsm_at z3 (by decide) k4) hjn c2 (fun h4 bs4 bf4 tk4 j1 j2 j3 j4 j5 j6 => ?_) (2 ^ jn + 1) 0 _ bs bf tk (Nat.lt_succ_of_le (Nat.sub_le _ _)) (Nat.zero_le _) zsm_rf (zg_eq eh_72 (zg_eq eh_71 (zsm_at k1 (by decide) m1))) (zsm_at z3 (by decide) (zsm_at k1 (by decide) (zsm_at m4 (by decide) hw.2.2.2.2.2.2.1))) (zsm_at z3 (by decide) (zsm_at k1 (by decide) (zsm_at m4 (by decide) hw.2.2.2.2.2.2.2.1))) (zsm_at z3 (by decide) (zsm_at k1 (by decide) (zsm_at m4 (by decide) hw.2.2.2.2.2.2.2.2))) ⟨fun s9 h9 => absurd h9 (Nat.not_lt_zero _), fun k9 h9 => absurd h9 (Nat.not_lt_zero _)⟩
  refine ⟨rfl, pn1, pt1, po2, pa2, pw2, _, bs4, bf4, tk4, ⟨j2, zsm_at j1 (by decide) (zsm_at z3 (by decide) (zsm_at k1 (by decide) m2)), zsm_at j1 (by decide) (zsm_at z3 (by decide) k2), zsm_at j1 (by decide) (zsm_at z3 (by decide) k3), zsm_at j1 (by decide) (zsm_at z3 (by decide) k4), ?_, j3, j4, j5⟩, zsm_tr hz5 j1 (by decide), c2, m5, fun x y z q => ?_, k5, rfl, j6⟩
  · obtain ⟨mk9, m3⟩ := m3
    exact ⟨mk9, zsm_at j1 (by decide) (zsm_at z3 (by decide) (zsm_at k1 (by decide) m3))⟩
  · rw [m6]
    constructor
    · rintro ⟨a, b, c, d1, d2, d3, d4, d5, d6, -, d8⟩
      exact ⟨a, b, c, d1, d2, d3, d4, d5, d6, d8⟩
    · rintro ⟨a, b, c, d1, d2, d3, d4, d5, d6, d8⟩
      exact ⟨a, b, c, d1, d2, d3, d4, d5, d6, trivial, d8⟩
