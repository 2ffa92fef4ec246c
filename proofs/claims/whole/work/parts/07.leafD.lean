/-- blocks so far: how many, sides, faces, corners, numbers -/
abbrev zBS : Type := Nat × (Nat → Int32) × (Nat → Int32) × (Nat → Int32) × (Nat → Int32)
def zbst (kn : Int32) (a b : Nat → Int32) (c J i : Nat) (S : zBS) : zBS := if i < J ∧ (zfb kn (nI i ||| 1344) a b c).2.1 = kn then (S.1 + 1, upd S.2.1 S.1 (nI i), upd S.2.2.1 S.1 (zfb kn (nI i ||| 1344) a b c).2.2.2.2, upd S.2.2.2.1 S.1 (zfb kn (nI i ||| 1344) a b c).1, upd (upd S.2.2.2.2 i (-1)) i (nI S.1)) else (S.1, S.2.1, S.2.2.1, S.2.2.2.1, upd S.2.2.2.2 i (-1))
def zbl (kn : Int32) (a b : Nat → Int32) (c J : Nat) (S0 : zBS) : Nat → zBS
  | 0 => (0, S0.2)
  | i + 1 => zbst kn a b c J i (zbl kn a b c J S0 i)
theorem zbl_le (kn : Int32) (a b : Nat → Int32) (c J : Nat) (S0 : zBS) (i : Nat) : (zbl kn a b c J S0 i).1 ≤ i := by
  induction i with
  | zero => exact Nat.le_refl _
  | succ i ih =>
    simp only [zbl, zbst]
    split
    · exact Nat.succ_le_succ ih
    · exact Nat.le_succ_of_le ih
/-- the rock's rows, the blocks by a tuple -/
def zRb (h : zH) (jc : Nat) (sx sy sz kn : Int32) (S : zBS) (pb so : Nat → Int32) : Prop := zRk h jc S.1 sx sy sz kn S.2.1 S.2.2.1 S.2.2.2.1 S.2.2.2.2 pb so
theorem zPt_sm {S : List Nat} {h0 h : zH} {c : Nat} {x y z q a b : Nat → Int32} (hz : zsm S h0 h) (hS : ∀ j, 36 ≤ j → j ≤ 42 → j ∉ S) (hp : zPt h0 c x y z q a b) : zPt h c x y z q a b :=
  ⟨zsm_at hz (hS 36 (by decide) (by decide)) hp.1, zsm_at hz (hS 37 (by decide) (by decide)) hp.2.1, zsm_at hz (hS 38 (by decide) (by decide)) hp.2.2.1, zsm_at hz (hS 39 (by decide) (by decide)) hp.2.2.2.1, zsm_at hz (hS 40 (by decide) (by decide)) hp.2.2.2.2.1, zsm_at hz (hS 41 (by decide) (by decide)) hp.2.2.2.2.2.1, zsm_at hz (hS 42 (by decide) (by decide)) hp.2.2.2.2.2.2⟩
theorem zRS_no {j : Nat} (h1 : 36 ≤ j) (h2 : j ≤ 42) : j ∉ [34, 43, 44, 45, 46] := by simp only [List.mem_cons, List.not_mem_nil, or_false]; omega
theorem zpw : ∀ j, j < 7 → (1 : Int32) <<< (nI j &&& 31) = nI (2 ^ j) ∧ 2 ^ j ≤ 64 := by decide +kernel
set_option maxRecDepth 20000 in
set_option maxHeartbeats 2000000 in
theorem l_findBlocks {G : zG} {h0 : zH} {c : Nat} {x y z q a b : Nat → Int32} (hp0 : zPt h0 c x y z q a b) (hc : c ≤ 220) {jc : Nat} (hjc : jc ≤ 6) {sx sy sz kn : Int32} {S0 : zBS} {pb so : Nat → Int32} {Q : zO → zH → Prop} (K : ∀ h, zRb h jc sx sy sz kn (zbl kn a b c (2 ^ jc) S0 64) pb so → zsm [34, 43, 44, 45, 46] h0 h → Q (.inl none) h) : ∀ (n i : Nat) (h : zH), 64 - i < n → i ≤ 64 → zRb h jc sx sy sz kn (zbl kn a b c (2 ^ jc) S0 i) pb so → zsm [34, 43, 44, 45, 46] h0 h → PW G M_Rock_findBlocks (zroom 2 0 0) false Q 7 [some (.ref 34), some (.int (nI i))] [] h 0 0 := by
  intro n
  induction n with
  | zero => intro i h hn; exact absurd hn (Nat.not_lt_zero _)
  | succ n ih =>
    intro i h hn hi hb hz
    refine pw_iload_n d_Rock_findBlocks_7 rfl rfl ?_
    refine pw_bipush (x := 64) d_Rock_findBlocks_8 (by decide) ?_
    refine pw_icmp_ge 41 d_Rock_findBlocks_10 (by decide) (fun q_c => ?_) (fun q_c => ?_)
    · refine pw_return d_Rock_findBlocks_41 rfl (by decide) (by decide) ?_
      have hic : i = 64 := by have := (nI_leI (a := 64) (b := i) (by decide) (by omega)).mp q_c; omega
      subst hic
      exact K h hb hz
    · have hic : i < 64 := by have := mt (nI_leI (a := 64) (b := i) (by decide) (by omega)).mpr q_c; omega
      have hp := zPt_sm hz (fun j => zRS_no) hp0
      refine pw_aload_n d_Rock_findBlocks_13 rfl rfl ?_
      refine pw_get d_Rock_findBlocks_14 fl_Rock_34 hb.1 rfl ?_
      refine pw_iload_n d_Rock_findBlocks_17 rfl rfl ?_
      refine pw_iconst (x := (-1)) d_Rock_findBlocks_18 (by decide) ?_
      obtain ⟨h_1, eh_1⟩ : ∃ x_9, x_9 = List.set h (46) (.inl (0, 64, .inl (upd (zbl kn a b c (2 ^ jc) S0 i).2.2.2.2 i ((-1))))) := ⟨_, rfl⟩
      refine pw_iast rfl d_Rock_findBlocks_19 hb.2.2.2.2.1 rfl rfl hic (by decide) eh_1.symm ?_
      refine pw_iload_n d_Rock_findBlocks_20 rfl rfl ?_
      refine pw_iconst (x := 1) d_Rock_findBlocks_21 (by decide) ?_
      refine pw_aload_n d_Rock_findBlocks_22 rfl rfl ?_
      refine pw_get d_Rock_findBlocks_23 fl_Rock_37 (zg_ne eh_1 (by decide) hb.1) rfl ?_
      refine pw_ishl d_Rock_findBlocks_26 ?_
      refine pw_icmp_ge 35 d_Rock_findBlocks_27 (by decide) (fun q_s0 => ?_) (fun q_s0 => ?_)
      · refine pw_iinc (y := nI (i + 1)) d_Rock_findBlocks_35 rfl (nI_1 i) (by decide) (pl' := [some (.ref 34), some (.int (nI (i + 1)))]) rfl ?_
        refine pw_goto 7 d_Rock_findBlocks_38 (by decide) ?_
        have hl : ¬ i < 2 ^ jc := by rw [(zpw jc (by omega)).1] at q_s0; exact fun z => absurd q_s0 (nI_ge z (by have := (zpw jc (by omega)).2; omega))
        refine ih (i + 1) _ (by omega) (by omega) ?_ (zsm_tr hz (zsm_st zsm_rf eh_1 (by decide)) (fun _ q => q))
        simp only [zbl, zbst, zRb]
        rw [if_neg (fun z => hl z.1)]
        exact ⟨(zg_ne eh_1 (by decide) hb.1), (zg_ne eh_1 (by decide) hb.2.1), (zg_ne eh_1 (by decide) hb.2.2.1), (zg_ne eh_1 (by decide) hb.2.2.2.1), (zg_eq eh_1 hb.2.2.2.2.1), (zg_ne eh_1 (by decide) hb.2.2.2.2.2.1), (zg_ne eh_1 (by decide) hb.2.2.2.2.2.2)⟩
      · refine pw_aload_n d_Rock_findBlocks_30 rfl rfl ?_
        refine pw_iload_n d_Rock_findBlocks_31 rfl rfl ?_
        have hr1 : zRk h_1 jc (zbl kn a b c (2 ^ jc) S0 i).1 sx sy sz kn (zbl kn a b c (2 ^ jc) S0 i).2.1 (zbl kn a b c (2 ^ jc) S0 i).2.2.1 (zbl kn a b c (2 ^ jc) S0 i).2.2.2.1 (upd (zbl kn a b c (2 ^ jc) S0 i).2.2.2.2 i (-1)) pb so := ⟨(zg_ne eh_1 (by decide) hb.1), (zg_ne eh_1 (by decide) hb.2.1), (zg_ne eh_1 (by decide) hb.2.2.1), (zg_ne eh_1 (by decide) hb.2.2.2.1), (zg_eq eh_1 hb.2.2.2.2.1), (zg_ne eh_1 (by decide) hb.2.2.2.2.2.1), (zg_ne eh_1 (by decide) hb.2.2.2.2.2.2)⟩
        have hz1 : zsm [34, 43, 44, 45, 46] h h_1 := zsm_st zsm_rf eh_1 (by decide)
        refine pw_callVu (R' := (zroom 1 0 0)) [.int (nI i)] (fun q => nomatch q) d_Rock_findBlocks_32 lk_Rock_173 hr1.1 rfl rfl rfl (c_findBlock (zPt_sm hz1 (fun j => zRS_no) hp) hc hr1 (Nat.lt_of_le_of_lt (zbl_le kn a b c (2 ^ jc) S0 i) hic) hic) (fun h1 hh => ?_)
        refine pw_iinc (y := nI (i + 1)) d_Rock_findBlocks_35 rfl (nI_1 i) (by decide) (pl' := [some (.ref 34), some (.int (nI (i + 1)))]) rfl ?_
        refine pw_goto 7 d_Rock_findBlocks_38 (by decide) ?_
        have hl : i < 2 ^ jc := by rw [(zpw jc (by omega)).1] at q_s0; exact (nI_ltI (by omega) (by have := (zpw jc (by omega)).2; omega)).mp (zle.mp q_s0)
        by_cases hq : (zfb kn (nI i ||| 1344) a b c).2.1 = kn
        · refine ih (i + 1) h1 (by omega) (by omega) ?_ (zsm_tr hz (zsm_tr hz1 (hh.1 hq).2 (fun _ q => q)) (fun _ q => q))
          simp only [zbl, zbst, zRb]
          rw [if_pos ⟨hl, hq⟩]
          exact (hh.1 hq).1
        · have e1 := hh.2 hq
          subst e1
          refine ih (i + 1) _ (by omega) (by omega) ?_ (zsm_tr hz hz1 (fun _ q => q))
          simp only [zbl, zbst, zRb]
          rw [if_neg (fun z => hq z.2)]
          exact hr1
