theorem zPl_set {h h1 h2 : zH} {A B C D : Nat → Int32} {j : Nat} {u v w d : Int32} (hj : j < 12) (hpl : zPl h A B C D) (e1 : h1 = h.set (53 + 2 * j) (.inr (0, [.int u, .int v, .int w]))) (e2 : h2 = h1.set (52 + 2 * j) (.inr (2, [.ref (53 + 2 * j), .int d]))) : zPl h2 (upd A j u) (upd B j v) (upd C j w) (upd D j d) := by
  refine ⟨zg_ne e2 (by omega) (zg_ne e1 (by omega) hpl.1), fun i hi => ?_, fun i hi => ?_⟩
  · by_cases hij : i = j
    · subst hij
      rw [pk_us]
      exact zg_eq e2 (zg_ne e1 (by omega) (hpl.2.1 i hi))
    · rw [pk_un hij]
      exact zg_ne e2 (by omega) (zg_ne e1 (by omega) (hpl.2.1 i hi))
  · by_cases hij : i = j
    · subst hij
      rw [pk_us, pk_us, pk_us]
      exact zAr_ne e2 (by omega) (zg_eq e1 (hpl.2.2 i hi))
    · rw [pk_un hij, pk_un hij, pk_un hij]
      exact zAr_ne e2 (by omega) (zAr_ne e1 (by omega) (hpl.2.2 i hi))
/-- nothing but the places S and those that w names -/
def zsw (w : Nat → Prop) (h h' : zH) : Prop := h'.length = h.length ∧ ∀ j, ¬ w j → h'[j]? = h[j]?
theorem zsw_of {S : List Nat} {w : Nat → Prop} {h h' : zH} (hz : zsm S h h') (hw : ∀ j ∈ S, w j) : zsw w h h' := ⟨hz.1, fun j hj => hz.2 j (fun z => hj (hw j z))⟩
theorem zsw_tr {w : Nat → Prop} {h h1 h2 : zH} (a : zsw w h h1) (b : zsw w h1 h2) : zsw w h h2 := ⟨b.1.trans a.1, fun j hj => (b.2 j hj).trans (a.2 j hj)⟩
theorem zsw_st {w : Nat → Prop} {h h1 : zH} {k : Nat} {c : zE} (e : h1 = h.set k c) (hk : w k) : zsw w h h1 := by
  subst e
  refine ⟨List.length_set, fun j hj => ?_⟩
  rw [List.getElem?_set_ne (show k ≠ j from fun z => hj (z ▸ hk))]
set_option maxRecDepth 20000 in
set_option maxHeartbeats 2000000 in
theorem c_addJoint {G : zG} {h : zH} {S : zPS} (hp : zPp h S) {jc bc : Nat} {sx sy sz kn : Int32} {sd fc cc nu pb so : Nat → Int32} (hr : zRk h jc bc sx sy sz kn sd fc cc nu pb so) (hjc : jc < 6) {A B C D : Nat → Int32} (hpl : zPl h A B C D) (hcr : zCr h) (hbd : S.1 + zco kn 12 0 ≤ 220) {u1 u2 u3 u4 : Int32} (hfin : (zout (kn ||| (1 <<< (nI jc &&& 31))) sx sy sz (upd A jc u1) (upd B jc u2) (upd C jc u3) (upd D jc u4) kn jc 12 0 (ztl (upd A jc u1) (upd B jc u2) (upd C jc u3) (upd D jc u4) jc S S.1)).1 ≤ 220) : PW G M_Rock_addJoint (zroom 5 0 0) false (fun r h' => r = .inl none ∧ zPp h' (zout (kn ||| (1 <<< (nI jc &&& 31))) sx sy sz (upd A jc u1) (upd B jc u2) (upd C jc u3) (upd D jc u4) kn jc 12 0 (ztl (upd A jc u1) (upd B jc u2) (upd C jc u3) (upd D jc u4) jc S S.1)) ∧ zRb h' (jc + 1) sx sy sz (kn ||| (1 <<< (nI jc &&& 31))) (zbl (kn ||| (1 <<< (nI jc &&& 31))) (zout (kn ||| (1 <<< (nI jc &&& 31))) sx sy sz (upd A jc u1) (upd B jc u2) (upd C jc u3) (upd D jc u4) kn jc 12 0 (ztl (upd A jc u1) (upd B jc u2) (upd C jc u3) (upd D jc u4) jc S S.1)).2.2.2.2.2.1 (zout (kn ||| (1 <<< (nI jc &&& 31))) sx sy sz (upd A jc u1) (upd B jc u2) (upd C jc u3) (upd D jc u4) kn jc 12 0 (ztl (upd A jc u1) (upd B jc u2) (upd C jc u3) (upd D jc u4) jc S S.1)).2.2.2.2.2.2 (zout (kn ||| (1 <<< (nI jc &&& 31))) sx sy sz (upd A jc u1) (upd B jc u2) (upd C jc u3) (upd D jc u4) kn jc 12 0 (ztl (upd A jc u1) (upd B jc u2) (upd C jc u3) (upd D jc u4) jc S S.1)).1 (2 ^ (jc + 1)) (0, sd, fc, cc, nu) 64) (upd pb jc (nI S.1)) so ∧ zPl h' (upd A jc u1) (upd B jc u2) (upd C jc u3) (upd D jc u4) ∧ zCr h' ∧ zsw (fun k => k = 34 ∨ (36 ≤ k ∧ k ≤ 42) ∨ (43 ≤ k ∧ k ≤ 47) ∨ (49 ≤ k ∧ k ≤ 75)) h h') 0 (zentry 5 [.ref 34, .int (u1), .int (u2), .int (u3), .int (u4)]) [] h 0 0 := by
  show PW G M_Rock_addJoint (zroom 5 0 0) false _ 0 [some (.ref 34), some (.int (u1)), some (.int (u2)), some (.int (u3)), some (.int (u4))] [] h 0 0
  refine pw_aload_n d_Rock_addJoint_0 rfl rfl ?_
  refine pw_get d_Rock_addJoint_1 fl_Rock_37 hr.1 rfl ?_
  refine pw_bipush (x := 6) d_Rock_addJoint_4 (by decide) ?_
  refine pw_icmp_ge 64 d_Rock_addJoint_6 (by decide) (fun q => absurd q (nI_ge (b := 6) hjc (by decide))) (fun _ => ?_)
  refine pw_aload_n d_Rock_addJoint_9 rfl rfl ?_
  refine pw_get d_Rock_addJoint_10 fl_Rock_11 hr.1 rfl ?_
  refine pw_aload_n d_Rock_addJoint_13 rfl rfl ?_
  refine pw_get d_Rock_addJoint_14 fl_Rock_37 hr.1 rfl ?_
  refine pw_aald (y := 52 + 2 * jc) d_Rock_addJoint_17 hpl.1 rfl rfl (by omega) (by decide) (zPls_at (by omega)) ?_
  refine pw_iload_n d_Rock_addJoint_18 rfl rfl ?_
  refine pw_iload_n d_Rock_addJoint_19 rfl rfl ?_
  refine pw_iload_n d_Rock_addJoint_20 rfl rfl ?_
  refine pw_iload d_Rock_addJoint_21 rfl ?_
  obtain ⟨h_1, eh_1⟩ : ∃ x_9, x_9 = List.set h (53 + 2 * jc) (.inr (0, [.int (u1), .int (u2), .int (u3)])) := ⟨_, rfl⟩
  obtain ⟨h_2, eh_2⟩ : ∃ x_9, x_9 = List.set h_1 (52 + 2 * jc) (.inr (2, [.ref (53 + 2 * jc), .int (u4)])) := ⟨_, rfl⟩
  refine pw_callV0 (R' := (zroom 1 0 0)) (h2 := h_2) [.int (u1), .int (u2), .int (u3), .int (u4)] (fun q => nomatch q) d_Rock_addJoint_23 lk_Rock_76 (hpl.2.1 jc (by omega)) rfl rfl rfl (c_Plane_set (hpl.2.1 jc (by omega)) (hpl.2.2 jc (by omega)) (by omega) (by rw [eh_2, eh_1])) ?_
  refine pw_aload_n d_Rock_addJoint_26 rfl rfl ?_
  refine pw_get d_Rock_addJoint_27 fl_Rock_44 (zg_ne eh_2 (by omega) (zg_ne eh_1 (by omega) hr.1)) rfl ?_
  refine pw_aload_n d_Rock_addJoint_30 rfl rfl ?_
  refine pw_get d_Rock_addJoint_31 fl_Rock_37 (zg_ne eh_2 (by omega) (zg_ne eh_1 (by omega) hr.1)) rfl ?_
  refine pw_aload_n d_Rock_addJoint_34 rfl rfl ?_
  refine pw_get d_Rock_addJoint_35 fl_Rock_20 (zg_ne eh_2 (by omega) (zg_ne eh_1 (by omega) hr.1)) rfl ?_
  refine pw_get d_Rock_addJoint_38 fl_Rock_100 (zg_ne eh_2 (by omega) (zg_ne eh_1 (by omega) hp.1)) rfl ?_
  obtain ⟨h_3, eh_3⟩ : ∃ x_9, x_9 = List.set h_2 (47) (.inl (0, 6, .inl (upd pb jc (nI S.1)))) := ⟨_, rfl⟩
  refine pw_iast rfl d_Rock_addJoint_41 (zg_ne eh_2 (by omega) (zg_ne eh_1 (by omega) hr.2.2.2.2.2.1)) rfl rfl (by omega) (by decide) eh_3.symm ?_
  refine pw_aload_n d_Rock_addJoint_42 rfl rfl ?_
  refine pw_aload_n d_Rock_addJoint_43 rfl rfl ?_
  refine pw_get d_Rock_addJoint_44 fl_Rock_37 (zg_ne eh_3 (by decide) (zg_ne eh_2 (by omega) (zg_ne eh_1 (by omega) hr.1))) rfl ?_
  have hw1 : zsw (fun k => k = 34 ∨ (36 ≤ k ∧ k ≤ 42) ∨ (43 ≤ k ∧ k ≤ 47) ∨ (49 ≤ k ∧ k ≤ 75)) h h_3 := zsw_tr (zsw_tr (zsw_st eh_1 (by omega)) (zsw_st eh_2 (by omega))) (zsw_st eh_3 (by omega))
  have hr1 : zRk h_3 jc bc sx sy sz kn sd fc cc nu (upd pb jc (nI S.1)) so := ⟨(zg_ne eh_3 (by decide) (zg_ne eh_2 (by omega) (zg_ne eh_1 (by omega) hr.1))), (zg_ne eh_3 (by decide) (zg_ne eh_2 (by omega) (zg_ne eh_1 (by omega) hr.2.1))), (zg_ne eh_3 (by decide) (zg_ne eh_2 (by omega) (zg_ne eh_1 (by omega) hr.2.2.1))), (zg_ne eh_3 (by decide) (zg_ne eh_2 (by omega) (zg_ne eh_1 (by omega) hr.2.2.2.1))), (zg_ne eh_3 (by decide) (zg_ne eh_2 (by omega) (zg_ne eh_1 (by omega) hr.2.2.2.2.1))), (zg_eq eh_3 (zg_ne eh_2 (by omega) (zg_ne eh_1 (by omega) hr.2.2.2.2.2.1))), (zg_ne eh_3 (by decide) (zg_ne eh_2 (by omega) (zg_ne eh_1 (by omega) hr.2.2.2.2.2.2)))⟩
  have hpl0 : zPl h_2 (upd A jc u1) (upd B jc u2) (upd C jc u3) (upd D jc u4) := zPl_set (by omega) hpl eh_1 eh_2
  have hpl1 : zPl h_3 (upd A jc u1) (upd B jc u2) (upd C jc u3) (upd D jc u4) := ⟨zg_ne eh_3 (by decide) hpl0.1, fun j hj => zg_ne eh_3 (by omega) (hpl0.2.1 j hj), fun j hj => zAr_ne eh_3 (by omega) (hpl0.2.2 j hj)⟩
  have hp1 : zPp h_3 S := ⟨(zg_ne eh_3 (by omega) (zg_ne eh_2 (by omega) (zg_ne eh_1 (by omega) hp.1))), (zg_ne eh_3 (by omega) (zg_ne eh_2 (by omega) (zg_ne eh_1 (by omega) hp.2.1))), (zg_ne eh_3 (by omega) (zg_ne eh_2 (by omega) (zg_ne eh_1 (by omega) hp.2.2.1))), (zg_ne eh_3 (by omega) (zg_ne eh_2 (by omega) (zg_ne eh_1 (by omega) hp.2.2.2.1))), (zg_ne eh_3 (by omega) (zg_ne eh_2 (by omega) (zg_ne eh_1 (by omega) hp.2.2.2.2.1))), (zg_ne eh_3 (by omega) (zg_ne eh_2 (by omega) (zg_ne eh_1 (by omega) hp.2.2.2.2.2.1))), (zg_ne eh_3 (by omega) (zg_ne eh_2 (by omega) (zg_ne eh_1 (by omega) hp.2.2.2.2.2.2)))⟩
  have hcr1 : zCr h_3 := ⟨(by obtain ⟨x1, x2, x3, q1⟩ := hcr.1; exact ⟨x1, x2, x3, (zg_ne eh_3 (by omega) (zg_ne eh_2 (by omega) (zg_ne eh_1 (by omega) q1)))⟩), (by obtain ⟨x1, x2, x3, q1⟩ := hcr.2.1; exact ⟨x1, x2, x3, (zg_ne eh_3 (by omega) (zg_ne eh_2 (by omega) (zg_ne eh_1 (by omega) q1)))⟩), (by obtain ⟨x1, x2, x3, q1⟩ := hcr.2.2; exact ⟨x1, x2, x3, (zg_ne eh_3 (by omega) (zg_ne eh_2 (by omega) (zg_ne eh_1 (by omega) q1)))⟩)⟩
  refine pw_callVu (R' := (zroom 4 0 0)) [.int (nI jc)] (fun q => nomatch q) d_Rock_addJoint_47 lk_Rock_80 hr1.1 rfl rfl rfl (c_addFace hp1 hr1 hpl1 (by omega) hcr1 hbd) (fun h1 hh => ?_)
  obtain ⟨b1, b2, b3, b4, b5⟩ := hh
  refine pw_aload_n d_Rock_addJoint_50 rfl rfl ?_
  refine pw_dup d_Rock_addJoint_51 rfl ?_
  refine pw_get d_Rock_addJoint_52 fl_Rock_37 b2.1 rfl ?_
  refine pw_iconst (x := 1) d_Rock_addJoint_55 (by decide) ?_
  refine pw_iadd d_Rock_addJoint_56 ?_
  rw [nI_1 jc]
  obtain ⟨h_4, eh_4⟩ : ∃ x_9, x_9 = List.set h1 (34) (.inr (4, [.ref 35, .ref 36, .ref 43, .ref 44, .ref 45, .ref 46, .int (nI (jc + 1)), .int (nI bc), .int (sx), .int (sy), .int (sz), .ref 47, .ref 48, .ref 49, .ref 50, .ref 51, .int ((kn ||| (1 <<< (nI jc &&& 31))))])) := ⟨_, rfl⟩
  refine pw_put rfl d_Rock_addJoint_57 (fp_Rock_37 _ _) b2.1 (Nat.le_of_ble_eq_true rfl) (fun _ => ⟨rfl, rfl⟩) eh_4.symm ?_
  refine pw_aload_n d_Rock_addJoint_60 rfl rfl ?_
  have hz3 : zsm [34] h1 h_4 := zsm_st zsm_rf eh_4 (by decide)
  have hr3 : zRk h_4 (jc + 1) bc sx sy sz (kn ||| (1 <<< (nI jc &&& 31))) sd fc cc nu (upd pb jc (nI S.1)) so := ⟨(zg_eq eh_4 b2.1), (zg_ne eh_4 (by decide) b2.2.1), (zg_ne eh_4 (by decide) b2.2.2.1), (zg_ne eh_4 (by decide) b2.2.2.2.1), (zg_ne eh_4 (by decide) b2.2.2.2.2.1), (zg_ne eh_4 (by decide) b2.2.2.2.2.2.1), (zg_ne eh_4 (by decide) b2.2.2.2.2.2.2)⟩
  have hp3 := zPt_sm hz3 (fun j a1 a2 => by simp only [List.mem_singleton]; omega) b1
  refine pw_callVu (R' := (zroom 2 0 0)) [] (fun q => nomatch q) d_Rock_addJoint_61 lk_Rock_84 hr3.1 rfl rfl rfl (c_findBlocks hp3 hfin hr3 (by omega)) (fun h2 hk => ?_)
  refine pw_return d_Rock_addJoint_64 rfl (by decide) (by decide) ?_
  refine ⟨rfl, zPt_sm hk.2 (fun j => zRS_no) hp3, hk.1, ⟨(zsm_at hk.2 (by simp only [List.mem_cons, List.not_mem_nil, or_false]; omega) (zsm_at hz3 (by simp only [List.mem_singleton]; omega) b3.1)), fun j hj => (zsm_at hk.2 (by simp only [List.mem_cons, List.not_mem_nil, or_false]; omega) (zsm_at hz3 (by simp only [List.mem_singleton]; omega) (b3.2.1 j hj))), fun j hj => (zsm_at hk.2 (by simp only [List.mem_cons, List.not_mem_nil, or_false]; omega) (zsm_at hz3 (by simp only [List.mem_singleton]; omega) (b3.2.2 j hj)))⟩, ⟨?_, ?_, ?_⟩, ?_⟩
  · obtain ⟨x1, x2, x3, q1⟩ := b4.1; exact ⟨x1, x2, x3, (zsm_at hk.2 (by simp only [List.mem_cons, List.not_mem_nil, or_false]; omega) (zsm_at hz3 (by simp only [List.mem_singleton]; omega) q1))⟩
  · obtain ⟨x1, x2, x3, q1⟩ := b4.2.1; exact ⟨x1, x2, x3, (zsm_at hk.2 (by simp only [List.mem_cons, List.not_mem_nil, or_false]; omega) (zsm_at hz3 (by simp only [List.mem_singleton]; omega) q1))⟩
  · obtain ⟨x1, x2, x3, q1⟩ := b4.2.2; exact ⟨x1, x2, x3, (zsm_at hk.2 (by simp only [List.mem_cons, List.not_mem_nil, or_false]; omega) (zsm_at hz3 (by simp only [List.mem_singleton]; omega) q1))⟩
  · refine zsw_tr (zsw_tr (zsw_tr hw1 (zsw_of b5 ?_)) (zsw_of hz3 ?_)) (zsw_of hk.2 ?_) <;> intro j hj <;> simp only [List.mem_cons, List.not_mem_nil, or_false] at hj <;> omega
