theorem zadp_le {kn sx sy sz : Int32} {A B C D : Nat → Int32} {u1 u2 u3 u4 : Int32} {S : zPS} : (zadp kn sx sy sz A B C D u1 u2 u3 u4 S).1 ≤ S.1 + 1 := by
  unfold zadp
  split
  · exact Nat.le_refl _
  · exact Nat.le_succ _
theorem zmt_le {kn sx sy sz : Int32} {A B C D : Nat → Int32} {f g i : Nat} {S : zPS} : (zmt kn sx sy sz A B C D f g i S).1 ≤ S.1 + 1 := by
  unfold zmt
  split
  · exact Nat.le_succ _
  · exact zadp_le
/-- the pairs (g, i) with i from a place on, m of them -/
noncomputable def zinn (kn sx sy sz : Int32) (A B C D : Nat → Int32) (ot : Int32) (f g : Nat) : Nat → Nat → zPS → zPS
  | 0, _, S => S
  | m + 1, i, S => zinn kn sx sy sz A B C D ot f g m (i + 1) (if ((ot >>> (nI g &&& 31)) &&& 1 = 1 ∧ (ot >>> (nI i &&& 31)) &&& 1 = 1) then zmt kn sx sy sz A B C D f g i S else S)
def zci (ot : Int32) (g : Nat) : Nat → Nat → Nat
  | 0, _ => 0
  | m + 1, i => (if ((ot >>> (nI g &&& 31)) &&& 1 = 1 ∧ (ot >>> (nI i &&& 31)) &&& 1 = 1) then 1 else 0) + zci ot g m (i + 1)
theorem zMS_no {j : Nat} (h : j < 36 ∨ (42 < j ∧ j < 49) ∨ 51 < j) : j ∉ [36, 37, 38, 39, 40, 41, 42, 49, 50, 51] := by simp only [List.mem_cons, List.not_mem_nil, or_false]; omega
theorem zRk_s4 {h0 h : zH} {jc bc : Nat} {sx sy sz kn : Int32} {sd fc cc nu pb so : Nat → Int32} (hz : zsm [36, 37, 38, 39, 40, 41, 42, 49, 50, 51] h0 h) (hr : zRk h0 jc bc sx sy sz kn sd fc cc nu pb so) : zRk h jc bc sx sy sz kn sd fc cc nu pb so :=
  ⟨zsm_at hz (zMS_no (by omega)) hr.1, zsm_at hz (zMS_no (by omega)) hr.2.1, zsm_at hz (zMS_no (by omega)) hr.2.2.1, zsm_at hz (zMS_no (by omega)) hr.2.2.2.1, zsm_at hz (zMS_no (by omega)) hr.2.2.2.2.1, zsm_at hz (zMS_no (by omega)) hr.2.2.2.2.2.1, zsm_at hz (zMS_no (by omega)) hr.2.2.2.2.2.2⟩
theorem zPl_s4 {h0 h : zH} {A B C D : Nat → Int32} (hz : zsm [36, 37, 38, 39, 40, 41, 42, 49, 50, 51] h0 h) (hpl : zPl h0 A B C D) : zPl h A B C D :=
  ⟨zsm_at hz (zMS_no (by omega)) hpl.1, fun j hj => zsm_at hz (zMS_no (by omega)) (hpl.2.1 j hj), fun j hj => zsm_at hz (zMS_no (by omega)) (hpl.2.2 j hj)⟩
set_option maxRecDepth 20000 in
set_option maxHeartbeats 2000000 in
theorem l_in {G : zG} {h0 : zH} {T : zPS} {E : Nat} {jc bc : Nat} {sx sy sz kn ot : Int32} {sd fc cc nu pb so : Nat → Int32} (hr0 : zRk h0 jc bc sx sy sz kn sd fc cc nu pb so) {A B C D : Nat → Int32} (hpl0 : zPl h0 A B C D) {f g : Nat} (hf : f < 12) (hg : g < 12) {Q : zO → zH → Prop} (K : ∀ h, zPp h T → zCr h → zsm [36, 37, 38, 39, 40, 41, 42, 49, 50, 51] h0 h → T.1 + E ≤ 220 → PW G M_Rock_addFace (zroom 4 0 0) false Q 117 [some (.ref 34), some (.int (nI f)), some (.int ot), some (.int (nI g)), some (.int (nI 12))] [] h 0 0) : ∀ (n i : Nat) (h : zH) (S : zPS), 12 - i < n → i ≤ 12 → zPp h S → zCr h → zsm [36, 37, 38, 39, 40, 41, 42, 49, 50, 51] h0 h → S.1 + zci ot g (12 - i) i + E ≤ 220 → zinn kn sx sy sz A B C D ot f g (12 - i) i S = T → PW G M_Rock_addFace (zroom 4 0 0) false Q 64 [some (.ref 34), some (.int (nI f)), some (.int ot), some (.int (nI g)), some (.int (nI i))] [] h 0 0 := by
  intro n
  induction n with
  | zero => intro i h S hn; exact absurd hn (Nat.not_lt_zero _)
  | succ n ih =>
    intro i h S hn hi hp hcr hz hbd hfin
    have hr := zRk_s4 hz hr0
    have hpl := zPl_s4 hz hpl0
    obtain ⟨⟨e1, e2, e3, h49⟩, ⟨k1, k2, k3, h50⟩, ⟨m1, m2, m3, h51⟩⟩ := id hcr
    refine pw_iload d_Rock_addFace_64 rfl ?_
    refine pw_bipush (x := 12) d_Rock_addFace_66 (by decide) ?_
    refine pw_icmp_ge 117 d_Rock_addFace_68 (by decide) (fun q_c => ?_) (fun q_c => ?_)
    · have hic : i = 12 := by have := (nI_leI (a := 12) (b := i) (by decide) (by omega)).mp q_c; omega
      subst hic
      have e : S = T := hfin
      subst e
      exact K h hp hcr hz (by simpa [zci] using hbd)
    · have hic : i < 12 := by have := mt (nI_leI (a := 12) (b := i) (by decide) (by omega)).mpr q_c; omega
      have hk : 12 - i = (12 - (i + 1)) + 1 := by omega
      rw [hk] at hfin hbd
      simp only [zinn, zci] at hfin hbd
      refine pw_iload_n d_Rock_addFace_71 rfl rfl ?_
      refine pw_iload_n d_Rock_addFace_72 rfl rfl ?_
      refine pw_callS1 (R' := (zroom 0 0 0)) (h2 := h) [.int (ot), .int (nI g)] (fun q => nomatch q) d_Rock_addFace_73 lk_Rock_107 rfl rfl c_hasBit ?_
      refine pw_if_eq 111 d_Rock_addFace_76 (by decide) (fun q_g => ?_) (fun q_g => ?_)
      · refine pw_iinc (y := nI (i + 1)) d_Rock_addFace_111 rfl (nI_1 i) (by decide) (pl' := [some (.ref 34), some (.int (nI f)), some (.int (ot)), some (.int (nI g)), some (.int (nI (i + 1)))]) rfl ?_
        refine pw_goto 64 d_Rock_addFace_114 (by decide) ?_
        have hpr : ¬ ((ot >>> (nI g &&& 31)) &&& 1 = 1 ∧ (ot >>> (nI i &&& 31)) &&& 1 = 1) := fun z => z0 q_g z.1
        rw [if_neg hpr] at hfin hbd
        exact ih (i + 1) h _ (by omega) (by omega) hp hcr hz (by omega) hfin
      · refine pw_iload_n d_Rock_addFace_79 rfl rfl ?_
        refine pw_iload d_Rock_addFace_80 rfl ?_
        refine pw_callS1 (R' := (zroom 0 0 0)) (h2 := h) [.int (ot), .int (nI i)] (fun q => nomatch q) d_Rock_addFace_82 lk_Rock_107 rfl rfl c_hasBit ?_
        refine pw_if_eq 111 d_Rock_addFace_85 (by decide) (fun q_h => ?_) (fun q_h => ?_)
        · refine pw_iinc (y := nI (i + 1)) d_Rock_addFace_111 rfl (nI_1 i) (by decide) (pl' := [some (.ref 34), some (.int (nI f)), some (.int (ot)), some (.int (nI g)), some (.int (nI (i + 1)))]) rfl ?_
          refine pw_goto 64 d_Rock_addFace_114 (by decide) ?_
          have hpr : ¬ ((ot >>> (nI g &&& 31)) &&& 1 = 1 ∧ (ot >>> (nI i &&& 31)) &&& 1 = 1) := fun z => z0 q_h z.2
          rw [if_neg hpr] at hfin hbd
          exact ih (i + 1) h _ (by omega) (by omega) hp hcr hz (by omega) hfin
        · refine pw_aload_n d_Rock_addFace_88 rfl rfl ?_
          refine pw_aload_n d_Rock_addFace_89 rfl rfl ?_
          refine pw_get d_Rock_addFace_90 fl_Rock_11 hr.1 rfl ?_
          refine pw_iload_n d_Rock_addFace_93 rfl rfl ?_
          refine pw_aald (y := 52 + 2 * f) d_Rock_addFace_94 hpl.1 rfl rfl hf (by decide) (zPls_at hf) ?_
          refine pw_aload_n d_Rock_addFace_95 rfl rfl ?_
          refine pw_get d_Rock_addFace_96 fl_Rock_11 hr.1 rfl ?_
          refine pw_iload_n d_Rock_addFace_99 rfl rfl ?_
          refine pw_aald (y := 52 + 2 * g) d_Rock_addFace_100 hpl.1 rfl rfl hg (by decide) (zPls_at hg) ?_
          refine pw_aload_n d_Rock_addFace_101 rfl rfl ?_
          refine pw_get d_Rock_addFace_102 fl_Rock_11 hr.1 rfl ?_
          refine pw_iload d_Rock_addFace_105 rfl ?_
          refine pw_aald (y := 52 + 2 * i) d_Rock_addFace_107 hpl.1 rfl rfl hic (by decide) (zPls_at hic) ?_
          have hpr : ((ot >>> (nI g &&& 31)) &&& 1 = 1 ∧ (ot >>> (nI i &&& 31)) &&& 1 = 1) := ⟨z1 q_g, z1 q_h⟩
          rw [if_pos hpr] at hfin hbd
          refine pw_callVu (R' := (zroom 3 0 0)) [.ref (52 + 2 * f), .ref (52 + 2 * g), .ref (52 + 2 * i)] (fun q => nomatch q) d_Rock_addFace_108 lk_Rock_131 hr.1 rfl rfl rfl (c_meet hp (by omega) hr hpl hf hg hic h49 h50 h51) (fun h1 hh => ?_)
          refine pw_iinc (y := nI (i + 1)) d_Rock_addFace_111 rfl (nI_1 i) (by decide) (pl' := [some (.ref 34), some (.int (nI f)), some (.int (ot)), some (.int (nI g)), some (.int (nI (i + 1)))]) rfl ?_
          refine pw_goto 64 d_Rock_addFace_114 (by decide) ?_
          refine ih (i + 1) h1 _ (by omega) (by omega) hh.1 hh.2.1 (zsm_tr hz hh.2.2 (fun _ q => q)) ?_ hfin
          have := zmt_le (kn := kn) (sx := sx) (sy := sy) (sz := sz) (A := A) (B := B) (C := C) (D := D) (f := f) (g := g) (i := i) (S := S)
          omega
