noncomputable def zout (kn sx sy sz : Int32) (A B C D : Nat → Int32) (ot : Int32) (f : Nat) : Nat → Nat → zPS → zPS
  | 0, _, S => S
  | m + 1, g, S => zout kn sx sy sz A B C D ot f m (g + 1) (zinn kn sx sy sz A B C D ot f g (12 - (g + 1)) (g + 1) S)
def zco (ot : Int32) : Nat → Nat → Nat
  | 0, _ => 0
  | m + 1, g => zci ot g (12 - (g + 1)) (g + 1) + zco ot m (g + 1)
set_option maxRecDepth 20000 in
set_option maxHeartbeats 2000000 in
theorem l_out {G : zG} {h0 : zH} {T : zPS} {jc bc : Nat} {sx sy sz kn ot : Int32} {sd fc cc nu pb so : Nat → Int32} (hr0 : zRk h0 jc bc sx sy sz kn sd fc cc nu pb so) {A B C D : Nat → Int32} (hpl0 : zPl h0 A B C D) {f : Nat} (hf : f < 12) {Q : zO → zH → Prop} (K : ∀ h, zPp h T → zCr h → zsm [36, 37, 38, 39, 40, 41, 42, 49, 50, 51] h0 h → Q (.inl none) h) : ∀ (n g : Nat) (h : zH) (S : zPS) (o4 : Option Value), 12 - g < n → g ≤ 12 → zPp h S → zCr h → zsm [36, 37, 38, 39, 40, 41, 42, 49, 50, 51] h0 h → S.1 + zco ot (12 - g) g ≤ 220 → zout kn sx sy sz A B C D ot f (12 - g) g S = T → PW G M_Rock_addFace (zroom 4 0 0) false Q 53 [some (.ref 34), some (.int (nI f)), some (.int ot), some (.int (nI g)), o4] [] h 0 0 := by
  intro n
  induction n with
  | zero => intro g h S o4 hn; exact absurd hn (Nat.not_lt_zero _)
  | succ n ih =>
    intro g h S o4 hn hi hp hcr hz hbd hfin
    refine pw_iload_n d_Rock_addFace_53 rfl rfl ?_
    refine pw_bipush (x := 12) d_Rock_addFace_54 (by decide) ?_
    refine pw_icmp_ge 123 d_Rock_addFace_56 (by decide) (fun q_c => ?_) (fun q_c => ?_)
    · refine pw_return d_Rock_addFace_123 rfl (by decide) (by decide) ?_
      have hgc : g = 12 := by have := (nI_leI (a := 12) (b := g) (by decide) (by omega)).mp q_c; omega
      subst hgc
      have e : S = T := hfin
      subst e
      exact K h hp hcr hz
    · have hgc : g < 12 := by have := mt (nI_leI (a := 12) (b := g) (by decide) (by omega)).mpr q_c; omega
      have hk : 12 - g = (12 - (g + 1)) + 1 := by omega
      rw [hk] at hfin hbd
      simp only [zout, zco] at hfin hbd
      refine pw_iload_n d_Rock_addFace_59 rfl rfl ?_
      refine pw_iconst (x := 1) d_Rock_addFace_60 (by decide) ?_
      refine pw_iadd d_Rock_addFace_61 ?_
      refine pw_istore d_Rock_addFace_62 (by decide) (pl' := [some (.ref 34), some (.int (nI f)), some (.int (ot)), some (.int (nI g)), some (.int ((nI g + 1)))]) rfl ?_
      rw [nI_1 g]
      refine l_in (T := zinn kn sx sy sz A B C D ot f g (12 - (g + 1)) (g + 1) S) (E := zco ot (12 - (g + 1)) (g + 1)) hr0 hpl0 hf hgc (fun h1 a1 a2 a3 a4 => ?_) 13 (g + 1) h S (by omega) (by omega) hp hcr hz (by omega) rfl
      refine pw_iinc (y := nI (g + 1)) d_Rock_addFace_117 rfl (nI_1 g) (by decide) (pl' := [some (.ref 34), some (.int (nI f)), some (.int ot), some (.int (nI (g + 1))), some (.int (nI 12))]) rfl ?_
      refine pw_goto 53 d_Rock_addFace_120 (by decide) ?_
      exact ih (g + 1) h1 _ _ (by omega) (by omega) a1 a2 a3 a4 hfin
set_option maxRecDepth 20000 in
set_option maxHeartbeats 2000000 in
theorem c_addFace {G : zG} {h : zH} {S : zPS} (hp : zPp h S) {jc bc : Nat} {sx sy sz kn : Int32} {sd fc cc nu pb so : Nat → Int32} (hr : zRk h jc bc sx sy sz kn sd fc cc nu pb so) {A B C D : Nat → Int32} (hpl : zPl h A B C D) {f : Nat} (hf : f < 12) (hcr : zCr h) (hbd : S.1 + zco kn 12 0 ≤ 220) : PW G M_Rock_addFace (zroom 4 0 0) false (fun r h' => r = .inl none ∧ zPp h' (zout (kn ||| (1 <<< (nI f &&& 31))) sx sy sz A B C D kn f 12 0 (ztl A B C D f S S.1)) ∧ zRk h' jc bc sx sy sz (kn ||| (1 <<< (nI f &&& 31))) sd fc cc nu pb so ∧ zPl h' A B C D ∧ zCr h' ∧ zsm [34, 36, 37, 38, 39, 40, 41, 42, 49, 50, 51] h h') 0 (zentry 5 [.ref 34, .int (nI f)]) [] h 0 0 := by
  show PW G M_Rock_addFace (zroom 4 0 0) false _ 0 [some (.ref 34), some (.int (nI f)), none, none, none] [] h 0 0
  refine pw_iconst (x := 0) d_Rock_addFace_0 (by decide) ?_
  refine pw_istore_n d_Rock_addFace_1 rfl (by decide) (pl' := [some (.ref 34), some (.int (nI f)), some (.int (0)), none, none]) rfl ?_
  refine l_tell (S := S) (by omega) hr hpl hf (fun h1 a1 a2 => ?_) (S.1 + 1) 0 h (by omega) (by omega) (by unfold ztl; rw [zmr_0, zmr_0]; exact hp) zsm_rf
  have hr1 := zRk_s2 a2 (fun j h1 => zPS_no h1) hr
  have hpl1 := zPl_s2 a2 (fun j h1 => zPS_no h1) hpl
  refine pw_aload_n d_Rock_addFace_34 rfl rfl ?_
  refine pw_get d_Rock_addFace_35 fl_Rock_63 hr1.1 rfl ?_
  refine pw_istore_n d_Rock_addFace_38 rfl (by decide) (pl' := [some (.ref 34), some (.int (nI f)), some (.int (kn)), none, none]) rfl ?_
  refine pw_aload_n d_Rock_addFace_39 rfl rfl ?_
  refine pw_dup d_Rock_addFace_40 rfl ?_
  refine pw_get d_Rock_addFace_41 fl_Rock_63 hr1.1 rfl ?_
  refine pw_iconst (x := 1) d_Rock_addFace_44 (by decide) ?_
  refine pw_iload_n d_Rock_addFace_45 rfl rfl ?_
  refine pw_ishl d_Rock_addFace_46 ?_
  refine pw_ior d_Rock_addFace_47 ?_
  obtain ⟨h_51, eh_51⟩ : ∃ x_9, x_9 = List.set h1 (34) (.inr (4, [.ref 35, .ref 36, .ref 43, .ref 44, .ref 45, .ref 46, .int (nI jc), .int (nI bc), .int (sx), .int (sy), .int (sz), .ref 47, .ref 48, .ref 49, .ref 50, .ref 51, .int ((kn ||| (1 <<< ((nI f) &&& 31))))])) := ⟨_, rfl⟩
  refine pw_put rfl d_Rock_addFace_48 (fp_Rock_63 _ _) hr1.1 (Nat.le_of_ble_eq_true rfl) (fun _ => ⟨rfl, rfl⟩) eh_51.symm ?_
  refine pw_iconst (x := 0) d_Rock_addFace_51 (by decide) ?_
  refine pw_istore_n d_Rock_addFace_52 rfl (by decide) (pl' := [some (.ref 34), some (.int (nI f)), some (.int (kn)), some (.int (0)), none]) rfl ?_
  have hz2 : zsm [34] h1 h_51 := zsm_st zsm_rf eh_51 (by decide)
  have hr2 : zRk h_51 jc bc sx sy sz (kn ||| (1 <<< (nI f &&& 31))) sd fc cc nu pb so := ⟨(zg_eq eh_51 hr1.1), (zg_ne eh_51 (by decide) hr1.2.1), (zg_ne eh_51 (by decide) hr1.2.2.1), (zg_ne eh_51 (by decide) hr1.2.2.2.1), (zg_ne eh_51 (by decide) hr1.2.2.2.2.1), (zg_ne eh_51 (by decide) hr1.2.2.2.2.2.1), (zg_ne eh_51 (by decide) hr1.2.2.2.2.2.2)⟩
  have hpl2 : zPl h_51 A B C D := ⟨zsm_at hz2 (by decide) hpl1.1, fun j hj => zsm_at hz2 (by simp only [List.mem_singleton]; omega) (hpl1.2.1 j hj), fun j hj => zsm_at hz2 (by simp only [List.mem_singleton]; omega) (hpl1.2.2 j hj)⟩
  have hp2 : zPp h_51 (ztl A B C D f S S.1) := zPt_sm hz2 (fun j a1 a2 => by simp only [List.mem_singleton]; omega) a1
  have hcr2 : zCr h_51 := ⟨by obtain ⟨x1, x2, x3, e1⟩ := hcr.1; exact ⟨x1, x2, x3, zsm_at hz2 (by decide) (zsm_at a2 (by decide) e1)⟩, by obtain ⟨x1, x2, x3, e1⟩ := hcr.2.1; exact ⟨x1, x2, x3, zsm_at hz2 (by decide) (zsm_at a2 (by decide) e1)⟩, by obtain ⟨x1, x2, x3, e1⟩ := hcr.2.2; exact ⟨x1, x2, x3, zsm_at hz2 (by decide) (zsm_at a2 (by decide) e1)⟩⟩
  exact l_out hr2 hpl2 hf (fun h' b1 b2 b3 => ⟨rfl, b1, zRk_s4 b3 hr2, zPl_s4 b3 hpl2, b2, zsm_tr (zsm_tr (zsm_tr zsm_rf a2 (by decide)) hz2 (by decide)) b3 (by decide)⟩) 13 0 _ _ _ (by decide) (by decide) hp2 hcr2 zsm_rf hbd rfl
