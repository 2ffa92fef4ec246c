/-- the first i points with a mark at face f, where w holds -/
noncomputable def zmr (w : Nat → Prop) (m : Int32) (a : Nat → Int32) (i : Nat) : Nat → Int32 := fun p => @ite _ (p < i ∧ w p) (Classical.propDecidable _) (a p ||| m) (a p)
theorem zmr_0 {w : Nat → Prop} {m : Int32} {a : Nat → Int32} : zmr w m a 0 = a := by
  funext p
  unfold zmr
  rw [if_neg (fun z => Nat.not_lt_zero _ z.1)]
theorem zmr_s {w : Nat → Prop} {m : Int32} {a : Nat → Int32} {i : Nat} {d : Decidable (w i)} : (@ite _ (w i) d (upd (zmr w m a i) i (zmr w m a i i ||| m)) (zmr w m a i)) = zmr w m a (i + 1) := by
  have e0 : zmr w m a i i = a i := by unfold zmr; rw [if_neg (fun z => Nat.lt_irrefl _ z.1)]
  funext p
  by_cases hw : w i
  · rw [if_pos hw, e0]
    simp only [upd]
    by_cases hp : p = i
    · subst hp
      rw [if_pos rfl]
      unfold zmr
      rw [if_pos ⟨Nat.lt_succ_self _, hw⟩]
    · rw [if_neg hp]
      unfold zmr
      by_cases h : p < i ∧ w p
      · rw [if_pos h, if_pos ⟨Nat.lt_succ_of_lt h.1, h.2⟩]
      · rw [if_neg h, if_neg (fun z => h ⟨by omega, z.2⟩)]
  · rw [if_neg hw]
    unfold zmr
    by_cases h : p < i ∧ w p
    · rw [if_pos h, if_pos ⟨Nat.lt_succ_of_lt h.1, h.2⟩]
    · rw [if_neg h, if_neg (fun z => h ⟨by
        rcases Nat.lt_succ_iff_lt_or_eq.mp z.1 with q | q
        · exact q
        · subst q; exact absurd z.2 hw, z.2⟩)]
/-- the sides at face f told of the first i points -/
noncomputable def ztl (A B C D : Nat → Int32) (f : Nat) (S : zPS) (i : Nat) : zPS := (S.1, S.2.1, S.2.2.1, S.2.2.2.1, S.2.2.2.2.1, zmr (fun p => 0 < (A f * S.2.1 p + B f * S.2.2.1 p + C f * S.2.2.2.1 p - D f * S.2.2.2.2.1 p)) (1 <<< (nI f &&& 31)) S.2.2.2.2.2.1 i, zmr (fun p => (A f * S.2.1 p + B f * S.2.2.1 p + C f * S.2.2.2.1 p - D f * S.2.2.2.2.1 p) < 0) (1 <<< (nI f &&& 31)) S.2.2.2.2.2.2 i)
set_option maxRecDepth 20000 in
set_option maxHeartbeats 2000000 in
theorem l_tell {G : zG} {h0 : zH} {S : zPS} (hS : S.1 ≤ 220) {jc bc : Nat} {sx sy sz kn : Int32} {sd fc cc nu pb so : Nat → Int32} (hr0 : zRk h0 jc bc sx sy sz kn sd fc cc nu pb so) {A B C D : Nat → Int32} (hpl0 : zPl h0 A B C D) {f : Nat} (hf : f < 12) {o3 o4 : Option Value} {Q : zO → zH → Prop} (K : ∀ h, zPp h (ztl A B C D f S S.1) → zsm [36, 37, 38, 39, 40, 41, 42] h0 h → PW G M_Rock_addFace (zroom 4 0 0) false Q 34 [some (.ref 34), some (.int (nI f)), some (.int (nI S.1)), o3, o4] [] h 0 0) : ∀ (n i : Nat) (h : zH), S.1 - i < n → i ≤ S.1 → zPp h (ztl A B C D f S i) → zsm [36, 37, 38, 39, 40, 41, 42] h0 h → PW G M_Rock_addFace (zroom 4 0 0) false Q 2 [some (.ref 34), some (.int (nI f)), some (.int (nI i)), o3, o4] [] h 0 0 := by
  intro n
  induction n with
  | zero => intro i h hn; exact absurd hn (Nat.not_lt_zero _)
  | succ n ih =>
    intro i h hn hi hp hz
    have hr := zRk_s2 hz (fun j h1 => zPS_no h1) hr0
    have hpl := zPl_s2 hz (fun j h1 => zPS_no h1) hpl0
    refine pw_iload_n d_Rock_addFace_2 rfl rfl ?_
    refine pw_aload_n d_Rock_addFace_3 rfl rfl ?_
    refine pw_get d_Rock_addFace_4 fl_Rock_20 hr.1 rfl ?_
    refine pw_get d_Rock_addFace_7 fl_Rock_100 hp.1 rfl ?_
    refine pw_icmp_ge 34 d_Rock_addFace_10 (by decide) (fun q_c => ?_) (fun q_c => ?_)
    · have hic : i = S.1 := by have := (nI_leI (a := S.1) (b := i) (by omega) (by omega)).mp q_c; omega
      subst hic
      exact K h hp hz
    · have hic : i < S.1 := by have := mt (nI_leI (a := S.1) (b := i) (by omega) (by omega)).mpr q_c; omega
      refine pw_aload_n d_Rock_addFace_13 rfl rfl ?_
      refine pw_get d_Rock_addFace_14 fl_Rock_20 hr.1 rfl ?_
      refine pw_iload_n d_Rock_addFace_17 rfl rfl ?_
      refine pw_iload_n d_Rock_addFace_18 rfl rfl ?_
      refine pw_aload_n d_Rock_addFace_19 rfl rfl ?_
      refine pw_get d_Rock_addFace_20 fl_Rock_11 hr.1 rfl ?_
      refine pw_iload_n d_Rock_addFace_23 rfl rfl ?_
      refine pw_aald (y := 52 + 2 * f) d_Rock_addFace_24 hpl.1 rfl rfl hf (by decide) (zPls_at hf) ?_
      refine pw_callVu (R' := (zroom 1 0 0)) [.int (nI i), .int (nI f), .ref (52 + 2 * f)] (fun q => nomatch q) d_Rock_addFace_25 lk_Rock_127 hp.1 rfl rfl rfl (c_tellSide hp (show i < 220 by omega) (hpl.2.1 f hf) (hpl.2.2 f hf)) (fun h1 hh => ?_)
      refine pw_iinc (y := nI (i + 1)) d_Rock_addFace_28 rfl (nI_1 i) (by decide) (pl' := [some (.ref 34), some (.int (nI f)), some (.int (nI (i + 1))), o3, o4]) rfl ?_
      refine pw_goto 2 d_Rock_addFace_31 (by decide) ?_
      refine ih (i + 1) h1 (by omega) (by omega) ?_ (zsm_tr hz hh.2 (fun _ q => q))
      have h2 := hh.1
      unfold zPp ztl
      unfold ztl at h2
      dsimp only at h2 ⊢
      rw [← zmr_s (i := i), ← zmr_s (i := i)]
      exact h2
