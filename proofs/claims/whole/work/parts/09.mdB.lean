/-- how the point made lies to point p -/
def zOr (mk pt : Nat → Int32) (p : Nat) (t : Int32) : Prop := (∃ k, k < 3 ∧ (∀ j, j < k → (mk j * pt (4 * p + 3) - pt (4 * p + j) * mk 3) = 0) ∧ ¬ (mk k * pt (4 * p + 3) - pt (4 * p + k) * mk 3) = 0 ∧ t = if (mk k * pt (4 * p + 3) - pt (4 * p + k) * mk 3) < 0 then -1 else 1) ∨ (t = 0 ∧ ∀ k, k < 3 → (mk k * pt (4 * p + 3) - pt (4 * p + k) * mk 3) = 0)
set_option maxRecDepth 20000 in
set_option maxHeartbeats 2000000 in
theorem l_orderP {G : zG} {h : zH} {th : Int32} {jn dr pn bl tn : Nat} (hm : zMo h th jn dr pn bl tn) {pt mk : Nat → Int32} (h90 : h[90]? = some (.inl (0, 880, .inl pt))) (h94 : h[94]? = some (.inl (0, 4, .inl mk))) {p : Nat} (hp : p < 220) : ∀ (n i : Nat) (o3 : Option Value), 3 - i < n → i ≤ 3 → (∀ j, j < i → (mk j * pt (4 * p + 3) - pt (4 * p + j) * mk 3) = 0) → PW G M_Md_orderP (zroom 0 0 0) true (fun r h' => ∃ t : Int32, r = .inl (some (.int t)) ∧ h' = h ∧ zOr mk pt p t) 2 [some (.ref 84), some (.int (nI p)), some (.int (nI i)), o3] [] h 0 0 := by
  intro n
  induction n with
  | zero => intro i o3 hn; exact absurd hn (Nat.not_lt_zero _)
  | succ n ih =>
    intro i o3 hn hi hv
    refine pw_iload_n d_Md_orderP_2 rfl rfl ?_
    refine pw_iconst (x := 3) d_Md_orderP_3 (by decide) ?_
    refine pw_icmp_ge 63 d_Md_orderP_4 (by decide) (fun q_c => ?_) (fun q_c => ?_)
    · refine pw_iconst (x := 0) d_Md_orderP_63 (by decide) ?_
      refine pw_ireturn d_Md_orderP_64 rfl (by decide) (by decide) ?_
      have hic : i = 3 := by have := (nI_leI (a := 3) (b := i) (by decide) (by omega)).mp q_c; omega
      subst hic
      exact ⟨0, rfl, rfl, Or.inr ⟨rfl, hv⟩⟩
    · have hic : i < 3 := by have := mt (nI_leI (a := 3) (b := i) (by decide) (by omega)).mpr q_c; omega
      refine pw_aload_n d_Md_orderP_7 rfl rfl ?_
      refine pw_get d_Md_orderP_8 fl_Md_38 hm rfl ?_
      refine pw_iload_n d_Md_orderP_11 rfl rfl ?_
      refine pw_iald d_Md_orderP_12 h94 rfl rfl (by omega) (by decide) ?_
      refine pw_aload_n d_Md_orderP_13 rfl rfl ?_
      refine pw_get d_Md_orderP_14 fl_Md_26 hm rfl ?_
      refine pw_iconst (x := 4) d_Md_orderP_17 (by decide) ?_
      refine pw_iload_n d_Md_orderP_18 rfl rfl ?_
      refine pw_imul d_Md_orderP_19 ?_
      refine pw_iconst (x := 3) d_Md_orderP_20 (by decide) ?_
      refine pw_iadd d_Md_orderP_21 ?_
      refine pw_iald d_Md_orderP_22 h90 rfl (n4 p 3) (by omega) (by decide) ?_
      refine pw_imul d_Md_orderP_23 ?_
      refine pw_aload_n d_Md_orderP_24 rfl rfl ?_
      refine pw_get d_Md_orderP_25 fl_Md_26 hm rfl ?_
      refine pw_iconst (x := 4) d_Md_orderP_28 (by decide) ?_
      refine pw_iload_n d_Md_orderP_29 rfl rfl ?_
      refine pw_imul d_Md_orderP_30 ?_
      refine pw_iload_n d_Md_orderP_31 rfl rfl ?_
      refine pw_iadd d_Md_orderP_32 ?_
      refine pw_iald d_Md_orderP_33 h90 rfl (n4 p i) (by omega) (by decide) ?_
      refine pw_aload_n d_Md_orderP_34 rfl rfl ?_
      refine pw_get d_Md_orderP_35 fl_Md_38 hm rfl ?_
      refine pw_iconst (x := 3) d_Md_orderP_38 (by decide) ?_
      refine pw_iald d_Md_orderP_39 h94 rfl rfl (by decide) (by decide) ?_
      refine pw_imul d_Md_orderP_40 ?_
      refine pw_isub d_Md_orderP_41 ?_
      refine pw_istore_n d_Md_orderP_42 rfl (by decide) (pl' := [some (.ref 84), some (.int (nI p)), some (.int (nI i)), some (.int (((mk i * pt (4 * p + 3)) - (pt (4 * p + i) * mk 3))))]) rfl ?_
      refine pw_iload_n d_Md_orderP_43 rfl rfl ?_
      refine pw_if_eq 57 d_Md_orderP_44 (by decide) (fun q_z => ?_) (fun q_z => ?_)
      · refine pw_iinc (y := nI (i + 1)) d_Md_orderP_57 rfl (nI_1 i) (by decide) (pl' := [some (.ref 84), some (.int (nI p)), some (.int (nI (i + 1))), some (.int (((mk i * pt (4 * p + 3)) - (pt (4 * p + i) * mk 3))))]) rfl ?_
        refine pw_goto 2 d_Md_orderP_60 (by decide) ?_
        exact ih (i + 1) _ (by omega) (by omega) (fun j hj => by rcases Nat.lt_succ_iff_lt_or_eq.mp hj with h1 | rfl; exact hv j h1; exact q_z)
      · refine pw_iload_n d_Md_orderP_47 rfl rfl ?_
        refine pw_if_ge 55 d_Md_orderP_48 (by decide) (fun q_n => ?_) (fun q_n => ?_)
        · refine pw_iconst (x := 1) d_Md_orderP_55 (by decide) ?_
          refine pw_ireturn d_Md_orderP_56 rfl (by decide) (by decide) ?_
          exact ⟨_, rfl, rfl, Or.inl ⟨i, hic, hv, q_z, (if_neg (zlt.mpr q_n)).symm⟩⟩
        · refine pw_iconst (x := (-1)) d_Md_orderP_51 (by decide) ?_
          refine pw_goto 56 d_Md_orderP_52 (by decide) ?_
          refine pw_ireturn d_Md_orderP_56 rfl (by decide) (by decide) ?_
          exact ⟨_, rfl, rfl, Or.inl ⟨i, hic, hv, q_z, (if_pos (zle.mp q_n)).symm⟩⟩
set_option maxRecDepth 20000 in
set_option maxHeartbeats 2000000 in
theorem c_orderP {G : zG} {h : zH} {th : Int32} {jn dr pn bl tn : Nat} (hm : zMo h th jn dr pn bl tn) {pt mk : Nat → Int32} (h90 : h[90]? = some (.inl (0, 880, .inl pt))) (h94 : h[94]? = some (.inl (0, 4, .inl mk))) {p : Nat} (hp : p < 220) : PW G M_Md_orderP (zroom 0 0 0) true (fun r h' => ∃ t : Int32, r = .inl (some (.int t)) ∧ h' = h ∧ zOr mk pt p t) 0 (zentry 4 [.ref 84, .int (nI p)]) [] h 0 0 := by
  show PW G M_Md_orderP (zroom 0 0 0) true _ 0 [some (.ref 84), some (.int (nI p)), none, none] [] h 0 0
  refine pw_iconst (x := 0) d_Md_orderP_0 (by decide) ?_
  refine pw_istore_n d_Md_orderP_1 rfl (by decide) (pl' := [some (.ref 84), some (.int (nI p)), some (.int (0)), none]) rfl ?_
  exact l_orderP hm h90 h94 hp 4 0 _ (by decide) (by decide) (fun j hj => absurd hj (Nat.not_lt_zero _))
