set_option maxRecDepth 20000 in
set_option maxHeartbeats 2000000 in
theorem l_cornersOf {G : zG} {h : zH} {th : Int32} {jn dr pn bl tn : Nat} (hm : zMo h th jn dr pn bl tn) {pa pw bs : Nat → Int32} (h92 : h[92]? = some (.inl (0, 220, .inl pa))) (h93 : h[93]? = some (.inl (0, 220, .inl pw))) (h95 : h[95]? = some (.inl (0, 64, .inl bs))) (hpn : pn ≤ 220) {k : Nat} (hk : k < 64) : ∀ (n i : Nat) , pn - i < n → i ≤ pn → (True) → PW G M_Md_cornersOf (zroom 1 0 0) true (zr (some (.int (nI (zct (fun p => ztp (bs k) pa pw p) pn)))) h) 4 [some (.ref 84), some (.int (nI k)), some (.int (nI (zct (fun p => ztp (bs k) pa pw p) i))), some (.int (nI i))] [] h 0 0 := by
  intro n
  induction n with
  | zero => intro i  hn; exact absurd hn (Nat.not_lt_zero _)
  | succ n ih =>
    intro i  hn hi _
    refine pw_iload_n d_Md_cornersOf_4 rfl rfl ?_
    refine pw_aload_n d_Md_cornersOf_5 rfl rfl ?_
    refine pw_get d_Md_cornersOf_6 fl_Md_94 hm rfl ?_
    refine pw_icmp_ge 40 d_Md_cornersOf_9 (by decide) (fun q_c => ?_) (fun q_c => ?_)
    · refine pw_iload_n d_Md_cornersOf_40 rfl rfl ?_
      refine pw_ireturn d_Md_cornersOf_41 rfl (by decide) (by decide) ?_
      have hic : i = pn := by have := (nI_leI (a := pn) (b := i) (by omega) (by omega)).mp q_c; omega
      subst hic
      exact ⟨rfl, rfl⟩
    · have hic : i < pn := by have := mt (nI_leI (a := pn) (b := i) (by omega) (by omega)).mpr q_c; omega
      refine pw_aload_n d_Md_cornersOf_12 rfl rfl ?_
      refine pw_iload_n d_Md_cornersOf_13 rfl rfl ?_
      refine pw_aload_n d_Md_cornersOf_14 rfl rfl ?_
      refine pw_get d_Md_cornersOf_15 fl_Md_41 hm rfl ?_
      refine pw_iload_n d_Md_cornersOf_18 rfl rfl ?_
      refine pw_iald d_Md_cornersOf_19 h95 rfl rfl hk (by decide) ?_
      refine pw_callV1 (R' := (zroom 0 0 0)) (h2 := h) [.int (nI i), .int (bs k)] (fun _ => rfl) d_Md_cornersOf_20 lk_Md_127 hm rfl rfl rfl (c_isOf hm h92 h93 (show i < 220 by omega)) ?_
      refine pw_if_eq 32 d_Md_cornersOf_23 (by decide) (fun q_b => ?_) (fun q_b => ?_)
      · refine pw_iload_n d_Md_cornersOf_32 rfl rfl ?_
        refine pw_istore_n d_Md_cornersOf_33 rfl (by decide) (pl' := [some (.ref 84), some (.int (nI k)), some (.int (nI (zct (fun p => ztp (bs k) pa pw p) i))), some (.int (nI i))]) rfl ?_
        refine pw_iinc (y := nI (i + 1)) d_Md_cornersOf_34 rfl (nI_1 i) (by decide) (pl' := [some (.ref 84), some (.int (nI k)), some (.int (nI (zct (fun p => ztp (bs k) pa pw p) i))), some (.int (nI (i + 1)))]) rfl ?_
        refine pw_goto 4 d_Md_cornersOf_37 (by decide) ?_
        have e9 : (zct (fun p => ztp (bs k) pa pw p) (i + 1)) = (zct (fun p => ztp (bs k) pa pw p) i) := zct_f (P := fun p => ztp (bs k) pa pw p) (z0 q_b)
        have h9 := ih (i + 1) (by omega) (by omega) trivial
        rw [e9] at h9
        exact h9
      · refine pw_iload_n d_Md_cornersOf_26 rfl rfl ?_
        refine pw_iconst (x := 1) d_Md_cornersOf_27 (by decide) ?_
        refine pw_iadd d_Md_cornersOf_28 ?_
        refine pw_goto 33 d_Md_cornersOf_29 (by decide) ?_
        refine pw_istore_n d_Md_cornersOf_33 rfl (by decide) (pl' := [some (.ref 84), some (.int (nI k)), some (.int ((nI (zct (fun p => ztp (bs k) pa pw p) i) + 1))), some (.int (nI i))]) rfl ?_
        refine pw_iinc (y := nI (i + 1)) d_Md_cornersOf_34 rfl (nI_1 i) (by decide) (pl' := [some (.ref 84), some (.int (nI k)), some (.int ((nI (zct (fun p => ztp (bs k) pa pw p) i) + 1))), some (.int (nI (i + 1)))]) rfl ?_
        refine pw_goto 4 d_Md_cornersOf_37 (by decide) ?_
        have e9 : (zct (fun p => ztp (bs k) pa pw p) (i + 1)) = (zct (fun p => ztp (bs k) pa pw p) i) + 1 := zct_t (P := fun p => ztp (bs k) pa pw p) (z1 q_b)
        have h9 := ih (i + 1) (by omega) (by omega) trivial
        rw [e9, ← nI_1] at h9
        exact h9
set_option maxRecDepth 20000 in
set_option maxHeartbeats 2000000 in
theorem c_cornersOf {G : zG} {h : zH} {th : Int32} {jn dr pn bl tn : Nat} (hm : zMo h th jn dr pn bl tn) {pa pw bs : Nat → Int32} (h92 : h[92]? = some (.inl (0, 220, .inl pa))) (h93 : h[93]? = some (.inl (0, 220, .inl pw))) (h95 : h[95]? = some (.inl (0, 64, .inl bs))) (hpn : pn ≤ 220) {k : Nat} (hk : k < 64) : PW G M_Md_cornersOf (zroom 1 0 0) true (zr (some (.int (nI (zct (fun p => ztp (bs k) pa pw p) pn)))) h) 0 (zentry 4 [.ref 84, .int (nI k)]) [] h 0 0 := by
  show PW G M_Md_cornersOf (zroom 1 0 0) true _ 0 [some (.ref 84), some (.int (nI k)), none, none] [] h 0 0
  refine pw_iconst (x := 0) d_Md_cornersOf_0 (by decide) ?_
  refine pw_istore_n d_Md_cornersOf_1 rfl (by decide) (pl' := [some (.ref 84), some (.int (nI k)), some (.int (0)), none]) rfl ?_
  refine pw_iconst (x := 0) d_Md_cornersOf_2 (by decide) ?_
  refine pw_istore_n d_Md_cornersOf_3 rfl (by decide) (pl' := [some (.ref 84), some (.int (nI k)), some (.int (0)), some (.int (0))]) rfl ?_
  exact l_cornersOf hm h92 h93 h95 hpn hk (pn + 1) 0 (by omega) (by omega) trivial
/-- strictly on its sides of every joint -/
def rIns (ml bs : Nat → Int32) (jn k : Nat) (x y z : Int32) : Prop := ∀ j, j < jn → if (bs k >>> (nI j &&& 31)) &&& 1 = 1 then 0 < (ml (4 * j) * x + ml (4 * j + 1) * y + ml (4 * j + 2) * z - ml (4 * j + 3)) else (ml (4 * j) * x + ml (4 * j + 1) * y + ml (4 * j + 2) * z - ml (4 * j + 3)) < 0
set_option maxRecDepth 20000 in
set_option maxHeartbeats 2000000 in
theorem l_isInside {G : zG} {h : zH} {th : Int32} {jn dr pn bl tn : Nat} (hm : zMo h th jn dr pn bl tn) {ml bs : Nat → Int32} (h86 : h[86]? = some (.inl (0, 48, .inl ml))) (h95 : h[95]? = some (.inl (0, 64, .inl bs))) (hjn : jn ≤ 6) {k : Nat} (hk : k < 64) {x y z : Int32} : ∀ (n i : Nat) (is_ : Int32) (o7 : Option Value), jn - i < n → i ≤ jn → ((is_ = 1 ∧ ∀ j, j < i → if (bs k >>> (nI j &&& 31)) &&& 1 = 1 then 0 < (ml (4 * j) * x + ml (4 * j + 1) * y + ml (4 * j + 2) * z - ml (4 * j + 3)) else (ml (4 * j) * x + ml (4 * j + 1) * y + ml (4 * j + 2) * z - ml (4 * j + 3)) < 0) ∨ (is_ = 0 ∧ ¬ rIns ml bs jn k x y z)) → PW G M_Md_isInside (zroom 0 0 0) true (fun r h' => ∃ t : Int32, r = .inl (some (.int t)) ∧ h' = h ∧ ((t = 1 ∧ rIns ml bs jn k x y z) ∨ (t = 0 ∧ ¬ rIns ml bs jn k x y z))) 6 [some (.ref 84), some (.int (nI k)), some (.int x), some (.int y), some (.int z), some (.int is_), some (.int (nI i)), o7] [] h 0 0 := by
  intro n
  induction n with
  | zero => intro i is_ o7 hn; exact absurd hn (Nat.not_lt_zero _)
  | succ n ih =>
    intro i is_ o7 hn hi hI
    refine pw_iload d_Md_isInside_6 rfl ?_
    refine pw_aload_n d_Md_isInside_8 rfl rfl ?_
    refine pw_get d_Md_isInside_9 fl_Md_83 hm rfl ?_
    refine pw_icmp_ge 115 d_Md_isInside_12 (by decide) (fun q_c => ?_) (fun q_c => ?_)
    · refine pw_iload d_Md_isInside_115 rfl ?_
      refine pw_zreturn d_Md_isInside_117 rfl (by rcases hI with ⟨e, -⟩ | ⟨e, -⟩; exact Or.inr e; exact Or.inl e) (by decide) (by decide) ?_
      have hic : i = jn := by have := (nI_leI (a := jn) (b := i) (by omega) (by omega)).mp q_c; omega
      subst hic
      exact ⟨is_, rfl, rfl, hI⟩
    · have hic : i < jn := by have := mt (nI_leI (a := jn) (b := i) (by omega) (by omega)).mpr q_c; omega
      refine pw_aload_n d_Md_isInside_15 rfl rfl ?_
      refine pw_get d_Md_isInside_16 fl_Md_13 hm rfl ?_
      refine pw_iconst (x := 4) d_Md_isInside_19 (by decide) ?_
      refine pw_iload d_Md_isInside_20 rfl ?_
      refine pw_imul d_Md_isInside_22 ?_
      refine pw_iald d_Md_isInside_23 h86 rfl (n40 i) (by omega) (by decide) ?_
      refine pw_iload_n d_Md_isInside_24 rfl rfl ?_
      refine pw_imul d_Md_isInside_25 ?_
      refine pw_aload_n d_Md_isInside_26 rfl rfl ?_
      refine pw_get d_Md_isInside_27 fl_Md_13 hm rfl ?_
      refine pw_iconst (x := 4) d_Md_isInside_30 (by decide) ?_
      refine pw_iload d_Md_isInside_31 rfl ?_
      refine pw_imul d_Md_isInside_33 ?_
      refine pw_iconst (x := 1) d_Md_isInside_34 (by decide) ?_
      refine pw_iadd d_Md_isInside_35 ?_
      refine pw_iald d_Md_isInside_36 h86 rfl (n4 i 1) (by omega) (by decide) ?_
      refine pw_iload_n d_Md_isInside_37 rfl rfl ?_
      refine pw_imul d_Md_isInside_38 ?_
      refine pw_iadd d_Md_isInside_39 ?_
      refine pw_aload_n d_Md_isInside_40 rfl rfl ?_
      refine pw_get d_Md_isInside_41 fl_Md_13 hm rfl ?_
      refine pw_iconst (x := 4) d_Md_isInside_44 (by decide) ?_
      refine pw_iload d_Md_isInside_45 rfl ?_
      refine pw_imul d_Md_isInside_47 ?_
      refine pw_iconst (x := 2) d_Md_isInside_48 (by decide) ?_
      refine pw_iadd d_Md_isInside_49 ?_
      refine pw_iald d_Md_isInside_50 h86 rfl (n4 i 2) (by omega) (by decide) ?_
      refine pw_iload d_Md_isInside_51 rfl ?_
      refine pw_imul d_Md_isInside_53 ?_
      refine pw_iadd d_Md_isInside_54 ?_
      refine pw_aload_n d_Md_isInside_55 rfl rfl ?_
      refine pw_get d_Md_isInside_56 fl_Md_13 hm rfl ?_
      refine pw_iconst (x := 4) d_Md_isInside_59 (by decide) ?_
      refine pw_iload d_Md_isInside_60 rfl ?_
      refine pw_imul d_Md_isInside_62 ?_
      refine pw_iconst (x := 3) d_Md_isInside_63 (by decide) ?_
      refine pw_iadd d_Md_isInside_64 ?_
      refine pw_iald d_Md_isInside_65 h86 rfl (n4 i 3) (by omega) (by decide) ?_
      refine pw_isub d_Md_isInside_66 ?_
      refine pw_istore d_Md_isInside_67 (by decide) (pl' := [some (.ref 84), some (.int (nI k)), some (.int (x)), some (.int (y)), some (.int (z)), some (.int (is_)), some (.int (nI i)), some (.int (((((ml (4 * i) * x) + (ml (4 * i + 1) * y)) + (ml (4 * i + 2) * z)) - ml (4 * i + 3))))]) rfl ?_
      refine pw_iload d_Md_isInside_69 rfl ?_
      refine pw_if_eq 106 d_Md_isInside_71 (by decide) (fun q_r => ?_) (fun q_r => ?_)
      · refine pw_iconst (x := 0) d_Md_isInside_106 (by decide) ?_
        refine pw_istore d_Md_isInside_107 (by decide) (pl' := [some (.ref 84), some (.int (nI k)), some (.int (x)), some (.int (y)), some (.int (z)), some (.int (0)), some (.int (nI i)), some (.int (((((ml (4 * i) * x) + (ml (4 * i + 1) * y)) + (ml (4 * i + 2) * z)) - ml (4 * i + 3))))]) rfl ?_
        refine pw_iinc (y := nI (i + 1)) d_Md_isInside_109 rfl (nI_1 i) (by decide) (pl' := [some (.ref 84), some (.int (nI k)), some (.int (x)), some (.int (y)), some (.int (z)), some (.int (0)), some (.int (nI (i + 1))), some (.int (((((ml (4 * i) * x) + (ml (4 * i + 1) * y)) + (ml (4 * i + 2) * z)) - ml (4 * i + 3))))]) rfl ?_
        refine pw_goto 6 d_Md_isInside_112 (by decide) ?_
        exact ih (i + 1) 0 _ (by omega) (by omega) (Or.inr ⟨rfl, (hI.resolve_left (fun z => absurd (z.1.symm.trans q_r) (by decide))).2⟩)
      · refine pw_aload_n d_Md_isInside_74 rfl rfl ?_
        refine pw_get d_Md_isInside_75 fl_Md_41 hm rfl ?_
        refine pw_iload_n d_Md_isInside_78 rfl rfl ?_
        refine pw_iald d_Md_isInside_79 h95 rfl rfl hk (by decide) ?_
        refine pw_iload d_Md_isInside_80 rfl ?_
        refine pw_ishr d_Md_isInside_82 ?_
        refine pw_iconst (x := 1) d_Md_isInside_83 (by decide) ?_
        refine pw_iand d_Md_isInside_84 ?_
        refine pw_iconst (x := 1) d_Md_isInside_85 (by decide) ?_
        refine pw_icmp_ne 97 d_Md_isInside_86 (by decide) (fun q_b => ?_) (fun q_b => ?_)
        · refine pw_iload d_Md_isInside_97 rfl ?_
          refine pw_if_ge 106 d_Md_isInside_99 (by decide) (fun q_s => ?_) (fun q_s => ?_)
          · refine pw_iconst (x := 0) d_Md_isInside_106 (by decide) ?_
            refine pw_istore d_Md_isInside_107 (by decide) (pl' := [some (.ref 84), some (.int (nI k)), some (.int (x)), some (.int (y)), some (.int (z)), some (.int (0)), some (.int (nI i)), some (.int (((((ml (4 * i) * x) + (ml (4 * i + 1) * y)) + (ml (4 * i + 2) * z)) - ml (4 * i + 3))))]) rfl ?_
            refine pw_iinc (y := nI (i + 1)) d_Md_isInside_109 rfl (nI_1 i) (by decide) (pl' := [some (.ref 84), some (.int (nI k)), some (.int (x)), some (.int (y)), some (.int (z)), some (.int (0)), some (.int (nI (i + 1))), some (.int (((((ml (4 * i) * x) + (ml (4 * i + 1) * y)) + (ml (4 * i + 2) * z)) - ml (4 * i + 3))))]) rfl ?_
            refine pw_goto 6 d_Md_isInside_112 (by decide) ?_
            exact ih (i + 1) 0 _ (by omega) (by omega) (Or.inr ⟨rfl, fun z => by have h9 := z i hic; rw [if_neg q_b] at h9; exact absurd h9 (zlt.mpr q_s)⟩)
          · refine pw_iconst (x := 1) d_Md_isInside_102 (by decide) ?_
            refine pw_goto 107 d_Md_isInside_103 (by decide) ?_
            refine pw_istore d_Md_isInside_107 (by decide) (pl' := [some (.ref 84), some (.int (nI k)), some (.int (x)), some (.int (y)), some (.int (z)), some (.int (1)), some (.int (nI i)), some (.int (((((ml (4 * i) * x) + (ml (4 * i + 1) * y)) + (ml (4 * i + 2) * z)) - ml (4 * i + 3))))]) rfl ?_
            refine pw_iinc (y := nI (i + 1)) d_Md_isInside_109 rfl (nI_1 i) (by decide) (pl' := [some (.ref 84), some (.int (nI k)), some (.int (x)), some (.int (y)), some (.int (z)), some (.int (1)), some (.int (nI (i + 1))), some (.int (((((ml (4 * i) * x) + (ml (4 * i + 1) * y)) + (ml (4 * i + 2) * z)) - ml (4 * i + 3))))]) rfl ?_
            refine pw_goto 6 d_Md_isInside_112 (by decide) ?_
            exact ih (i + 1) 1 _ (by omega) (by omega) (Or.inl ⟨rfl, fun j hj => by rcases Nat.lt_succ_iff_lt_or_eq.mp hj with h1 | rfl; exact (hI.resolve_right (fun z => q_r z.1)).2 j h1; rw [if_neg q_b]; exact zle.mp q_s⟩)
        · refine pw_iload d_Md_isInside_89 rfl ?_
          refine pw_if_le 106 d_Md_isInside_91 (by decide) (fun q_s => ?_) (fun q_s => ?_)
          · refine pw_iconst (x := 0) d_Md_isInside_106 (by decide) ?_
            refine pw_istore d_Md_isInside_107 (by decide) (pl' := [some (.ref 84), some (.int (nI k)), some (.int (x)), some (.int (y)), some (.int (z)), some (.int (0)), some (.int (nI i)), some (.int (((((ml (4 * i) * x) + (ml (4 * i + 1) * y)) + (ml (4 * i + 2) * z)) - ml (4 * i + 3))))]) rfl ?_
            refine pw_iinc (y := nI (i + 1)) d_Md_isInside_109 rfl (nI_1 i) (by decide) (pl' := [some (.ref 84), some (.int (nI k)), some (.int (x)), some (.int (y)), some (.int (z)), some (.int (0)), some (.int (nI (i + 1))), some (.int (((((ml (4 * i) * x) + (ml (4 * i + 1) * y)) + (ml (4 * i + 2) * z)) - ml (4 * i + 3))))]) rfl ?_
            refine pw_goto 6 d_Md_isInside_112 (by decide) ?_
            exact ih (i + 1) 0 _ (by omega) (by omega) (Or.inr ⟨rfl, fun z => by have h9 := z i hic; rw [if_pos q_b] at h9; exact absurd h9 (zlt.mpr q_s)⟩)
          · refine pw_goto 102 d_Md_isInside_94 (by decide) ?_
            refine pw_iconst (x := 1) d_Md_isInside_102 (by decide) ?_
            refine pw_goto 107 d_Md_isInside_103 (by decide) ?_
            refine pw_istore d_Md_isInside_107 (by decide) (pl' := [some (.ref 84), some (.int (nI k)), some (.int (x)), some (.int (y)), some (.int (z)), some (.int (1)), some (.int (nI i)), some (.int (((((ml (4 * i) * x) + (ml (4 * i + 1) * y)) + (ml (4 * i + 2) * z)) - ml (4 * i + 3))))]) rfl ?_
            refine pw_iinc (y := nI (i + 1)) d_Md_isInside_109 rfl (nI_1 i) (by decide) (pl' := [some (.ref 84), some (.int (nI k)), some (.int (x)), some (.int (y)), some (.int (z)), some (.int (1)), some (.int (nI (i + 1))), some (.int (((((ml (4 * i) * x) + (ml (4 * i + 1) * y)) + (ml (4 * i + 2) * z)) - ml (4 * i + 3))))]) rfl ?_
            refine pw_goto 6 d_Md_isInside_112 (by decide) ?_
            exact ih (i + 1) 1 _ (by omega) (by omega) (Or.inl ⟨rfl, fun j hj => by rcases Nat.lt_succ_iff_lt_or_eq.mp hj with h1 | rfl; exact (hI.resolve_right (fun z => q_r z.1)).2 j h1; rw [if_pos q_b]; exact zle.mp q_s⟩)
set_option maxRecDepth 20000 in
set_option maxHeartbeats 2000000 in
theorem c_isInside {G : zG} {h : zH} {th : Int32} {jn dr pn bl tn : Nat} (hm : zMo h th jn dr pn bl tn) {ml bs : Nat → Int32} (h86 : h[86]? = some (.inl (0, 48, .inl ml))) (h95 : h[95]? = some (.inl (0, 64, .inl bs))) (hjn : jn ≤ 6) {k : Nat} (hk : k < 64) {x y z : Int32} : PW G M_Md_isInside (zroom 0 0 0) true (fun r h' => ∃ t : Int32, r = .inl (some (.int t)) ∧ h' = h ∧ ((t = 1 ∧ rIns ml bs jn k x y z) ∨ (t = 0 ∧ ¬ rIns ml bs jn k x y z))) 0 (zentry 8 [.ref 84, .int (nI k), .int (x), .int (y), .int (z)]) [] h 0 0 := by
  show PW G M_Md_isInside (zroom 0 0 0) true _ 0 [some (.ref 84), some (.int (nI k)), some (.int (x)), some (.int (y)), some (.int (z)), none, none, none] [] h 0 0
  refine pw_iconst (x := 1) d_Md_isInside_0 (by decide) ?_
  refine pw_istore d_Md_isInside_1 (by decide) (pl' := [some (.ref 84), some (.int (nI k)), some (.int (x)), some (.int (y)), some (.int (z)), some (.int (1)), none, none]) rfl ?_
  refine pw_iconst (x := 0) d_Md_isInside_3 (by decide) ?_
  refine pw_istore d_Md_isInside_4 (by decide) (pl' := [some (.ref 84), some (.int (nI k)), some (.int (x)), some (.int (y)), some (.int (z)), some (.int (1)), some (.int (0)), none]) rfl ?_
  exact l_isInside hm h86 h95 hjn hk (jn + 1) 0 1 _ (by omega) (by omega) (Or.inl ⟨rfl, fun j hj => absurd hj (Nat.not_lt_zero _)⟩)
/-- sums -/
def zsu (f : Nat → Nat) : Nat → Nat
  | 0 => 0
  | n + 1 => zsu f n + f n
theorem zsu_cg {f g : Nat → Nat} {n : Nat} (h : ∀ i, i < n → f i = g i) : zsu f n = zsu g n := by
  induction n with
  | zero => rfl
  | succ n ih => simp only [zsu]; rw [ih (fun i hi => h i (by omega)), h n (by omega)]
noncomputable def zc1 (P : Nat → Nat → Nat → Prop) (x y z : Nat) : Nat := zct (fun z => 1 ≤ z ∧ P x y z) z
noncomputable def zc2 (P : Nat → Nat → Nat → Prop) (Z x y : Nat) : Nat := zsu (fun y => if 1 ≤ y then zc1 P x y Z else 0) y
noncomputable def zc3 (P : Nat → Nat → Nat → Prop) (Y Z x : Nat) : Nat := zsu (fun x => if 1 ≤ x then zc2 P Z x Y else 0) x
theorem zc1_1 (P : Nat → Nat → Nat → Prop) (x y : Nat) : zc1 P x y 1 = 0 := zct_f (fun z => absurd z.1 (by decide))
theorem zc2_1 (P : Nat → Nat → Nat → Prop) (Z x : Nat) : zc2 P Z x 1 = 0 := rfl
theorem zc3_1 (P : Nat → Nat → Nat → Prop) (Y Z : Nat) : zc3 P Y Z 1 = 0 := rfl
theorem zc2_s (P : Nat → Nat → Nat → Prop) (Z x y : Nat) (hy : 1 ≤ y) : zc2 P Z x (y + 1) = zc2 P Z x y + zc1 P x y Z := by simp only [zc2, zsu]; rw [if_pos hy]
theorem zc3_s (P : Nat → Nat → Nat → Prop) (Y Z x : Nat) (hx : 1 ≤ x) : zc3 P Y Z (x + 1) = zc3 P Y Z x + zc2 P Z x Y := by simp only [zc3, zsu]; rw [if_pos hx]
theorem zc3_cg {P Q : Nat → Nat → Nat → Prop} (h : ∀ x y z, P x y z ↔ Q x y z) (Y Z X : Nat) : zc3 P Y Z X = zc3 Q Y Z X := by
  have : P = Q := by funext x y z; exact propext (h x y z)
  rw [this]
/-- strictly on its sides of every joint, as the class asks it -/
def zOnS (A B C D : Nat → Int32) (jc : Nat) (wt x y z : Int32) : Prop := ∀ j, j < jc → ¬ (A j * x + B j * y + C j * z - D j * 1) = 0 ∧ (0 < (A j * x + B j * y + C j * z - D j * 1) ↔ (wt >>> (nI j &&& 31)) &&& 1 = 1)
set_option maxRecDepth 20000 in
set_option maxHeartbeats 2000000 in
theorem l_cwp3 {G : zG} {h : zH} {jc bc NX NY NZ : Nat} {kn : Int32} {sd fc cc nu pb so : Nat → Int32} (hr : zRk h jc bc (nI NX) (nI NY) (nI NZ) kn sd fc cc nu pb so) (hjc : jc ≤ 6) {A B C D : Nat → Int32} (hpl : zPl h A B C D) {k : Nat} (hk : k < 64) (hNX : NX ≤ 8) (hNY : NY ≤ 8) (hNZ : NZ ≤ 8) {m x y : Nat} {Q : zO → zH → Prop} (K : PW G M_Rock_countWholePoints (zroom 2 0 0) true Q 63 [some (.ref 34), some (.int (nI k)), some (.int (nI (m + zc1 (fun x y z => zOnS A B C D jc (sd k) (nI x) (nI y) (nI z)) x y NZ))), some (.int (nI x)), some (.int (nI y)), some (.int (nI NZ))] [] h 0 0) : ∀ (n z : Nat), NZ - z < n → z ≤ NZ → 1 ≤ z → PW G M_Rock_countWholePoints (zroom 2 0 0) true Q 27 [some (.ref 34), some (.int (nI k)), some (.int (nI (m + zc1 (fun x y z => zOnS A B C D jc (sd k) (nI x) (nI y) (nI z)) x y z))), some (.int (nI x)), some (.int (nI y)), some (.int (nI z))] [] h 0 0 := by
  intro n
  induction n with
  | zero => intro z hn; exact absurd hn (Nat.not_lt_zero _)
  | succ n ih =>
    intro z hn hi hz1
    refine pw_iload d_Rock_countWholePoints_27 rfl ?_
    refine pw_aload_n d_Rock_countWholePoints_29 rfl rfl ?_
    refine pw_get d_Rock_countWholePoints_30 fl_Rock_72 hr.1 rfl ?_
    refine pw_icmp_ge 63 d_Rock_countWholePoints_33 (by decide) (fun q_c => ?_) (fun q_c => ?_)
    · have hzc : z = NZ := by have := (nI_leI (a := NZ) (b := z) (by omega) (by omega)).mp q_c; omega
      subst hzc
      exact K
    · have hzc : z < NZ := by have := mt (nI_leI (a := NZ) (b := z) (by omega) (by omega)).mpr q_c; omega
      refine pw_aload_n d_Rock_countWholePoints_36 rfl rfl ?_
      refine pw_aload_n d_Rock_countWholePoints_37 rfl rfl ?_
      refine pw_get d_Rock_countWholePoints_38 fl_Rock_24 hr.1 rfl ?_
      refine pw_iload_n d_Rock_countWholePoints_41 rfl rfl ?_
      refine pw_iald d_Rock_countWholePoints_42 hr.2.1 rfl rfl hk (by decide) ?_
      refine pw_iload_n d_Rock_countWholePoints_43 rfl rfl ?_
      refine pw_iload d_Rock_countWholePoints_44 rfl ?_
      refine pw_iload d_Rock_countWholePoints_46 rfl ?_
      refine pw_callVt (R' := (zroom 1 0 0)) [.int (sd k), .int (nI x), .int (nI y), .int (nI z)] (fun _ => rfl) d_Rock_countWholePoints_48 lk_Rock_117 hr.1 rfl rfl rfl (c_isOnSides hr hjc hpl) (fun t ht => ?_)
      refine pw_if_eq 57 d_Rock_countWholePoints_51 (by decide) (fun q_t => ?_) (fun q_t => ?_)
      · refine pw_iinc (y := nI (z + 1)) d_Rock_countWholePoints_57 rfl (nI_1 z) (by decide) (pl' := [some (.ref 34), some (.int (nI k)), some (.int (nI (m + zc1 (fun x y z => zOnS A B C D jc (sd k) (nI x) (nI y) (nI z)) x y z))), some (.int (nI x)), some (.int (nI y)), some (.int (nI (z + 1)))]) rfl ?_
        refine pw_goto 27 d_Rock_countWholePoints_60 (by decide) ?_
        have hp9 : ¬ (fun x y z => zOnS A B C D jc (sd k) (nI x) (nI y) (nI z)) x y z := by rcases ht with ⟨e, -⟩ | ⟨-, h1⟩; exact absurd (e.symm.trans q_t) (by decide); exact h1
        have e9 : zc1 (fun x y z => zOnS A B C D jc (sd k) (nI x) (nI y) (nI z)) x y (z + 1) = zc1 (fun x y z => zOnS A B C D jc (sd k) (nI x) (nI y) (nI z)) x y z := zct_f (P := fun z => 1 ≤ z ∧ (fun x y z => zOnS A B C D jc (sd k) (nI x) (nI y) (nI z)) x y z) (fun z => hp9 z.2)
        have h9 := ih (z + 1) (by omega) (by omega) (by omega)
        rw [e9] at h9
        exact h9
      · refine pw_iinc (y := nI (m + zc1 (fun x y z => zOnS A B C D jc (sd k) (nI x) (nI y) (nI z)) x y z) + 1) d_Rock_countWholePoints_54 rfl rfl (by decide) (pl' := [some (.ref 34), some (.int (nI k)), some (.int (nI (m + zc1 (fun x y z => zOnS A B C D jc (sd k) (nI x) (nI y) (nI z)) x y z) + 1)), some (.int (nI x)), some (.int (nI y)), some (.int (nI z))]) rfl ?_
        refine pw_iinc (y := nI (z + 1)) d_Rock_countWholePoints_57 rfl (nI_1 z) (by decide) (pl' := [some (.ref 34), some (.int (nI k)), some (.int (nI (m + zc1 (fun x y z => zOnS A B C D jc (sd k) (nI x) (nI y) (nI z)) x y z) + 1)), some (.int (nI x)), some (.int (nI y)), some (.int (nI (z + 1)))]) rfl ?_
        refine pw_goto 27 d_Rock_countWholePoints_60 (by decide) ?_
        have hp9 : (fun x y z => zOnS A B C D jc (sd k) (nI x) (nI y) (nI z)) x y z := by rcases ht with ⟨-, h1⟩ | ⟨e, -⟩; exact h1; exact absurd e q_t
        have e9 : zc1 (fun x y z => zOnS A B C D jc (sd k) (nI x) (nI y) (nI z)) x y (z + 1) = zc1 (fun x y z => zOnS A B C D jc (sd k) (nI x) (nI y) (nI z)) x y z + 1 := zct_t (P := fun z => 1 ≤ z ∧ (fun x y z => zOnS A B C D jc (sd k) (nI x) (nI y) (nI z)) x y z) ⟨hz1, hp9⟩
        have h9 := ih (z + 1) (by omega) (by omega) (by omega)
        rw [e9] at h9
        rw [← Nat.add_assoc, ← nI_1] at h9
        exact h9
set_option maxRecDepth 20000 in
set_option maxHeartbeats 2000000 in
theorem l_cwp2 {G : zG} {h : zH} {jc bc NX NY NZ : Nat} {kn : Int32} {sd fc cc nu pb so : Nat → Int32} (hr : zRk h jc bc (nI NX) (nI NY) (nI NZ) kn sd fc cc nu pb so) (hjc : jc ≤ 6) {A B C D : Nat → Int32} (hpl : zPl h A B C D) {k : Nat} (hk : k < 64) (hNX : NX ≤ 8) (hNY : NY ≤ 8) (hNZ : NZ ≤ 8) (hZ1 : 1 ≤ NZ) {m x : Nat} {Q : zO → zH → Prop} (K : ∀ o5, PW G M_Rock_countWholePoints (zroom 2 0 0) true Q 69 [some (.ref 34), some (.int (nI k)), some (.int (nI (m + zc2 (fun x y z => zOnS A B C D jc (sd k) (nI x) (nI y) (nI z)) NZ x NY))), some (.int (nI x)), some (.int (nI NY)), o5] [] h 0 0) : ∀ (n y : Nat) (o5 : Option Value), NY - y < n → y ≤ NY → 1 ≤ y → PW G M_Rock_countWholePoints (zroom 2 0 0) true Q 15 [some (.ref 34), some (.int (nI k)), some (.int (nI (m + zc2 (fun x y z => zOnS A B C D jc (sd k) (nI x) (nI y) (nI z)) NZ x y))), some (.int (nI x)), some (.int (nI y)), o5] [] h 0 0 := by
  intro n
  induction n with
  | zero => intro y o5 hn; exact absurd hn (Nat.not_lt_zero _)
  | succ n ih =>
    intro y o5 hn hi hy1
    refine pw_iload d_Rock_countWholePoints_15 rfl ?_
    refine pw_aload_n d_Rock_countWholePoints_17 rfl rfl ?_
    refine pw_get d_Rock_countWholePoints_18 fl_Rock_69 hr.1 rfl ?_
    refine pw_icmp_ge 69 d_Rock_countWholePoints_21 (by decide) (fun q_c => ?_) (fun q_c => ?_)
    · have hyc : y = NY := by have := (nI_leI (a := NY) (b := y) (by omega) (by omega)).mp q_c; omega
      subst hyc
      exact K _
    · have hyc : y < NY := by have := mt (nI_leI (a := NY) (b := y) (by omega) (by omega)).mpr q_c; omega
      refine pw_iconst (x := 1) d_Rock_countWholePoints_24 (by decide) ?_
      refine pw_istore d_Rock_countWholePoints_25 (by decide) (pl' := [some (.ref 34), some (.int (nI k)), some (.int (nI (m + zc2 (fun x y z => zOnS A B C D jc (sd k) (nI x) (nI y) (nI z)) NZ x y))), some (.int (nI x)), some (.int (nI y)), some (.int (1))]) rfl ?_
      refine (fun h0 => ?_) (l_cwp3 (G := G) hr hjc hpl hk hNX hNY hNZ (m := m + zc2 (fun x y z => zOnS A B C D jc (sd k) (nI x) (nI y) (nI z)) NZ x y) (x := x) (y := y) (Q := Q) ?_ (NZ + 1) 1 (by omega) (by omega) (by decide))
      · rw [zc1_1, Nat.add_zero] at h0
        exact h0
      refine pw_iinc (y := nI (y + 1)) d_Rock_countWholePoints_63 rfl (nI_1 y) (by decide) (pl' := [some (.ref 34), some (.int (nI k)), some (.int (nI (m + zc2 (fun x y z => zOnS A B C D jc (sd k) (nI x) (nI y) (nI z)) NZ x y + zc1 (fun x y z => zOnS A B C D jc (sd k) (nI x) (nI y) (nI z)) x y NZ))), some (.int (nI x)), some (.int (nI (y + 1))), some (.int (nI NZ))]) rfl ?_
      refine pw_goto 15 d_Rock_countWholePoints_66 (by decide) ?_
      have h9 := ih (y + 1) (some (.int (nI NZ))) (by omega) (by omega) (by omega)
      rw [zc2_s _ _ _ _ hy1, ← Nat.add_assoc] at h9
      exact h9
set_option maxRecDepth 20000 in
set_option maxHeartbeats 2000000 in
theorem l_cwp1 {G : zG} {h : zH} {jc bc NX NY NZ : Nat} {kn : Int32} {sd fc cc nu pb so : Nat → Int32} (hr : zRk h jc bc (nI NX) (nI NY) (nI NZ) kn sd fc cc nu pb so) (hjc : jc ≤ 6) {A B C D : Nat → Int32} (hpl : zPl h A B C D) {k : Nat} (hk : k < 64) (hNX : NX ≤ 8) (hNY : NY ≤ 8) (hNZ : NZ ≤ 8) (hY1 : 1 ≤ NY) (hZ1 : 1 ≤ NZ) : ∀ (n x : Nat) (o4 o5 : Option Value), NX - x < n → x ≤ NX → 1 ≤ x → PW G M_Rock_countWholePoints (zroom 2 0 0) true (zr (some (.int (nI (zc3 (fun x y z => zOnS A B C D jc (sd k) (nI x) (nI y) (nI z)) NY NZ NX)))) h) 4 [some (.ref 34), some (.int (nI k)), some (.int (nI (zc3 (fun x y z => zOnS A B C D jc (sd k) (nI x) (nI y) (nI z)) NY NZ x))), some (.int (nI x)), o4, o5] [] h 0 0 := by
  intro n
  induction n with
  | zero => intro x o4 o5 hn; exact absurd hn (Nat.not_lt_zero _)
  | succ n ih =>
    intro x o4 o5 hn hi hx1
    refine pw_iload_n d_Rock_countWholePoints_4 rfl rfl ?_
    refine pw_aload_n d_Rock_countWholePoints_5 rfl rfl ?_
    refine pw_get d_Rock_countWholePoints_6 fl_Rock_66 hr.1 rfl ?_
    refine pw_icmp_ge 75 d_Rock_countWholePoints_9 (by decide) (fun q_c => ?_) (fun q_c => ?_)
    · refine pw_iload_n d_Rock_countWholePoints_75 rfl rfl ?_
      refine pw_ireturn d_Rock_countWholePoints_76 rfl (by decide) (by decide) ?_
      have hxc : x = NX := by have := (nI_leI (a := NX) (b := x) (by omega) (by omega)).mp q_c; omega
      subst hxc
      exact ⟨rfl, rfl⟩
    · have hxc : x < NX := by have := mt (nI_leI (a := NX) (b := x) (by omega) (by omega)).mpr q_c; omega
      refine pw_iconst (x := 1) d_Rock_countWholePoints_12 (by decide) ?_
      refine pw_istore d_Rock_countWholePoints_13 (by decide) (pl' := [some (.ref 34), some (.int (nI k)), some (.int (nI (zc3 (fun x y z => zOnS A B C D jc (sd k) (nI x) (nI y) (nI z)) NY NZ x))), some (.int (nI x)), some (.int (1)), o5]) rfl ?_
      refine (fun h0 => ?_) (l_cwp2 (G := G) hr hjc hpl hk hNX hNY hNZ hZ1 (m := zc3 (fun x y z => zOnS A B C D jc (sd k) (nI x) (nI y) (nI z)) NY NZ x) (x := x) (Q := zr (some (.int (nI (zc3 (fun x y z => zOnS A B C D jc (sd k) (nI x) (nI y) (nI z)) NY NZ NX)))) h) (fun o9 => ?_) (NY + 1) 1 o5 (by omega) (by omega) (by decide))
      · rw [zc2_1, Nat.add_zero] at h0
        exact h0
      refine pw_iinc (y := nI (x + 1)) d_Rock_countWholePoints_69 rfl (nI_1 x) (by decide) (pl' := [some (.ref 34), some (.int (nI k)), some (.int (nI (zc3 (fun x y z => zOnS A B C D jc (sd k) (nI x) (nI y) (nI z)) NY NZ x + zc2 (fun x y z => zOnS A B C D jc (sd k) (nI x) (nI y) (nI z)) NZ x NY))), some (.int (nI (x + 1))), some (.int (nI NY)), o9]) rfl ?_
      refine pw_goto 4 d_Rock_countWholePoints_72 (by decide) ?_
      have h9 := ih (x + 1) (some (.int (nI NY))) o9 (by omega) (by omega) (by omega)
      rw [zc3_s _ _ _ _ hx1] at h9
      exact h9
set_option maxRecDepth 20000 in
set_option maxHeartbeats 2000000 in
theorem c_countWholePoints {G : zG} {h : zH} {jc bc NX NY NZ : Nat} {kn : Int32} {sd fc cc nu pb so : Nat → Int32} (hr : zRk h jc bc (nI NX) (nI NY) (nI NZ) kn sd fc cc nu pb so) (hjc : jc ≤ 6) {A B C D : Nat → Int32} (hpl : zPl h A B C D) {k : Nat} (hk : k < 64) (hNX : NX ≤ 8) (hNY : NY ≤ 8) (hNZ : NZ ≤ 8) (hX1 : 1 ≤ NX) (hY1 : 1 ≤ NY) (hZ1 : 1 ≤ NZ) : PW G M_Rock_countWholePoints (zroom 2 0 0) true (zr (some (.int (nI (zc3 (fun x y z => zOnS A B C D jc (sd k) (nI x) (nI y) (nI z)) NY NZ NX)))) h) 0 (zentry 6 [.ref 34, .int (nI k)]) [] h 0 0 := by
  show PW G M_Rock_countWholePoints (zroom 2 0 0) true _ 0 [some (.ref 34), some (.int (nI k)), none, none, none, none] [] h 0 0
  refine pw_iconst (x := 0) d_Rock_countWholePoints_0 (by decide) ?_
  refine pw_istore_n d_Rock_countWholePoints_1 rfl (by decide) (pl' := [some (.ref 34), some (.int (nI k)), some (.int (0)), none, none, none]) rfl ?_
  refine pw_iconst (x := 1) d_Rock_countWholePoints_2 (by decide) ?_
  refine pw_istore_n d_Rock_countWholePoints_3 rfl (by decide) (pl' := [some (.ref 34), some (.int (nI k)), some (.int (0)), some (.int (1)), none, none]) rfl ?_
  exact l_cwp1 hr hjc hpl hk hNX hNY hNZ hY1 hZ1 (NX + 1) 1 none none (by omega) hX1 (by decide)
set_option maxRecDepth 20000 in
set_option maxHeartbeats 2000000 in
theorem l_iof3 {G : zG} {h : zH} {th : Int32} {jn dr pn bl tn : Nat} (hm : zMo h th jn dr pn bl tn) {ml bs : Nat → Int32} (h86 : h[86]? = some (.inl (0, 48, .inl ml))) (h95 : h[95]? = some (.inl (0, 64, .inl bs))) (hjn : jn ≤ 6) {k : Nat} (hk : k < 64) {ms : Nat → Int32} {NX NY NZ : Nat} (h85 : h[85]? = some (.inl (0, 3, .inl ms))) (e0 : ms 0 = nI NX) (e1 : ms 1 = nI NY) (e2 : ms 2 = nI NZ) (hNX : NX ≤ 8) (hNY : NY ≤ 8) (hNZ : NZ ≤ 8) {m x y : Nat} {Q : zO → zH → Prop} (K : PW G M_Md_insideOf (zroom 1 0 0) true Q 69 [some (.ref 84), some (.int (nI k)), some (.int (nI (m + zc1 (fun x y z => rIns ml bs jn k (nI x) (nI y) (nI z)) x y NZ))), some (.int (nI x)), some (.int (nI y)), some (.int (nI NZ))] [] h 0 0) : ∀ (n z : Nat), NZ - z < n → z ≤ NZ → 1 ≤ z → PW G M_Md_insideOf (zroom 1 0 0) true Q 31 [some (.ref 84), some (.int (nI k)), some (.int (nI (m + zc1 (fun x y z => rIns ml bs jn k (nI x) (nI y) (nI z)) x y z))), some (.int (nI x)), some (.int (nI y)), some (.int (nI z))] [] h 0 0 := by
  intro n
  induction n with
  | zero => intro z hn; exact absurd hn (Nat.not_lt_zero _)
  | succ n ih =>
    intro z hn hi hz1
    refine pw_iload d_Md_insideOf_31 rfl ?_
    refine pw_aload_n d_Md_insideOf_33 rfl rfl ?_
    refine pw_get d_Md_insideOf_34 fl_Md_7 hm rfl ?_
    refine pw_iconst (x := 2) d_Md_insideOf_37 (by decide) ?_
    refine pw_iald d_Md_insideOf_38 h85 rfl rfl (by decide) (by decide) ?_
    rw [e2]
    refine pw_icmp_ge 69 d_Md_insideOf_39 (by decide) (fun q_c => ?_) (fun q_c => ?_)
    · have hzc : z = NZ := by have := (nI_leI (a := NZ) (b := z) (by omega) (by omega)).mp q_c; omega
      subst hzc
      exact K
    · have hzc : z < NZ := by have := mt (nI_leI (a := NZ) (b := z) (by omega) (by omega)).mpr q_c; omega
      refine pw_aload_n d_Md_insideOf_42 rfl rfl ?_
      refine pw_iload_n d_Md_insideOf_43 rfl rfl ?_
      refine pw_iload_n d_Md_insideOf_44 rfl rfl ?_
      refine pw_iload d_Md_insideOf_45 rfl ?_
      refine pw_iload d_Md_insideOf_47 rfl ?_
      refine pw_callVt (R' := (zroom 0 0 0)) [.int (nI k), .int (nI x), .int (nI y), .int (nI z)] (fun _ => rfl) d_Md_insideOf_49 lk_Md_149 hm rfl rfl rfl (c_isInside hm h86 h95 hjn hk) (fun t ht => ?_)
      refine pw_if_eq 61 d_Md_insideOf_52 (by decide) (fun q_t => ?_) (fun q_t => ?_)
      · refine pw_iload_n d_Md_insideOf_61 rfl rfl ?_
        refine pw_istore_n d_Md_insideOf_62 rfl (by decide) (pl' := [some (.ref 84), some (.int (nI k)), some (.int (nI (m + zc1 (fun x y z => rIns ml bs jn k (nI x) (nI y) (nI z)) x y z))), some (.int (nI x)), some (.int (nI y)), some (.int (nI z))]) rfl ?_
        refine pw_iinc (y := nI (z + 1)) d_Md_insideOf_63 rfl (nI_1 z) (by decide) (pl' := [some (.ref 84), some (.int (nI k)), some (.int (nI (m + zc1 (fun x y z => rIns ml bs jn k (nI x) (nI y) (nI z)) x y z))), some (.int (nI x)), some (.int (nI y)), some (.int (nI (z + 1)))]) rfl ?_
        refine pw_goto 31 d_Md_insideOf_66 (by decide) ?_
        have hp9 : ¬ (fun x y z => rIns ml bs jn k (nI x) (nI y) (nI z)) x y z := by rcases ht with ⟨e, -⟩ | ⟨-, h1⟩; exact absurd (e.symm.trans q_t) (by decide); exact h1
        have e9 : zc1 (fun x y z => rIns ml bs jn k (nI x) (nI y) (nI z)) x y (z + 1) = zc1 (fun x y z => rIns ml bs jn k (nI x) (nI y) (nI z)) x y z := zct_f (P := fun z => 1 ≤ z ∧ (fun x y z => rIns ml bs jn k (nI x) (nI y) (nI z)) x y z) (fun z => hp9 z.2)
        have h9 := ih (z + 1) (by omega) (by omega) (by omega)
        rw [e9] at h9
        exact h9
      · refine pw_iload_n d_Md_insideOf_55 rfl rfl ?_
        refine pw_iconst (x := 1) d_Md_insideOf_56 (by decide) ?_
        refine pw_iadd d_Md_insideOf_57 ?_
        refine pw_goto 62 d_Md_insideOf_58 (by decide) ?_
        refine pw_istore_n d_Md_insideOf_62 rfl (by decide) (pl' := [some (.ref 84), some (.int (nI k)), some (.int ((nI (m + zc1 (fun x y z => rIns ml bs jn k (nI x) (nI y) (nI z)) x y z) + 1))), some (.int (nI x)), some (.int (nI y)), some (.int (nI z))]) rfl ?_
        refine pw_iinc (y := nI (z + 1)) d_Md_insideOf_63 rfl (nI_1 z) (by decide) (pl' := [some (.ref 84), some (.int (nI k)), some (.int ((nI (m + zc1 (fun x y z => rIns ml bs jn k (nI x) (nI y) (nI z)) x y z) + 1))), some (.int (nI x)), some (.int (nI y)), some (.int (nI (z + 1)))]) rfl ?_
        refine pw_goto 31 d_Md_insideOf_66 (by decide) ?_
        have hp9 : (fun x y z => rIns ml bs jn k (nI x) (nI y) (nI z)) x y z := by rcases ht with ⟨-, h1⟩ | ⟨e, -⟩; exact h1; exact absurd e q_t
        have e9 : zc1 (fun x y z => rIns ml bs jn k (nI x) (nI y) (nI z)) x y (z + 1) = zc1 (fun x y z => rIns ml bs jn k (nI x) (nI y) (nI z)) x y z + 1 := zct_t (P := fun z => 1 ≤ z ∧ (fun x y z => rIns ml bs jn k (nI x) (nI y) (nI z)) x y z) ⟨hz1, hp9⟩
        have h9 := ih (z + 1) (by omega) (by omega) (by omega)
        rw [e9] at h9
        rw [← Nat.add_assoc, ← nI_1] at h9
        exact h9
set_option maxRecDepth 20000 in
set_option maxHeartbeats 2000000 in
theorem l_iof2 {G : zG} {h : zH} {th : Int32} {jn dr pn bl tn : Nat} (hm : zMo h th jn dr pn bl tn) {ml bs : Nat → Int32} (h86 : h[86]? = some (.inl (0, 48, .inl ml))) (h95 : h[95]? = some (.inl (0, 64, .inl bs))) (hjn : jn ≤ 6) {k : Nat} (hk : k < 64) {ms : Nat → Int32} {NX NY NZ : Nat} (h85 : h[85]? = some (.inl (0, 3, .inl ms))) (e0 : ms 0 = nI NX) (e1 : ms 1 = nI NY) (e2 : ms 2 = nI NZ) (hNX : NX ≤ 8) (hNY : NY ≤ 8) (hNZ : NZ ≤ 8) (hZ1 : 1 ≤ NZ) {m x : Nat} {Q : zO → zH → Prop} (K : ∀ o5, PW G M_Md_insideOf (zroom 1 0 0) true Q 75 [some (.ref 84), some (.int (nI k)), some (.int (nI (m + zc2 (fun x y z => rIns ml bs jn k (nI x) (nI y) (nI z)) NZ x NY))), some (.int (nI x)), some (.int (nI NY)), o5] [] h 0 0) : ∀ (n y : Nat) (o5 : Option Value), NY - y < n → y ≤ NY → 1 ≤ y → PW G M_Md_insideOf (zroom 1 0 0) true Q 17 [some (.ref 84), some (.int (nI k)), some (.int (nI (m + zc2 (fun x y z => rIns ml bs jn k (nI x) (nI y) (nI z)) NZ x y))), some (.int (nI x)), some (.int (nI y)), o5] [] h 0 0 := by
  intro n
  induction n with
  | zero => intro y o5 hn; exact absurd hn (Nat.not_lt_zero _)
  | succ n ih =>
    intro y o5 hn hi hy1
    refine pw_iload d_Md_insideOf_17 rfl ?_
    refine pw_aload_n d_Md_insideOf_19 rfl rfl ?_
    refine pw_get d_Md_insideOf_20 fl_Md_7 hm rfl ?_
    refine pw_iconst (x := 1) d_Md_insideOf_23 (by decide) ?_
    refine pw_iald d_Md_insideOf_24 h85 rfl rfl (by decide) (by decide) ?_
    rw [e1]
    refine pw_icmp_ge 75 d_Md_insideOf_25 (by decide) (fun q_c => ?_) (fun q_c => ?_)
    · have hyc : y = NY := by have := (nI_leI (a := NY) (b := y) (by omega) (by omega)).mp q_c; omega
      subst hyc
      exact K _
    · have hyc : y < NY := by have := mt (nI_leI (a := NY) (b := y) (by omega) (by omega)).mpr q_c; omega
      refine pw_iconst (x := 1) d_Md_insideOf_28 (by decide) ?_
      refine pw_istore d_Md_insideOf_29 (by decide) (pl' := [some (.ref 84), some (.int (nI k)), some (.int (nI (m + zc2 (fun x y z => rIns ml bs jn k (nI x) (nI y) (nI z)) NZ x y))), some (.int (nI x)), some (.int (nI y)), some (.int (1))]) rfl ?_
      refine (fun h0 => ?_) (l_iof3 (G := G) hm h86 h95 hjn hk h85 e0 e1 e2 hNX hNY hNZ (m := m + zc2 (fun x y z => rIns ml bs jn k (nI x) (nI y) (nI z)) NZ x y) (x := x) (y := y) (Q := Q) ?_ (NZ + 1) 1 (by omega) (by omega) (by decide))
      · rw [zc1_1, Nat.add_zero] at h0
        exact h0
      refine pw_iinc (y := nI (y + 1)) d_Md_insideOf_69 rfl (nI_1 y) (by decide) (pl' := [some (.ref 84), some (.int (nI k)), some (.int (nI (m + zc2 (fun x y z => rIns ml bs jn k (nI x) (nI y) (nI z)) NZ x y + zc1 (fun x y z => rIns ml bs jn k (nI x) (nI y) (nI z)) x y NZ))), some (.int (nI x)), some (.int (nI (y + 1))), some (.int (nI NZ))]) rfl ?_
      refine pw_goto 17 d_Md_insideOf_72 (by decide) ?_
      have h9 := ih (y + 1) (some (.int (nI NZ))) (by omega) (by omega) (by omega)
      rw [zc2_s _ _ _ _ hy1, ← Nat.add_assoc] at h9
      exact h9
set_option maxRecDepth 20000 in
set_option maxHeartbeats 2000000 in
theorem l_iof1 {G : zG} {h : zH} {th : Int32} {jn dr pn bl tn : Nat} (hm : zMo h th jn dr pn bl tn) {ml bs : Nat → Int32} (h86 : h[86]? = some (.inl (0, 48, .inl ml))) (h95 : h[95]? = some (.inl (0, 64, .inl bs))) (hjn : jn ≤ 6) {k : Nat} (hk : k < 64) {ms : Nat → Int32} {NX NY NZ : Nat} (h85 : h[85]? = some (.inl (0, 3, .inl ms))) (e0 : ms 0 = nI NX) (e1 : ms 1 = nI NY) (e2 : ms 2 = nI NZ) (hNX : NX ≤ 8) (hNY : NY ≤ 8) (hNZ : NZ ≤ 8) (hY1 : 1 ≤ NY) (hZ1 : 1 ≤ NZ) : ∀ (n x : Nat) (o4 o5 : Option Value), NX - x < n → x ≤ NX → 1 ≤ x → PW G M_Md_insideOf (zroom 1 0 0) true (zr (some (.int (nI (zc3 (fun x y z => rIns ml bs jn k (nI x) (nI y) (nI z)) NY NZ NX)))) h) 4 [some (.ref 84), some (.int (nI k)), some (.int (nI (zc3 (fun x y z => rIns ml bs jn k (nI x) (nI y) (nI z)) NY NZ x))), some (.int (nI x)), o4, o5] [] h 0 0 := by
  intro n
  induction n with
  | zero => intro x o4 o5 hn; exact absurd hn (Nat.not_lt_zero _)
  | succ n ih =>
    intro x o4 o5 hn hi hx1
    refine pw_iload_n d_Md_insideOf_4 rfl rfl ?_
    refine pw_aload_n d_Md_insideOf_5 rfl rfl ?_
    refine pw_get d_Md_insideOf_6 fl_Md_7 hm rfl ?_
    refine pw_iconst (x := 0) d_Md_insideOf_9 (by decide) ?_
    refine pw_iald d_Md_insideOf_10 h85 rfl rfl (by decide) (by decide) ?_
    rw [e0]
    refine pw_icmp_ge 81 d_Md_insideOf_11 (by decide) (fun q_c => ?_) (fun q_c => ?_)
    · refine pw_iload_n d_Md_insideOf_81 rfl rfl ?_
      refine pw_ireturn d_Md_insideOf_82 rfl (by decide) (by decide) ?_
      have hxc : x = NX := by have := (nI_leI (a := NX) (b := x) (by omega) (by omega)).mp q_c; omega
      subst hxc
      exact ⟨rfl, rfl⟩
    · have hxc : x < NX := by have := mt (nI_leI (a := NX) (b := x) (by omega) (by omega)).mpr q_c; omega
      refine pw_iconst (x := 1) d_Md_insideOf_14 (by decide) ?_
      refine pw_istore d_Md_insideOf_15 (by decide) (pl' := [some (.ref 84), some (.int (nI k)), some (.int (nI (zc3 (fun x y z => rIns ml bs jn k (nI x) (nI y) (nI z)) NY NZ x))), some (.int (nI x)), some (.int (1)), o5]) rfl ?_
      refine (fun h0 => ?_) (l_iof2 (G := G) hm h86 h95 hjn hk h85 e0 e1 e2 hNX hNY hNZ hZ1 (m := zc3 (fun x y z => rIns ml bs jn k (nI x) (nI y) (nI z)) NY NZ x) (x := x) (Q := zr (some (.int (nI (zc3 (fun x y z => rIns ml bs jn k (nI x) (nI y) (nI z)) NY NZ NX)))) h) (fun o9 => ?_) (NY + 1) 1 o5 (by omega) (by omega) (by decide))
      · rw [zc2_1, Nat.add_zero] at h0
        exact h0
      refine pw_iinc (y := nI (x + 1)) d_Md_insideOf_75 rfl (nI_1 x) (by decide) (pl' := [some (.ref 84), some (.int (nI k)), some (.int (nI (zc3 (fun x y z => rIns ml bs jn k (nI x) (nI y) (nI z)) NY NZ x + zc2 (fun x y z => rIns ml bs jn k (nI x) (nI y) (nI z)) NZ x NY))), some (.int (nI (x + 1))), some (.int (nI NY)), o9]) rfl ?_
      refine pw_goto 4 d_Md_insideOf_78 (by decide) ?_
      have h9 := ih (x + 1) (some (.int (nI NY))) o9 (by omega) (by omega) (by omega)
      rw [zc3_s _ _ _ _ hx1] at h9
      exact h9
set_option maxRecDepth 20000 in
set_option maxHeartbeats 2000000 in
theorem c_insideOf {G : zG} {h : zH} {th : Int32} {jn dr pn bl tn : Nat} (hm : zMo h th jn dr pn bl tn) {ml bs : Nat → Int32} (h86 : h[86]? = some (.inl (0, 48, .inl ml))) (h95 : h[95]? = some (.inl (0, 64, .inl bs))) (hjn : jn ≤ 6) {k : Nat} (hk : k < 64) {ms : Nat → Int32} {NX NY NZ : Nat} (h85 : h[85]? = some (.inl (0, 3, .inl ms))) (e0 : ms 0 = nI NX) (e1 : ms 1 = nI NY) (e2 : ms 2 = nI NZ) (hNX : NX ≤ 8) (hNY : NY ≤ 8) (hNZ : NZ ≤ 8) (hX1 : 1 ≤ NX) (hY1 : 1 ≤ NY) (hZ1 : 1 ≤ NZ) : PW G M_Md_insideOf (zroom 1 0 0) true (zr (some (.int (nI (zc3 (fun x y z => rIns ml bs jn k (nI x) (nI y) (nI z)) NY NZ NX)))) h) 0 (zentry 6 [.ref 84, .int (nI k)]) [] h 0 0 := by
  show PW G M_Md_insideOf (zroom 1 0 0) true _ 0 [some (.ref 84), some (.int (nI k)), none, none, none, none] [] h 0 0
  refine pw_iconst (x := 0) d_Md_insideOf_0 (by decide) ?_
  refine pw_istore_n d_Md_insideOf_1 rfl (by decide) (pl' := [some (.ref 84), some (.int (nI k)), some (.int (0)), none, none, none]) rfl ?_
  refine pw_iconst (x := 1) d_Md_insideOf_2 (by decide) ?_
  refine pw_istore_n d_Md_insideOf_3 rfl (by decide) (pl' := [some (.ref 84), some (.int (nI k)), some (.int (0)), some (.int (1)), none, none]) rfl ?_
  exact l_iof1 hm h86 h95 hjn hk h85 e0 e1 e2 hNX hNY hNZ hY1 hZ1 (NX + 1) 1 none none (by omega) hX1 (by decide)
