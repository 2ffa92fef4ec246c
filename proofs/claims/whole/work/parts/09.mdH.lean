theorem zall : ∀ j, j ≤ 6 → (1 : Int32) <<< ((nI j) &&& 31) - 1 + 4032 = zkn j := by decide +kernel
set_option maxRecDepth 20000 in
set_option maxHeartbeats 2000000 in
theorem c_all {G : zG} {h : zH} {th : Int32} {jn dr pn bl tn : Nat} (hm : zMo h th jn dr pn bl tn) (hjn : jn ≤ 6) : PW G M_Md_all (zroom 0 0 0) true (zr (some (.int (zkn jn))) h) 0 (zentry 1 [.ref 84]) [] h 0 0 := by
  show PW G M_Md_all (zroom 0 0 0) true _ 0 [some (.ref 84)] [] h 0 0
  refine pw_iconst (x := 1) d_Md_all_0 (by decide) ?_
  refine pw_aload_n d_Md_all_1 rfl rfl ?_
  refine pw_get d_Md_all_2 fl_Md_83 hm rfl ?_
  refine pw_ishl d_Md_all_5 ?_
  refine pw_iconst (x := 1) d_Md_all_6 (by decide) ?_
  refine pw_isub d_Md_all_7 ?_
  refine pw_sipush (x := 4032) d_Md_all_8 (by decide) ?_
  refine pw_iadd d_Md_all_11 ?_
  refine pw_ireturn d_Md_all_12 rfl (by decide) (by decide) ?_
  exact ⟨by rw [zall jn hjn], rfl⟩
set_option maxRecDepth 20000 in
set_option maxHeartbeats 2000000 in
theorem c_isOf {G : zG} {h : zH} {th : Int32} {jn dr pn bl tn : Nat} (hm : zMo h th jn dr pn bl tn) {pa pw : Nat → Int32} (h92 : h[92]? = some (.inl (0, 220, .inl pa))) (h93 : h[93]? = some (.inl (0, 220, .inl pw))) {p : Nat} (hp : p < 220) {s : Int32} : PW G M_Md_isOf (zroom 0 0 0) true (zr (some (.int (if (pa p &&& (s ^^^ -1) = 0 ∧ pw p &&& s = 0) then 1 else 0))) h) 0 (zentry 3 [.ref 84, .int (nI p), .int (s)]) [] h 0 0 := by
  show PW G M_Md_isOf (zroom 0 0 0) true _ 0 [some (.ref 84), some (.int (nI p)), some (.int (s))] [] h 0 0
  refine pw_aload_n d_Md_isOf_0 rfl rfl ?_
  refine pw_get d_Md_isOf_1 fl_Md_32 hm rfl ?_
  refine pw_iload_n d_Md_isOf_4 rfl rfl ?_
  refine pw_iald d_Md_isOf_5 h92 rfl rfl hp (by decide) ?_
  refine pw_iload_n d_Md_isOf_6 rfl rfl ?_
  refine pw_iconst (x := (-1)) d_Md_isOf_7 (by decide) ?_
  refine pw_ixor d_Md_isOf_8 ?_
  refine pw_iand d_Md_isOf_9 ?_
  refine pw_if_ne 28 d_Md_isOf_10 (by decide) (fun q_1 => ?_) (fun q_1 => ?_)
  · refine pw_iconst (x := 0) d_Md_isOf_28 (by decide) ?_
    refine pw_zreturn d_Md_isOf_29 rfl (by decide) (by decide) (by decide) ?_
    exact ⟨by rw [if_neg (by grind [zlt, zle])], rfl⟩
  · refine pw_aload_n d_Md_isOf_13 rfl rfl ?_
    refine pw_get d_Md_isOf_14 fl_Md_35 hm rfl ?_
    refine pw_iload_n d_Md_isOf_17 rfl rfl ?_
    refine pw_iald d_Md_isOf_18 h93 rfl rfl hp (by decide) ?_
    refine pw_iload_n d_Md_isOf_19 rfl rfl ?_
    refine pw_iand d_Md_isOf_20 ?_
    refine pw_if_ne 28 d_Md_isOf_21 (by decide) (fun q_2 => ?_) (fun q_2 => ?_)
    · refine pw_iconst (x := 0) d_Md_isOf_28 (by decide) ?_
      refine pw_zreturn d_Md_isOf_29 rfl (by decide) (by decide) (by decide) ?_
      exact ⟨by rw [if_neg (by grind [zlt, zle])], rfl⟩
    · refine pw_iconst (x := 1) d_Md_isOf_24 (by decide) ?_
      refine pw_goto 29 d_Md_isOf_25 (by decide) ?_
      refine pw_zreturn d_Md_isOf_29 rfl (by decide) (by decide) (by decide) ?_
      exact ⟨by rw [if_pos (by grind [zlt, zle])], rfl⟩
/-- what freeOf gathers of the first n points -/
def zfr (po pa pw : Nat → Int32) (s m : Int32) : Nat → Int32
  | 0 => 0
  | n + 1 => if (pa n &&& (s ^^^ -1) = 0 ∧ pw n &&& s = 0) ∧ po n &&& m = m then zfr po pa pw s m n ||| (po n ^^^ -1) else zfr po pa pw s m n
set_option maxRecDepth 20000 in
set_option maxHeartbeats 2000000 in
theorem l_freeOf {G : zG} {h : zH} {th : Int32} {jn dr pn bl tn : Nat} (hm : zMo h th jn dr pn bl tn) {po pa pw : Nat → Int32} (h91 : h[91]? = some (.inl (0, 220, .inl po))) (h92 : h[92]? = some (.inl (0, 220, .inl pa))) (h93 : h[93]? = some (.inl (0, 220, .inl pw))) (hpn : pn ≤ 220) (hjn : jn ≤ 6) {s m : Int32} : ∀ (n i : Nat) (f : Int32), pn - i < n → i ≤ pn → (f = zfr po pa pw s m i) → PW G M_Md_freeOf (zroom 1 0 0) true (zr (some (.int (zfr po pa pw s m pn &&& zkn jn))) h) 5 [some (.ref 84), some (.int (s)), some (.int (m)), some (.int (f)), some (.int (nI i))] [] h 0 0 := by
  intro n
  induction n with
  | zero => intro i f hn; exact absurd hn (Nat.not_lt_zero _)
  | succ n ih =>
    intro i f hn hi hv
    refine pw_iload d_Md_freeOf_5 rfl ?_
    refine pw_aload_n d_Md_freeOf_7 rfl rfl ?_
    refine pw_get d_Md_freeOf_8 fl_Md_94 hm rfl ?_
    refine pw_icmp_ge 59 d_Md_freeOf_11 (by decide) (fun q_c => ?_) (fun q_c => ?_)
    · refine pw_iload_n d_Md_freeOf_59 rfl rfl ?_
      refine pw_aload_n d_Md_freeOf_60 rfl rfl ?_
      refine pw_callV1 (R' := (zroom 0 0 0)) (h2 := h) [] (fun _ => rfl) d_Md_freeOf_61 lk_Md_120 hm rfl rfl rfl (c_all hm hjn) ?_
      refine pw_iand d_Md_freeOf_64 ?_
      refine pw_ireturn d_Md_freeOf_65 rfl (by decide) (by decide) ?_
      have hic : i = pn := by have := (nI_leI (a := pn) (b := i) (by omega) (by omega)).mp q_c; omega
      subst hic
      exact ⟨by rw [hv], rfl⟩
    · have hic : i < pn := by have := mt (nI_leI (a := pn) (b := i) (by omega) (by omega)).mpr q_c; omega
      refine pw_aload_n d_Md_freeOf_14 rfl rfl ?_
      refine pw_iload d_Md_freeOf_15 rfl ?_
      refine pw_iload_n d_Md_freeOf_17 rfl rfl ?_
      refine pw_callV1 (R' := (zroom 0 0 0)) (h2 := h) [.int (nI i), .int (s)] (fun _ => rfl) d_Md_freeOf_18 lk_Md_127 hm rfl rfl rfl (c_isOf hm h92 h93 (show i < 220 by omega)) ?_
      refine pw_if_eq 51 d_Md_freeOf_21 (by decide) (fun q_i => ?_) (fun q_i => ?_)
      · refine pw_iload_n d_Md_freeOf_51 rfl rfl ?_
        refine pw_istore_n d_Md_freeOf_52 rfl (by decide) (pl' := [some (.ref 84), some (.int (s)), some (.int (m)), some (.int (f)), some (.int (nI i))]) rfl ?_
        refine pw_iinc (y := nI (i + 1)) d_Md_freeOf_53 rfl (nI_1 i) (by decide) (pl' := [some (.ref 84), some (.int (s)), some (.int (m)), some (.int (f)), some (.int (nI (i + 1)))]) rfl ?_
        refine pw_goto 5 d_Md_freeOf_56 (by decide) ?_
        refine ih (i + 1) _ (by omega) (by omega) ?_
        simp only [zfr]
        rw [← hv]
        exact (if_neg (fun z => z0 q_i z.1)).symm
      · refine pw_aload_n d_Md_freeOf_24 rfl rfl ?_
        refine pw_get d_Md_freeOf_25 fl_Md_29 hm rfl ?_
        refine pw_iload d_Md_freeOf_28 rfl ?_
        refine pw_iald d_Md_freeOf_30 h91 rfl rfl (by omega) (by decide) ?_
        refine pw_iload_n d_Md_freeOf_31 rfl rfl ?_
        refine pw_iand d_Md_freeOf_32 ?_
        refine pw_iload_n d_Md_freeOf_33 rfl rfl ?_
        refine pw_icmp_ne 51 d_Md_freeOf_34 (by decide) (fun q_m => ?_) (fun q_m => ?_)
        · refine pw_iload_n d_Md_freeOf_51 rfl rfl ?_
          refine pw_istore_n d_Md_freeOf_52 rfl (by decide) (pl' := [some (.ref 84), some (.int (s)), some (.int (m)), some (.int (f)), some (.int (nI i))]) rfl ?_
          refine pw_iinc (y := nI (i + 1)) d_Md_freeOf_53 rfl (nI_1 i) (by decide) (pl' := [some (.ref 84), some (.int (s)), some (.int (m)), some (.int (f)), some (.int (nI (i + 1)))]) rfl ?_
          refine pw_goto 5 d_Md_freeOf_56 (by decide) ?_
          refine ih (i + 1) _ (by omega) (by omega) ?_
          simp only [zfr]
          rw [← hv]
          exact (if_neg (fun z => q_m z.2)).symm
        · refine pw_iload_n d_Md_freeOf_37 rfl rfl ?_
          refine pw_aload_n d_Md_freeOf_38 rfl rfl ?_
          refine pw_get d_Md_freeOf_39 fl_Md_29 hm rfl ?_
          refine pw_iload d_Md_freeOf_42 rfl ?_
          refine pw_iald d_Md_freeOf_44 h91 rfl rfl (by omega) (by decide) ?_
          refine pw_iconst (x := (-1)) d_Md_freeOf_45 (by decide) ?_
          refine pw_ixor d_Md_freeOf_46 ?_
          refine pw_ior d_Md_freeOf_47 ?_
          refine pw_goto 52 d_Md_freeOf_48 (by decide) ?_
          refine pw_istore_n d_Md_freeOf_52 rfl (by decide) (pl' := [some (.ref 84), some (.int (s)), some (.int (m)), some (.int ((f ||| (po i ^^^ (-1))))), some (.int (nI i))]) rfl ?_
          refine pw_iinc (y := nI (i + 1)) d_Md_freeOf_53 rfl (nI_1 i) (by decide) (pl' := [some (.ref 84), some (.int (s)), some (.int (m)), some (.int ((f ||| (po i ^^^ (-1))))), some (.int (nI (i + 1)))]) rfl ?_
          refine pw_goto 5 d_Md_freeOf_56 (by decide) ?_
          refine ih (i + 1) _ (by omega) (by omega) ?_
          simp only [zfr]
          rw [← hv]
          exact (if_pos ⟨z1 q_i, q_m⟩).symm
set_option maxRecDepth 20000 in
set_option maxHeartbeats 2000000 in
theorem c_freeOf {G : zG} {h : zH} {th : Int32} {jn dr pn bl tn : Nat} (hm : zMo h th jn dr pn bl tn) {po pa pw : Nat → Int32} (h91 : h[91]? = some (.inl (0, 220, .inl po))) (h92 : h[92]? = some (.inl (0, 220, .inl pa))) (h93 : h[93]? = some (.inl (0, 220, .inl pw))) (hpn : pn ≤ 220) (hjn : jn ≤ 6) {s m : Int32} : PW G M_Md_freeOf (zroom 1 0 0) true (zr (some (.int (zfr po pa pw s m pn &&& zkn jn))) h) 0 (zentry 5 [.ref 84, .int (s), .int (m)]) [] h 0 0 := by
  show PW G M_Md_freeOf (zroom 1 0 0) true _ 0 [some (.ref 84), some (.int (s)), some (.int (m)), none, none] [] h 0 0
  refine pw_iconst (x := 0) d_Md_freeOf_0 (by decide) ?_
  refine pw_istore_n d_Md_freeOf_1 rfl (by decide) (pl' := [some (.ref 84), some (.int (s)), some (.int (m)), some (.int (0)), none]) rfl ?_
  refine pw_iconst (x := 0) d_Md_freeOf_2 (by decide) ?_
  refine pw_istore d_Md_freeOf_3 (by decide) (pl' := [some (.ref 84), some (.int (s)), some (.int (m)), some (.int (0)), some (.int (0))]) rfl ?_
  exact l_freeOf hm h91 h92 h93 hpn hjn (pn + 1) 0 0 (by omega) (by omega) rfl
/-- the faces that findFaces finds, below n -/
def zff (po pa pw : Nat → Int32) (jn pn : Nat) (s : Int32) : Nat → Int32
  | 0 => 0
  | f + 1 => if ((6 ≤ f ∨ f < jn) ∧ zfr po pa pw s (1 <<< ((nI f) &&& 31)) pn &&& zkn jn = zkn jn &&& ((1 <<< ((nI f) &&& 31)) ^^^ -1)) then zff po pa pw jn pn s f ||| (1 <<< ((nI f) &&& 31)) else zff po pa pw jn pn s f
set_option maxRecDepth 20000 in
set_option maxHeartbeats 2000000 in
theorem l_findFaces {G : zG} {h : zH} {th : Int32} {jn dr pn bl tn : Nat} (hm : zMo h th jn dr pn bl tn) {po pa pw : Nat → Int32} (h91 : h[91]? = some (.inl (0, 220, .inl po))) (h92 : h[92]? = some (.inl (0, 220, .inl pa))) (h93 : h[93]? = some (.inl (0, 220, .inl pw))) (hpn : pn ≤ 220) (hjn : jn ≤ 6) {s : Int32} : ∀ (n i : Nat) (f : Int32), 12 - i < n → i ≤ 12 → (f = zff po pa pw jn pn s i) → PW G M_Md_findFaces (zroom 2 0 0) true (zr (some (.int (zff po pa pw jn pn s 12))) h) 4 [some (.ref 84), some (.int (s)), some (.int (f)), some (.int (nI i))] [] h 0 0 := by
  intro n
  induction n with
  | zero => intro i f hn; exact absurd hn (Nat.not_lt_zero _)
  | succ n ih =>
    intro i f hn hi hv
    refine pw_iload_n d_Md_findFaces_4 rfl rfl ?_
    refine pw_bipush (x := 12) d_Md_findFaces_5 (by decide) ?_
    refine pw_icmp_ge 51 d_Md_findFaces_7 (by decide) (fun q_c => ?_) (fun q_c => ?_)
    · refine pw_iload_n d_Md_findFaces_51 rfl rfl ?_
      refine pw_ireturn d_Md_findFaces_52 rfl (by decide) (by decide) ?_
      have hic : i = 12 := by have := (nI_leI (a := 12) (b := i) (by decide) (by omega)).mp q_c; omega
      subst hic
      exact ⟨by rw [hv], rfl⟩
    · have hic : i < 12 := by have := mt (nI_leI (a := 12) (b := i) (by decide) (by omega)).mpr q_c; omega
      refine pw_aload_n d_Md_findFaces_10 rfl rfl ?_
      refine pw_iload_n d_Md_findFaces_11 rfl rfl ?_
      refine pw_callV1 (R' := (zroom 0 0 0)) (h2 := h) [.int (nI i)] (fun _ => rfl) d_Md_findFaces_12 lk_Md_100 hm rfl rfl rfl (c_isThere hm hic hjn) ?_
      refine pw_if_eq 45 d_Md_findFaces_15 (by decide) (fun q_h => ?_) (fun q_h => ?_)
      · refine pw_iinc (y := nI (i + 1)) d_Md_findFaces_45 rfl (nI_1 i) (by decide) (pl' := [some (.ref 84), some (.int (s)), some (.int (f)), some (.int (nI (i + 1)))]) rfl ?_
        refine pw_goto 4 d_Md_findFaces_48 (by decide) ?_
        refine ih (i + 1) _ (by omega) (by omega) ?_
        simp only [zff]
        rw [← hv]
        exact (if_neg (fun z => z0 q_h z.1)).symm
      · refine pw_aload_n d_Md_findFaces_18 rfl rfl ?_
        refine pw_iload_n d_Md_findFaces_19 rfl rfl ?_
        refine pw_iconst (x := 1) d_Md_findFaces_20 (by decide) ?_
        refine pw_iload_n d_Md_findFaces_21 rfl rfl ?_
        refine pw_ishl d_Md_findFaces_22 ?_
        refine pw_callV1 (R' := (zroom 1 0 0)) (h2 := h) [.int (s), .int ((1 <<< ((nI i) &&& 31)))] (fun _ => rfl) d_Md_findFaces_23 lk_Md_117 hm rfl rfl rfl (c_freeOf hm h91 h92 h93 hpn hjn) ?_
        refine pw_aload_n d_Md_findFaces_26 rfl rfl ?_
        refine pw_callV1 (R' := (zroom 0 0 0)) (h2 := h) [] (fun _ => rfl) d_Md_findFaces_27 lk_Md_120 hm rfl rfl rfl (c_all hm hjn) ?_
        refine pw_iconst (x := 1) d_Md_findFaces_30 (by decide) ?_
        refine pw_iload_n d_Md_findFaces_31 rfl rfl ?_
        refine pw_ishl d_Md_findFaces_32 ?_
        refine pw_iconst (x := (-1)) d_Md_findFaces_33 (by decide) ?_
        refine pw_ixor d_Md_findFaces_34 ?_
        refine pw_iand d_Md_findFaces_35 ?_
        refine pw_icmp_ne 45 d_Md_findFaces_36 (by decide) (fun q_e => ?_) (fun q_e => ?_)
        · refine pw_iinc (y := nI (i + 1)) d_Md_findFaces_45 rfl (nI_1 i) (by decide) (pl' := [some (.ref 84), some (.int (s)), some (.int (f)), some (.int (nI (i + 1)))]) rfl ?_
          refine pw_goto 4 d_Md_findFaces_48 (by decide) ?_
          refine ih (i + 1) _ (by omega) (by omega) ?_
          simp only [zff]
          rw [← hv]
          exact (if_neg (fun z => q_e z.2)).symm
        · refine pw_iload_n d_Md_findFaces_39 rfl rfl ?_
          refine pw_iconst (x := 1) d_Md_findFaces_40 (by decide) ?_
          refine pw_iload_n d_Md_findFaces_41 rfl rfl ?_
          refine pw_ishl d_Md_findFaces_42 ?_
          refine pw_ior d_Md_findFaces_43 ?_
          refine pw_istore_n d_Md_findFaces_44 rfl (by decide) (pl' := [some (.ref 84), some (.int (s)), some (.int ((f ||| (1 <<< ((nI i) &&& 31))))), some (.int (nI i))]) rfl ?_
          refine pw_iinc (y := nI (i + 1)) d_Md_findFaces_45 rfl (nI_1 i) (by decide) (pl' := [some (.ref 84), some (.int (s)), some (.int ((f ||| (1 <<< ((nI i) &&& 31))))), some (.int (nI (i + 1)))]) rfl ?_
          refine pw_goto 4 d_Md_findFaces_48 (by decide) ?_
          refine ih (i + 1) _ (by omega) (by omega) ?_
          simp only [zff]
          rw [← hv]
          exact (if_pos ⟨z1 q_h, q_e⟩).symm
set_option maxRecDepth 20000 in
set_option maxHeartbeats 2000000 in
theorem c_findFaces {G : zG} {h : zH} {th : Int32} {jn dr pn bl tn : Nat} (hm : zMo h th jn dr pn bl tn) {po pa pw : Nat → Int32} (h91 : h[91]? = some (.inl (0, 220, .inl po))) (h92 : h[92]? = some (.inl (0, 220, .inl pa))) (h93 : h[93]? = some (.inl (0, 220, .inl pw))) (hpn : pn ≤ 220) (hjn : jn ≤ 6) {s : Int32} : PW G M_Md_findFaces (zroom 2 0 0) true (zr (some (.int (zff po pa pw jn pn s 12))) h) 0 (zentry 4 [.ref 84, .int (s)]) [] h 0 0 := by
  show PW G M_Md_findFaces (zroom 2 0 0) true _ 0 [some (.ref 84), some (.int (s)), none, none] [] h 0 0
  refine pw_iconst (x := 0) d_Md_findFaces_0 (by decide) ?_
  refine pw_istore_n d_Md_findFaces_1 rfl (by decide) (pl' := [some (.ref 84), some (.int (s)), some (.int (0)), none]) rfl ?_
  refine pw_iconst (x := 0) d_Md_findFaces_2 (by decide) ?_
  refine pw_istore_n d_Md_findFaces_3 rfl (by decide) (pl' := [some (.ref 84), some (.int (s)), some (.int (0)), some (.int (0))]) rfl ?_
  exact l_findFaces hm h91 h92 h93 hpn hjn 13 0 0 (by decide) (by decide) rfl
