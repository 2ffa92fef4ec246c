theorem n4 (p k : Nat) : (4 : Int32) * nI p + nI k = nI (4 * p + k) := by
  show Int32.ofNat 4 * Int32.ofNat p + Int32.ofNat k = _
  rw [← Int32.ofNat_mul, ← Int32.ofNat_add]; rfl
theorem n40 (p : Nat) : (4 : Int32) * nI p = nI (4 * p) := by
  show Int32.ofNat 4 * Int32.ofNat p = _
  rw [← Int32.ofNat_mul]; rfl
theorem n3 (p k : Nat) : (3 : Int32) * nI p + nI k = nI (3 * p + k) := by
  show Int32.ofNat 3 * Int32.ofNat p + Int32.ofNat k = _
  rw [← Int32.ofNat_mul, ← Int32.ofNat_add]; rfl
theorem n30 (p : Nat) : (3 : Int32) * nI p = nI (3 * p) := by
  show Int32.ofNat 3 * Int32.ofNat p = _
  rw [← Int32.ofNat_mul]; rfl
/-- the reference's own object -/
def zMo (h : zH) (th : Int32) (jn dr pn bl tn : Nat) : Prop := h[84]? = some (.inr (6, [.int (th), .ref 85, .int (nI jn), .ref 86, .ref 87, .int (nI dr), .ref 88, .ref 89, .int (nI pn), .ref 90, .ref 91, .ref 92, .ref 93, .ref 94, .int (nI bl), .ref 95, .ref 96, .ref 97, .int (nI tn), .ref 98, .ref 99, .ref 100, .ref 101, .ref 102, .ref 103]))
set_option maxRecDepth 20000 in
set_option maxHeartbeats 2000000 in
theorem c_within {G : zG} {h : zH} {v : Int32} : PW G M_Md_within (zroom 0 0 0) true (zr (some (.int (if v < 1 then 1 else if 8 < v then 8 else v))) h) 0 (zentry 1 [.int (v)]) [] h 0 0 := by
  show PW G M_Md_within (zroom 0 0 0) true _ 0 [some (.int (v))] [] h 0 0
  refine pw_iload_n d_Md_within_0 rfl rfl ?_
  refine pw_iconst (x := 1) d_Md_within_1 (by decide) ?_
  refine pw_icmp_ge 9 d_Md_within_2 (by decide) (fun q_1 => ?_) (fun q_1 => ?_)
  · refine pw_iload_n d_Md_within_9 rfl rfl ?_
    refine pw_bipush (x := 8) d_Md_within_10 (by decide) ?_
    refine pw_icmp_le 20 d_Md_within_12 (by decide) (fun q_2 => ?_) (fun q_2 => ?_)
    · refine pw_iload_n d_Md_within_20 rfl rfl ?_
      refine pw_ireturn d_Md_within_21 rfl (by decide) (by decide) ?_
      exact ⟨by grind [zlt, zle], rfl⟩
    · refine pw_bipush (x := 8) d_Md_within_15 (by decide) ?_
      refine pw_goto 21 d_Md_within_17 (by decide) ?_
      refine pw_ireturn d_Md_within_21 rfl (by decide) (by decide) ?_
      exact ⟨by grind [zlt, zle], rfl⟩
  · refine pw_iconst (x := 1) d_Md_within_5 (by decide) ?_
    refine pw_goto 21 d_Md_within_6 (by decide) ?_
    refine pw_ireturn d_Md_within_21 rfl (by decide) (by decide) ?_
    exact ⟨by grind [zlt, zle], rfl⟩
set_option maxRecDepth 20000 in
set_option maxHeartbeats 2000000 in
theorem c_in {G : zG} {h : zH} {v a b : Int32} : PW G M_Md_in (zroom 0 0 0) true (zr (some (.int (if a ≤ v ∧ v ≤ b then 1 else 0))) h) 0 (zentry 3 [.int (v), .int (a), .int (b)]) [] h 0 0 := by
  show PW G M_Md_in (zroom 0 0 0) true _ 0 [some (.int (v)), some (.int (a)), some (.int (b))] [] h 0 0
  refine pw_iload_n d_Md_in_0 rfl rfl ?_
  refine pw_iload_n d_Md_in_1 rfl rfl ?_
  refine pw_icmp_lt 14 d_Md_in_2 (by decide) (fun q_1 => ?_) (fun q_1 => ?_)
  · refine pw_iconst (x := 0) d_Md_in_14 (by decide) ?_
    refine pw_zreturn d_Md_in_15 rfl (by decide) (by decide) (by decide) ?_
    exact ⟨by rw [if_neg (by grind [zlt, zle])], rfl⟩
  · refine pw_iload_n d_Md_in_5 rfl rfl ?_
    refine pw_iload_n d_Md_in_6 rfl rfl ?_
    refine pw_icmp_gt 14 d_Md_in_7 (by decide) (fun q_2 => ?_) (fun q_2 => ?_)
    · refine pw_iconst (x := 0) d_Md_in_14 (by decide) ?_
      refine pw_zreturn d_Md_in_15 rfl (by decide) (by decide) (by decide) ?_
      exact ⟨by rw [if_neg (by grind [zlt, zle])], rfl⟩
    · refine pw_iconst (x := 1) d_Md_in_10 (by decide) ?_
      refine pw_goto 15 d_Md_in_11 (by decide) ?_
      refine pw_zreturn d_Md_in_15 rfl (by decide) (by decide) (by decide) ?_
      exact ⟨by rw [if_pos (by grind [zlt, zle])], rfl⟩
/-- a part of a plane, the column replaced by d -/
def zpt (ml : Nat → Int32) (i k c : Nat) : Int32 := ml (4 * i + (if k = c then 3 else k))
set_option maxRecDepth 20000 in
set_option maxHeartbeats 2000000 in
theorem c_part {G : zG} {h : zH} {th : Int32} {jn dr pn bl tn : Nat} (hm : zMo h th jn dr pn bl tn) {ml : Nat → Int32} (h86 : h[86]? = some (.inl (0, 48, .inl ml))) {i k c : Nat} (hi : i < 12) (hk : k < 3) (hc : c < 4) : PW G M_Md_part (zroom 0 0 0) true (zr (some (.int (zpt ml i k c))) h) 0 (zentry 4 [.ref 84, .int (nI i), .int (nI k), .int (nI c)]) [] h 0 0 := by
  show PW G M_Md_part (zroom 0 0 0) true _ 0 [some (.ref 84), some (.int (nI i)), some (.int (nI k)), some (.int (nI c))] [] h 0 0
  refine pw_aload_n d_Md_part_0 rfl rfl ?_
  refine pw_get d_Md_part_1 fl_Md_13 hm rfl ?_
  refine pw_iconst (x := 4) d_Md_part_4 (by decide) ?_
  refine pw_iload_n d_Md_part_5 rfl rfl ?_
  refine pw_imul d_Md_part_6 ?_
  refine pw_iload_n d_Md_part_7 rfl rfl ?_
  refine pw_iload_n d_Md_part_8 rfl rfl ?_
  refine pw_icmp_ne 16 d_Md_part_9 (by decide) (fun q_k0 => ?_) (fun q_k0 => ?_)
  · have q_k : ¬ k = c := fun e => q_k0 (by rw [e])
    refine pw_iload_n d_Md_part_16 rfl rfl ?_
    refine pw_iadd d_Md_part_17 ?_
    refine pw_iald d_Md_part_18 h86 rfl (n4 i k) (by omega) (by decide) ?_
    refine pw_ireturn d_Md_part_19 rfl (by decide) (by decide) ?_
    exact ⟨by unfold zpt; rw [if_neg q_k], rfl⟩
  · have q_k : k = c := (nI_eq (by omega) (by omega)).mp q_k0
    refine pw_iconst (x := 3) d_Md_part_12 (by decide) ?_
    refine pw_goto 17 d_Md_part_13 (by decide) ?_
    refine pw_iadd d_Md_part_17 ?_
    refine pw_iald d_Md_part_18 h86 rfl (n4 i 3) (by omega) (by decide) ?_
    refine pw_ireturn d_Md_part_19 rfl (by decide) (by decide) ?_
    exact ⟨by unfold zpt; rw [if_pos q_k], rfl⟩
/-- the determinant, the column replaced -/
def zdm (ml : Nat → Int32) (i j k c : Nat) : Int32 := zpt ml i 0 c * (zpt ml j 1 c * zpt ml k 2 c - zpt ml j 2 c * zpt ml k 1 c) - zpt ml i 1 c * (zpt ml j 0 c * zpt ml k 2 c - zpt ml j 2 c * zpt ml k 0 c) + zpt ml i 2 c * (zpt ml j 0 c * zpt ml k 1 c - zpt ml j 1 c * zpt ml k 0 c)
set_option maxRecDepth 20000 in
set_option maxHeartbeats 2000000 in
theorem c_determinant {G : zG} {h : zH} {th : Int32} {jn dr pn bl tn : Nat} (hm : zMo h th jn dr pn bl tn) {ml : Nat → Int32} (h86 : h[86]? = some (.inl (0, 48, .inl ml))) {i j k c : Nat} (hi : i < 12) (hj : j < 12) (hk : k < 12) (hc : c < 4) : PW G M_Md_determinant (zroom 1 0 0) true (zr (some (.int (zdm ml i j k c))) h) 0 (zentry 8 [.ref 84, .int (nI i), .int (nI j), .int (nI k), .int (nI c)]) [] h 0 0 := by
  show PW G M_Md_determinant (zroom 1 0 0) true _ 0 [some (.ref 84), some (.int (nI i)), some (.int (nI j)), some (.int (nI k)), some (.int (nI c)), none, none, none] [] h 0 0
  refine pw_aload_n d_Md_determinant_0 rfl rfl ?_
  refine pw_iload_n d_Md_determinant_1 rfl rfl ?_
  refine pw_iconst (x := 0) d_Md_determinant_2 (by decide) ?_
  refine pw_iload d_Md_determinant_3 rfl ?_
  refine pw_callV1 (R' := (zroom 0 0 0)) (h2 := h) [.int (nI i), .int (0), .int (nI c)] (fun _ => rfl) d_Md_determinant_5 lk_Md_79 hm rfl rfl rfl (c_part (k := 0) hm h86 hi (by decide) hc) ?_
  refine pw_aload_n d_Md_determinant_8 rfl rfl ?_
  refine pw_iload_n d_Md_determinant_9 rfl rfl ?_
  refine pw_iconst (x := 1) d_Md_determinant_10 (by decide) ?_
  refine pw_iload d_Md_determinant_11 rfl ?_
  refine pw_callV1 (R' := (zroom 0 0 0)) (h2 := h) [.int (nI j), .int (1), .int (nI c)] (fun _ => rfl) d_Md_determinant_13 lk_Md_79 hm rfl rfl rfl (c_part (k := 1) hm h86 hj (by decide) hc) ?_
  refine pw_aload_n d_Md_determinant_16 rfl rfl ?_
  refine pw_iload_n d_Md_determinant_17 rfl rfl ?_
  refine pw_iconst (x := 2) d_Md_determinant_18 (by decide) ?_
  refine pw_iload d_Md_determinant_19 rfl ?_
  refine pw_callV1 (R' := (zroom 0 0 0)) (h2 := h) [.int (nI k), .int (2), .int (nI c)] (fun _ => rfl) d_Md_determinant_21 lk_Md_79 hm rfl rfl rfl (c_part (k := 2) hm h86 hk (by decide) hc) ?_
  refine pw_imul d_Md_determinant_24 ?_
  refine pw_aload_n d_Md_determinant_25 rfl rfl ?_
  refine pw_iload_n d_Md_determinant_26 rfl rfl ?_
  refine pw_iconst (x := 2) d_Md_determinant_27 (by decide) ?_
  refine pw_iload d_Md_determinant_28 rfl ?_
  refine pw_callV1 (R' := (zroom 0 0 0)) (h2 := h) [.int (nI j), .int (2), .int (nI c)] (fun _ => rfl) d_Md_determinant_30 lk_Md_79 hm rfl rfl rfl (c_part (k := 2) hm h86 hj (by decide) hc) ?_
  refine pw_aload_n d_Md_determinant_33 rfl rfl ?_
  refine pw_iload_n d_Md_determinant_34 rfl rfl ?_
  refine pw_iconst (x := 1) d_Md_determinant_35 (by decide) ?_
  refine pw_iload d_Md_determinant_36 rfl ?_
  refine pw_callV1 (R' := (zroom 0 0 0)) (h2 := h) [.int (nI k), .int (1), .int (nI c)] (fun _ => rfl) d_Md_determinant_38 lk_Md_79 hm rfl rfl rfl (c_part (k := 1) hm h86 hk (by decide) hc) ?_
  refine pw_imul d_Md_determinant_41 ?_
  refine pw_isub d_Md_determinant_42 ?_
  refine pw_imul d_Md_determinant_43 ?_
  refine pw_istore d_Md_determinant_44 (by decide) (pl' := [some (.ref 84), some (.int (nI i)), some (.int (nI j)), some (.int (nI k)), some (.int (nI c)), some (.int ((zpt ml i 0 c * ((zpt ml j 1 c * zpt ml k 2 c) - (zpt ml j 2 c * zpt ml k 1 c))))), none, none]) rfl ?_
  refine pw_aload_n d_Md_determinant_46 rfl rfl ?_
  refine pw_iload_n d_Md_determinant_47 rfl rfl ?_
  refine pw_iconst (x := 1) d_Md_determinant_48 (by decide) ?_
  refine pw_iload d_Md_determinant_49 rfl ?_
  refine pw_callV1 (R' := (zroom 0 0 0)) (h2 := h) [.int (nI i), .int (1), .int (nI c)] (fun _ => rfl) d_Md_determinant_51 lk_Md_79 hm rfl rfl rfl (c_part (k := 1) hm h86 hi (by decide) hc) ?_
  refine pw_aload_n d_Md_determinant_54 rfl rfl ?_
  refine pw_iload_n d_Md_determinant_55 rfl rfl ?_
  refine pw_iconst (x := 0) d_Md_determinant_56 (by decide) ?_
  refine pw_iload d_Md_determinant_57 rfl ?_
  refine pw_callV1 (R' := (zroom 0 0 0)) (h2 := h) [.int (nI j), .int (0), .int (nI c)] (fun _ => rfl) d_Md_determinant_59 lk_Md_79 hm rfl rfl rfl (c_part (k := 0) hm h86 hj (by decide) hc) ?_
  refine pw_aload_n d_Md_determinant_62 rfl rfl ?_
  refine pw_iload_n d_Md_determinant_63 rfl rfl ?_
  refine pw_iconst (x := 2) d_Md_determinant_64 (by decide) ?_
  refine pw_iload d_Md_determinant_65 rfl ?_
  refine pw_callV1 (R' := (zroom 0 0 0)) (h2 := h) [.int (nI k), .int (2), .int (nI c)] (fun _ => rfl) d_Md_determinant_67 lk_Md_79 hm rfl rfl rfl (c_part (k := 2) hm h86 hk (by decide) hc) ?_
  refine pw_imul d_Md_determinant_70 ?_
  refine pw_aload_n d_Md_determinant_71 rfl rfl ?_
  refine pw_iload_n d_Md_determinant_72 rfl rfl ?_
  refine pw_iconst (x := 2) d_Md_determinant_73 (by decide) ?_
  refine pw_iload d_Md_determinant_74 rfl ?_
  refine pw_callV1 (R' := (zroom 0 0 0)) (h2 := h) [.int (nI j), .int (2), .int (nI c)] (fun _ => rfl) d_Md_determinant_76 lk_Md_79 hm rfl rfl rfl (c_part (k := 2) hm h86 hj (by decide) hc) ?_
  refine pw_aload_n d_Md_determinant_79 rfl rfl ?_
  refine pw_iload_n d_Md_determinant_80 rfl rfl ?_
  refine pw_iconst (x := 0) d_Md_determinant_81 (by decide) ?_
  refine pw_iload d_Md_determinant_82 rfl ?_
  refine pw_callV1 (R' := (zroom 0 0 0)) (h2 := h) [.int (nI k), .int (0), .int (nI c)] (fun _ => rfl) d_Md_determinant_84 lk_Md_79 hm rfl rfl rfl (c_part (k := 0) hm h86 hk (by decide) hc) ?_
  refine pw_imul d_Md_determinant_87 ?_
  refine pw_isub d_Md_determinant_88 ?_
  refine pw_imul d_Md_determinant_89 ?_
  refine pw_istore d_Md_determinant_90 (by decide) (pl' := [some (.ref 84), some (.int (nI i)), some (.int (nI j)), some (.int (nI k)), some (.int (nI c)), some (.int ((zpt ml i 0 c * ((zpt ml j 1 c * zpt ml k 2 c) - (zpt ml j 2 c * zpt ml k 1 c))))), some (.int ((zpt ml i 1 c * ((zpt ml j 0 c * zpt ml k 2 c) - (zpt ml j 2 c * zpt ml k 0 c))))), none]) rfl ?_
  refine pw_aload_n d_Md_determinant_92 rfl rfl ?_
  refine pw_iload_n d_Md_determinant_93 rfl rfl ?_
  refine pw_iconst (x := 2) d_Md_determinant_94 (by decide) ?_
  refine pw_iload d_Md_determinant_95 rfl ?_
  refine pw_callV1 (R' := (zroom 0 0 0)) (h2 := h) [.int (nI i), .int (2), .int (nI c)] (fun _ => rfl) d_Md_determinant_97 lk_Md_79 hm rfl rfl rfl (c_part (k := 2) hm h86 hi (by decide) hc) ?_
  refine pw_aload_n d_Md_determinant_100 rfl rfl ?_
  refine pw_iload_n d_Md_determinant_101 rfl rfl ?_
  refine pw_iconst (x := 0) d_Md_determinant_102 (by decide) ?_
  refine pw_iload d_Md_determinant_103 rfl ?_
  refine pw_callV1 (R' := (zroom 0 0 0)) (h2 := h) [.int (nI j), .int (0), .int (nI c)] (fun _ => rfl) d_Md_determinant_105 lk_Md_79 hm rfl rfl rfl (c_part (k := 0) hm h86 hj (by decide) hc) ?_
  refine pw_aload_n d_Md_determinant_108 rfl rfl ?_
  refine pw_iload_n d_Md_determinant_109 rfl rfl ?_
  refine pw_iconst (x := 1) d_Md_determinant_110 (by decide) ?_
  refine pw_iload d_Md_determinant_111 rfl ?_
  refine pw_callV1 (R' := (zroom 0 0 0)) (h2 := h) [.int (nI k), .int (1), .int (nI c)] (fun _ => rfl) d_Md_determinant_113 lk_Md_79 hm rfl rfl rfl (c_part (k := 1) hm h86 hk (by decide) hc) ?_
  refine pw_imul d_Md_determinant_116 ?_
  refine pw_aload_n d_Md_determinant_117 rfl rfl ?_
  refine pw_iload_n d_Md_determinant_118 rfl rfl ?_
  refine pw_iconst (x := 1) d_Md_determinant_119 (by decide) ?_
  refine pw_iload d_Md_determinant_120 rfl ?_
  refine pw_callV1 (R' := (zroom 0 0 0)) (h2 := h) [.int (nI j), .int (1), .int (nI c)] (fun _ => rfl) d_Md_determinant_122 lk_Md_79 hm rfl rfl rfl (c_part (k := 1) hm h86 hj (by decide) hc) ?_
  refine pw_aload_n d_Md_determinant_125 rfl rfl ?_
  refine pw_iload_n d_Md_determinant_126 rfl rfl ?_
  refine pw_iconst (x := 0) d_Md_determinant_127 (by decide) ?_
  refine pw_iload d_Md_determinant_128 rfl ?_
  refine pw_callV1 (R' := (zroom 0 0 0)) (h2 := h) [.int (nI k), .int (0), .int (nI c)] (fun _ => rfl) d_Md_determinant_130 lk_Md_79 hm rfl rfl rfl (c_part (k := 0) hm h86 hk (by decide) hc) ?_
  refine pw_imul d_Md_determinant_133 ?_
  refine pw_isub d_Md_determinant_134 ?_
  refine pw_imul d_Md_determinant_135 ?_
  refine pw_istore d_Md_determinant_136 (by decide) (pl' := [some (.ref 84), some (.int (nI i)), some (.int (nI j)), some (.int (nI k)), some (.int (nI c)), some (.int ((zpt ml i 0 c * ((zpt ml j 1 c * zpt ml k 2 c) - (zpt ml j 2 c * zpt ml k 1 c))))), some (.int ((zpt ml i 1 c * ((zpt ml j 0 c * zpt ml k 2 c) - (zpt ml j 2 c * zpt ml k 0 c))))), some (.int ((zpt ml i 2 c * ((zpt ml j 0 c * zpt ml k 1 c) - (zpt ml j 1 c * zpt ml k 0 c)))))]) rfl ?_
  refine pw_iload d_Md_determinant_138 rfl ?_
  refine pw_iload d_Md_determinant_140 rfl ?_
  refine pw_isub d_Md_determinant_142 ?_
  refine pw_iload d_Md_determinant_143 rfl ?_
  refine pw_iadd d_Md_determinant_145 ?_
  refine pw_ireturn d_Md_determinant_146 rfl (by decide) (by decide) ?_
  exact ⟨rfl, rfl⟩
set_option maxRecDepth 20000 in
set_option maxHeartbeats 2000000 in
theorem c_isThere {G : zG} {h : zH} {th : Int32} {jn dr pn bl tn : Nat} (hm : zMo h th jn dr pn bl tn) {p : Nat} (hp : p < 12) (hjn : jn ≤ 6) : PW G M_Md_isThere (zroom 0 0 0) true (zr (some (.int (if 6 ≤ p ∨ p < jn then 1 else 0))) h) 0 (zentry 2 [.ref 84, .int (nI p)]) [] h 0 0 := by
  show PW G M_Md_isThere (zroom 0 0 0) true _ 0 [some (.ref 84), some (.int (nI p))] [] h 0 0
  refine pw_iload_n d_Md_isThere_0 rfl rfl ?_
  refine pw_bipush (x := 6) d_Md_isThere_1 (by decide) ?_
  refine pw_icmp_ge 14 d_Md_isThere_3 (by decide) (fun q_a => ?_) (fun q_a => ?_)
  · refine pw_iconst (x := 1) d_Md_isThere_14 (by decide) ?_
    refine pw_goto 19 d_Md_isThere_15 (by decide) ?_
    refine pw_zreturn d_Md_isThere_19 rfl (by decide) (by decide) (by decide) ?_
    have e1 : (6 : Int32) ≤ nI p ↔ 6 ≤ p := nI_leI (a := 6) (by decide) (by omega)
    have e2 : nI jn ≤ nI p ↔ jn ≤ p := nI_leI (by omega) (by omega)
    exact ⟨by rw [if_pos (by grind)], rfl⟩
  · refine pw_iload_n d_Md_isThere_6 rfl rfl ?_
    refine pw_aload_n d_Md_isThere_7 rfl rfl ?_
    refine pw_get d_Md_isThere_8 fl_Md_83 hm rfl ?_
    refine pw_icmp_ge 18 d_Md_isThere_11 (by decide) (fun q_b => ?_) (fun q_b => ?_)
    · refine pw_iconst (x := 0) d_Md_isThere_18 (by decide) ?_
      refine pw_zreturn d_Md_isThere_19 rfl (by decide) (by decide) (by decide) ?_
      have e1 : (6 : Int32) ≤ nI p ↔ 6 ≤ p := nI_leI (a := 6) (by decide) (by omega)
      have e2 : nI jn ≤ nI p ↔ jn ≤ p := nI_leI (by omega) (by omega)
      exact ⟨by rw [if_neg (by grind)], rfl⟩
    · refine pw_iconst (x := 1) d_Md_isThere_14 (by decide) ?_
      refine pw_goto 19 d_Md_isThere_15 (by decide) ?_
      refine pw_zreturn d_Md_isThere_19 rfl (by decide) (by decide) (by decide) ?_
      have e1 : (6 : Int32) ≤ nI p ↔ 6 ≤ p := nI_leI (a := 6) (by decide) (by omega)
      have e2 : nI jn ≤ nI p ↔ jn ≤ p := nI_leI (by omega) (by omega)
      exact ⟨by rw [if_pos (by grind)], rfl⟩
set_option maxRecDepth 20000 in
set_option maxHeartbeats 2000000 in
theorem c_more {G : zG} {h : zH} {th : Int32} {jn dr pn bl tn : Nat} (hm : zMo h th jn dr pn bl tn) {ml pt : Nat → Int32} (h86 : h[86]? = some (.inl (0, 48, .inl ml))) (h90 : h[90]? = some (.inl (0, 880, .inl pt))) {p f : Nat} (hp : p < 220) (hf : f < 12) : PW G M_Md_more (zroom 0 0 0) true (zr (some (.int (ml (4 * f) * pt (4 * p) + ml (4 * f + 1) * pt (4 * p + 1) + ml (4 * f + 2) * pt (4 * p + 2) - ml (4 * f + 3) * pt (4 * p + 3)))) h) 0 (zentry 3 [.ref 84, .int (nI p), .int (nI f)]) [] h 0 0 := by
  show PW G M_Md_more (zroom 0 0 0) true _ 0 [some (.ref 84), some (.int (nI p)), some (.int (nI f))] [] h 0 0
  refine pw_aload_n d_Md_more_0 rfl rfl ?_
  refine pw_get d_Md_more_1 fl_Md_13 hm rfl ?_
  refine pw_iconst (x := 4) d_Md_more_4 (by decide) ?_
  refine pw_iload_n d_Md_more_5 rfl rfl ?_
  refine pw_imul d_Md_more_6 ?_
  refine pw_iald d_Md_more_7 h86 rfl (n40 f) (by omega) (by decide) ?_
  refine pw_aload_n d_Md_more_8 rfl rfl ?_
  refine pw_get d_Md_more_9 fl_Md_26 hm rfl ?_
  refine pw_iconst (x := 4) d_Md_more_12 (by decide) ?_
  refine pw_iload_n d_Md_more_13 rfl rfl ?_
  refine pw_imul d_Md_more_14 ?_
  refine pw_iald d_Md_more_15 h90 rfl (n40 p) (by omega) (by decide) ?_
  refine pw_imul d_Md_more_16 ?_
  refine pw_aload_n d_Md_more_17 rfl rfl ?_
  refine pw_get d_Md_more_18 fl_Md_13 hm rfl ?_
  refine pw_iconst (x := 4) d_Md_more_21 (by decide) ?_
  refine pw_iload_n d_Md_more_22 rfl rfl ?_
  refine pw_imul d_Md_more_23 ?_
  refine pw_iconst (x := 1) d_Md_more_24 (by decide) ?_
  refine pw_iadd d_Md_more_25 ?_
  refine pw_iald d_Md_more_26 h86 rfl (n4 f 1) (by omega) (by decide) ?_
  refine pw_aload_n d_Md_more_27 rfl rfl ?_
  refine pw_get d_Md_more_28 fl_Md_26 hm rfl ?_
  refine pw_iconst (x := 4) d_Md_more_31 (by decide) ?_
  refine pw_iload_n d_Md_more_32 rfl rfl ?_
  refine pw_imul d_Md_more_33 ?_
  refine pw_iconst (x := 1) d_Md_more_34 (by decide) ?_
  refine pw_iadd d_Md_more_35 ?_
  refine pw_iald d_Md_more_36 h90 rfl (n4 p 1) (by omega) (by decide) ?_
  refine pw_imul d_Md_more_37 ?_
  refine pw_iadd d_Md_more_38 ?_
  refine pw_aload_n d_Md_more_39 rfl rfl ?_
  refine pw_get d_Md_more_40 fl_Md_13 hm rfl ?_
  refine pw_iconst (x := 4) d_Md_more_43 (by decide) ?_
  refine pw_iload_n d_Md_more_44 rfl rfl ?_
  refine pw_imul d_Md_more_45 ?_
  refine pw_iconst (x := 2) d_Md_more_46 (by decide) ?_
  refine pw_iadd d_Md_more_47 ?_
  refine pw_iald d_Md_more_48 h86 rfl (n4 f 2) (by omega) (by decide) ?_
  refine pw_aload_n d_Md_more_49 rfl rfl ?_
  refine pw_get d_Md_more_50 fl_Md_26 hm rfl ?_
  refine pw_iconst (x := 4) d_Md_more_53 (by decide) ?_
  refine pw_iload_n d_Md_more_54 rfl rfl ?_
  refine pw_imul d_Md_more_55 ?_
  refine pw_iconst (x := 2) d_Md_more_56 (by decide) ?_
  refine pw_iadd d_Md_more_57 ?_
  refine pw_iald d_Md_more_58 h90 rfl (n4 p 2) (by omega) (by decide) ?_
  refine pw_imul d_Md_more_59 ?_
  refine pw_iadd d_Md_more_60 ?_
  refine pw_aload_n d_Md_more_61 rfl rfl ?_
  refine pw_get d_Md_more_62 fl_Md_13 hm rfl ?_
  refine pw_iconst (x := 4) d_Md_more_65 (by decide) ?_
  refine pw_iload_n d_Md_more_66 rfl rfl ?_
  refine pw_imul d_Md_more_67 ?_
  refine pw_iconst (x := 3) d_Md_more_68 (by decide) ?_
  refine pw_iadd d_Md_more_69 ?_
  refine pw_iald d_Md_more_70 h86 rfl (n4 f 3) (by omega) (by decide) ?_
  refine pw_aload_n d_Md_more_71 rfl rfl ?_
  refine pw_get d_Md_more_72 fl_Md_26 hm rfl ?_
  refine pw_iconst (x := 4) d_Md_more_75 (by decide) ?_
  refine pw_iload_n d_Md_more_76 rfl rfl ?_
  refine pw_imul d_Md_more_77 ?_
  refine pw_iconst (x := 3) d_Md_more_78 (by decide) ?_
  refine pw_iadd d_Md_more_79 ?_
  refine pw_iald d_Md_more_80 h90 rfl (n4 p 3) (by omega) (by decide) ?_
  refine pw_imul d_Md_more_81 ?_
  refine pw_isub d_Md_more_82 ?_
  refine pw_ireturn d_Md_more_83 rfl (by decide) (by decide) ?_
  exact ⟨rfl, rfl⟩
theorem zrem_nn {a b : Int32} (h0 : 0 ≤ a.toInt) (h1 : 0 < b.toInt) : (a - a / b * b).toInt = a.toInt % b.toInt := zrem rfl rfl h0 h1
set_option maxRecDepth 20000 in
set_option maxHeartbeats 2000000 in
theorem l_common {G : zG} {h : zH} {a b : Int32} {g : Int} : ∀ (n : Nat) (x y : Int32) (o4 : Option Value), y.toInt < n → 0 ≤ x.toInt → 0 ≤ y.toInt → ((Nat.gcd x.toInt.natAbs y.toInt.natAbs : Nat) : Int) = g → PW G M_Md_common (zroom 0 0 0) true (fun r h' => ∃ t : Int32, r = .inl (some (.int t)) ∧ h' = h ∧ t.toInt = g) 22 [some (.int a), some (.int b), some (.int x), some (.int y), o4] [] h 0 0 := by
  intro n
  induction n with
  | zero => intro x y o4 hn hx hy; exact absurd hn (by omega)
  | succ n ih =>
    intro x y o4 hn hx hy hg
    refine pw_iload_n d_Md_common_22 rfl rfl ?_
    refine pw_if_eq 39 d_Md_common_23 (by decide) (fun q_y => ?_) (fun q_y => ?_)
    · refine pw_iload_n d_Md_common_39 rfl rfl ?_
      refine pw_ireturn d_Md_common_40 rfl (by decide) (by decide) ?_
      refine ⟨x, rfl, rfl, ?_⟩
      rw [← hg, q_y]
      show x.toInt = ((Nat.gcd x.toInt.natAbs (0 : Int32).toInt.natAbs : Nat) : Int)
      rw [show (0 : Int32).toInt.natAbs = 0 from by decide, Nat.gcd_zero_right]
      omega
    · have hy1 : 0 < y.toInt := by have : y.toInt ≠ 0 := fun e => q_y (Int32.toInt_inj.mp (by rw [e]; rfl)); omega
      have hr := zrem_nn hx hy1
      have hr0 : 0 ≤ x.toInt % y.toInt := Int.emod_nonneg _ (by omega)
      have hr1 : x.toInt % y.toInt < y.toInt := Int.emod_lt_of_pos _ hy1
      refine pw_iload_n d_Md_common_26 rfl rfl ?_
      refine pw_iload_n d_Md_common_27 rfl rfl ?_
      refine pw_irem d_Md_common_28 q_y ?_
      refine pw_istore d_Md_common_29 (by decide) (pl' := [some (.int (a)), some (.int (b)), some (.int (x)), some (.int (y)), some (.int ((x - x / y * y)))]) rfl ?_
      refine pw_iload_n d_Md_common_31 rfl rfl ?_
      refine pw_istore_n d_Md_common_32 rfl (by decide) (pl' := [some (.int (a)), some (.int (b)), some (.int (y)), some (.int (y)), some (.int ((x - x / y * y)))]) rfl ?_
      refine pw_iload d_Md_common_33 rfl ?_
      refine pw_istore_n d_Md_common_35 rfl (by decide) (pl' := [some (.int (a)), some (.int (b)), some (.int (y)), some (.int ((x - x / y * y))), some (.int ((x - x / y * y)))]) rfl ?_
      refine pw_goto 22 d_Md_common_36 (by decide) ?_
      refine ih _ _ _ (by rw [hr]; omega) (by omega) (by rw [hr]; exact hr0) ?_
      rw [← hg, hr, Int.natAbs_emod_of_nonneg hx, Nat.gcd_comm, ← Nat.gcd_rec, Nat.gcd_comm]
theorem zabsp {M : Int} {a : Int32} {v : Int} (_ : zbd M a v) (h : (0 : Int32) ≤ a) : a.toInt.natAbs = a.toInt.natAbs ∧ 0 ≤ a.toInt := ⟨rfl, by rw [Int32.le_iff_toInt_le] at h; exact h⟩
theorem zabsn {a : Int32} {v : Int} (ha : zbd 2147483647 a v) (h : ¬ (0 : Int32) ≤ a) : (-a).toInt.natAbs = a.toInt.natAbs ∧ 0 ≤ (-a).toInt := by
  have h2 := (zbd_neg ha (by decide)).1
  have h3 := ha.1
  rw [Int32.le_iff_toInt_le] at h
  have : (0 : Int32).toInt = 0 := by decide
  omega
set_option maxRecDepth 20000 in
set_option maxHeartbeats 2000000 in
theorem c_common {G : zG} {h : zH} {a b : Int32} {v w : Int} (ha : zbd 2147483647 a v) (hb : zbd 2147483647 b w) : PW G M_Md_common (zroom 0 0 0) true (fun r h' => ∃ t : Int32, r = .inl (some (.int t)) ∧ h' = h ∧ t.toInt = ((Nat.gcd a.toInt.natAbs b.toInt.natAbs : Nat) : Int)) 0 (zentry 5 [.int (a), .int (b)]) [] h 0 0 := by
  show PW G M_Md_common (zroom 0 0 0) true _ 0 [some (.int (a)), some (.int (b)), none, none, none] [] h 0 0
  refine pw_iload_n d_Md_common_0 rfl rfl ?_
  refine pw_if_ge 9 d_Md_common_1 (by decide) (fun q_a => ?_) (fun q_a => ?_)
  · refine pw_iload_n d_Md_common_9 rfl rfl ?_
    refine pw_istore_n d_Md_common_10 rfl (by decide) (pl' := [some (.int (a)), some (.int (b)), some (.int (a)), none, none]) rfl ?_
    refine pw_iload_n d_Md_common_11 rfl rfl ?_
    refine pw_if_ge 20 d_Md_common_12 (by decide) (fun q_b => ?_) (fun q_b => ?_)
    · refine pw_iload_n d_Md_common_20 rfl rfl ?_
      refine pw_istore_n d_Md_common_21 rfl (by decide) (pl' := [some (.int (a)), some (.int (b)), some (.int (a)), some (.int (b)), none]) rfl ?_
      have ex : (a).toInt.natAbs = a.toInt.natAbs ∧ 0 ≤ (a).toInt := zabsp ha q_a
      have ey : (b).toInt.natAbs = b.toInt.natAbs ∧ 0 ≤ (b).toInt := zabsp hb q_b
      exact l_common ((b).toInt.toNat + 1) _ _ _ (by omega) ex.2 ey.2 (by rw [ex.1, ey.1])
    · refine pw_iload_n d_Md_common_15 rfl rfl ?_
      refine pw_ineg d_Md_common_16 ?_
      refine pw_goto 21 d_Md_common_17 (by decide) ?_
      refine pw_istore_n d_Md_common_21 rfl (by decide) (pl' := [some (.int (a)), some (.int (b)), some (.int (a)), some (.int ((-(b)))), none]) rfl ?_
      have ex : (a).toInt.natAbs = a.toInt.natAbs ∧ 0 ≤ (a).toInt := zabsp ha q_a
      have ey : ((-(b))).toInt.natAbs = b.toInt.natAbs ∧ 0 ≤ ((-(b))).toInt := zabsn hb q_b
      exact l_common (((-(b))).toInt.toNat + 1) _ _ _ (by omega) ex.2 ey.2 (by rw [ex.1, ey.1])
  · refine pw_iload_n d_Md_common_4 rfl rfl ?_
    refine pw_ineg d_Md_common_5 ?_
    refine pw_goto 10 d_Md_common_6 (by decide) ?_
    refine pw_istore_n d_Md_common_10 rfl (by decide) (pl' := [some (.int (a)), some (.int (b)), some (.int ((-(a)))), none, none]) rfl ?_
    refine pw_iload_n d_Md_common_11 rfl rfl ?_
    refine pw_if_ge 20 d_Md_common_12 (by decide) (fun q_b => ?_) (fun q_b => ?_)
    · refine pw_iload_n d_Md_common_20 rfl rfl ?_
      refine pw_istore_n d_Md_common_21 rfl (by decide) (pl' := [some (.int (a)), some (.int (b)), some (.int ((-(a)))), some (.int (b)), none]) rfl ?_
      have ex : ((-(a))).toInt.natAbs = a.toInt.natAbs ∧ 0 ≤ ((-(a))).toInt := zabsn ha q_a
      have ey : (b).toInt.natAbs = b.toInt.natAbs ∧ 0 ≤ (b).toInt := zabsp hb q_b
      exact l_common ((b).toInt.toNat + 1) _ _ _ (by omega) ex.2 ey.2 (by rw [ex.1, ey.1])
    · refine pw_iload_n d_Md_common_15 rfl rfl ?_
      refine pw_ineg d_Md_common_16 ?_
      refine pw_goto 21 d_Md_common_17 (by decide) ?_
      refine pw_istore_n d_Md_common_21 rfl (by decide) (pl' := [some (.int (a)), some (.int (b)), some (.int ((-(a)))), some (.int ((-(b)))), none]) rfl ?_
      have ex : ((-(a))).toInt.natAbs = a.toInt.natAbs ∧ 0 ≤ ((-(a))).toInt := zabsn ha q_a
      have ey : ((-(b))).toInt.natAbs = b.toInt.natAbs ∧ 0 ≤ ((-(b))).toInt := zabsn hb q_b
      exact l_common (((-(b))).toInt.toNat + 1) _ _ _ (by omega) ex.2 ey.2 (by rw [ex.1, ey.1])
