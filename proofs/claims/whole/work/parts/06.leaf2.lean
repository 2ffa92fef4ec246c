theorem zlt {a b : Int32} : ¬ a < b ↔ b ≤ a := by rw [Int32.lt_iff_toInt_lt, Int32.le_iff_toInt_le]; omega
theorem zle {a b : Int32} : ¬ a ≤ b ↔ b < a := by rw [Int32.lt_iff_toInt_lt, Int32.le_iff_toInt_le]; omega
set_option maxRecDepth 20000 in
set_option maxHeartbeats 2000000 in
theorem c_hasBit {G : zG} {h : zH} {b i : Int32} : PW G M_WP_hasBit (zroom 0 0 0) true (zr (some (.int (if (b >>> (i &&& 31)) &&& 1 = 1 then 1 else 0))) h) 0 (zentry 2 [.int (b), .int (i)]) [] h 0 0 := by
  show PW G M_WP_hasBit (zroom 0 0 0) true _ 0 [some (.int (b)), some (.int (i))] [] h 0 0
  refine pw_iload_n d_WP_hasBit_0 rfl rfl ?_
  refine pw_iload_n d_WP_hasBit_1 rfl rfl ?_
  refine pw_ishr d_WP_hasBit_2 ?_
  refine pw_iconst (x := 1) d_WP_hasBit_3 (by decide) ?_
  refine pw_iand d_WP_hasBit_4 ?_
  refine pw_iconst (x := 1) d_WP_hasBit_5 (by decide) ?_
  refine pw_icmp_ne 13 d_WP_hasBit_6 (by decide) (fun q_1 => ?_) (fun q_1 => ?_)
  · refine pw_iconst (x := 0) d_WP_hasBit_13 (by decide) ?_
    refine pw_zreturn d_WP_hasBit_14 rfl (by decide) (by decide) (by decide) ?_
    exact ⟨by simp_all, rfl⟩
  · refine pw_iconst (x := 1) d_WP_hasBit_9 (by decide) ?_
    refine pw_goto 14 d_WP_hasBit_10 (by decide) ?_
    refine pw_zreturn d_WP_hasBit_14 rfl (by decide) (by decide) (by decide) ?_
    exact ⟨by simp_all, rfl⟩
set_option maxRecDepth 20000 in
set_option maxHeartbeats 2000000 in
theorem c_isWithin {G : zG} {h : zH} {v m : Int32} : PW G M_WP_isWithin (zroom 0 0 0) true (zr (some (.int (if -m ≤ v ∧ v ≤ m then 1 else 0))) h) 0 (zentry 2 [.int (v), .int (m)]) [] h 0 0 := by
  show PW G M_WP_isWithin (zroom 0 0 0) true _ 0 [some (.int (v)), some (.int (m))] [] h 0 0
  refine pw_iload_n d_WP_isWithin_0 rfl rfl ?_
  refine pw_iload_n d_WP_isWithin_1 rfl rfl ?_
  refine pw_ineg d_WP_isWithin_2 ?_
  refine pw_icmp_lt 15 d_WP_isWithin_3 (by decide) (fun q_1 => ?_) (fun q_1 => ?_)
  · refine pw_iconst (x := 0) d_WP_isWithin_15 (by decide) ?_
    refine pw_zreturn d_WP_isWithin_16 rfl (by decide) (by decide) (by decide) ?_
    exact ⟨by rw [if_neg (by grind [zlt, zle])], rfl⟩
  · refine pw_iload_n d_WP_isWithin_6 rfl rfl ?_
    refine pw_iload_n d_WP_isWithin_7 rfl rfl ?_
    refine pw_icmp_gt 15 d_WP_isWithin_8 (by decide) (fun q_2 => ?_) (fun q_2 => ?_)
    · refine pw_iconst (x := 0) d_WP_isWithin_15 (by decide) ?_
      refine pw_zreturn d_WP_isWithin_16 rfl (by decide) (by decide) (by decide) ?_
      exact ⟨by rw [if_neg (by grind [zlt, zle])], rfl⟩
    · refine pw_iconst (x := 1) d_WP_isWithin_11 (by decide) ?_
      refine pw_goto 16 d_WP_isWithin_12 (by decide) ?_
      refine pw_zreturn d_WP_isWithin_16 rfl (by decide) (by decide) (by decide) ?_
      exact ⟨by rw [if_pos (by grind [zlt, zle])], rfl⟩
set_option maxRecDepth 20000 in
set_option maxHeartbeats 2000000 in
theorem c_isStep {G : zG} {h : zH} {u v w : Int32} : PW G M_WP_isStep (zroom 1 0 0) true (zr (some (.int (if (-9 ≤ u ∧ u ≤ 9) ∧ (-9 ≤ v ∧ v ≤ 9) ∧ (-9 ≤ w ∧ w ≤ 9) then 1 else 0))) h) 0 (zentry 3 [.int (u), .int (v), .int (w)]) [] h 0 0 := by
  show PW G M_WP_isStep (zroom 1 0 0) true _ 0 [some (.int (u)), some (.int (v)), some (.int (w))] [] h 0 0
  refine pw_iload_n d_WP_isStep_0 rfl rfl ?_
  refine pw_bipush (x := 9) d_WP_isStep_1 (by decide) ?_
  refine pw_callS1 (R' := (zroom 0 0 0)) (h2 := h) [.int (u), .int (9)] (fun _ => rfl) d_WP_isStep_3 lk_WP_209 rfl rfl c_isWithin ?_
  refine pw_if_eq 31 d_WP_isStep_6 (by decide) (fun q_1 => ?_) (fun q_1 => ?_)
  · refine pw_iconst (x := 0) d_WP_isStep_31 (by decide) ?_
    refine pw_zreturn d_WP_isStep_32 rfl (by decide) (by decide) (by decide) ?_
    exact ⟨by rw [if_neg (by grind [zlt, zle])], rfl⟩
  · refine pw_iload_n d_WP_isStep_9 rfl rfl ?_
    refine pw_bipush (x := 9) d_WP_isStep_10 (by decide) ?_
    refine pw_callS1 (R' := (zroom 0 0 0)) (h2 := h) [.int (v), .int (9)] (fun _ => rfl) d_WP_isStep_12 lk_WP_209 rfl rfl c_isWithin ?_
    refine pw_if_eq 31 d_WP_isStep_15 (by decide) (fun q_2 => ?_) (fun q_2 => ?_)
    · refine pw_iconst (x := 0) d_WP_isStep_31 (by decide) ?_
      refine pw_zreturn d_WP_isStep_32 rfl (by decide) (by decide) (by decide) ?_
      exact ⟨by rw [if_neg (by grind [zlt, zle])], rfl⟩
    · refine pw_iload_n d_WP_isStep_18 rfl rfl ?_
      refine pw_bipush (x := 9) d_WP_isStep_19 (by decide) ?_
      refine pw_callS1 (R' := (zroom 0 0 0)) (h2 := h) [.int (w), .int (9)] (fun _ => rfl) d_WP_isStep_21 lk_WP_209 rfl rfl c_isWithin ?_
      refine pw_if_eq 31 d_WP_isStep_24 (by decide) (fun q_3 => ?_) (fun q_3 => ?_)
      · refine pw_iconst (x := 0) d_WP_isStep_31 (by decide) ?_
        refine pw_zreturn d_WP_isStep_32 rfl (by decide) (by decide) (by decide) ?_
        exact ⟨by rw [if_neg (by grind [zlt, zle])], rfl⟩
      · refine pw_iconst (x := 1) d_WP_isStep_27 (by decide) ?_
        refine pw_goto 32 d_WP_isStep_28 (by decide) ?_
        refine pw_zreturn d_WP_isStep_32 rfl (by decide) (by decide) (by decide) ?_
        exact ⟨by rw [if_pos (by grind [zlt, zle])], rfl⟩
set_option maxRecDepth 20000 in
set_option maxHeartbeats 2000000 in
theorem c_sizeFor {G : zG} {h : zH} {v : Int32} : PW G M_WP_sizeFor (zroom 1 0 0) true (zr (some (.int (if 1 < (if v < 8 then v else 8) then (if v < 8 then v else 8) else 1))) h) 0 (zentry 1 [.int (v)]) [] h 0 0 := by
  show PW G M_WP_sizeFor (zroom 1 0 0) true _ 0 [some (.int (v))] [] h 0 0
  refine pw_iconst (x := 1) d_WP_sizeFor_0 (by decide) ?_
  refine pw_bipush (x := 8) d_WP_sizeFor_1 (by decide) ?_
  refine pw_iload_n d_WP_sizeFor_3 rfl rfl ?_
  refine pw_mmin d_WP_sizeFor_4 lk_WP_201 rfl ?_
  refine pw_mmax d_WP_sizeFor_7 lk_WP_206 rfl ?_
  refine pw_ireturn d_WP_sizeFor_10 rfl (by decide) (by decide) ?_
  exact ⟨rfl, rfl⟩
set_option maxRecDepth 20000 in
set_option maxHeartbeats 2000000 in
theorem c_Plane_heightOf {G : zG} {h : zH} {k n : Nat} {a1 a2 a3 : Int32} {d : Int32} (hk : h[k]? = some (.inr (2, [.ref n, .int d]))) (hn : h[n]? = some (.inr (0, [.int a1, .int a2, .int a3]))) {x y z q : Int32} : PW G M_Plane_heightOf (zroom 0 0 0) true (zr (some (.int (a1 * x + a2 * y + a3 * z - d * q))) h) 0 (zentry 5 [.ref k, .int (x), .int (y), .int (z), .int (q)]) [] h 0 0 := by
  show PW G M_Plane_heightOf (zroom 0 0 0) true _ 0 [some (.ref k), some (.int (x)), some (.int (y)), some (.int (z)), some (.int (q))] [] h 0 0
  refine pw_aload_n d_Plane_heightOf_0 rfl rfl ?_
  refine pw_get d_Plane_heightOf_1 fl_Plane_10 hk rfl ?_
  refine pw_get d_Plane_heightOf_4 fl_Plane_24 hn rfl ?_
  refine pw_iload_n d_Plane_heightOf_7 rfl rfl ?_
  refine pw_imul d_Plane_heightOf_8 ?_
  refine pw_aload_n d_Plane_heightOf_9 rfl rfl ?_
  refine pw_get d_Plane_heightOf_10 fl_Plane_10 hk rfl ?_
  refine pw_get d_Plane_heightOf_13 fl_Plane_27 hn rfl ?_
  refine pw_iload_n d_Plane_heightOf_16 rfl rfl ?_
  refine pw_imul d_Plane_heightOf_17 ?_
  refine pw_iadd d_Plane_heightOf_18 ?_
  refine pw_aload_n d_Plane_heightOf_19 rfl rfl ?_
  refine pw_get d_Plane_heightOf_20 fl_Plane_10 hk rfl ?_
  refine pw_get d_Plane_heightOf_23 fl_Plane_30 hn rfl ?_
  refine pw_iload_n d_Plane_heightOf_26 rfl rfl ?_
  refine pw_imul d_Plane_heightOf_27 ?_
  refine pw_iadd d_Plane_heightOf_28 ?_
  refine pw_aload_n d_Plane_heightOf_29 rfl rfl ?_
  refine pw_get d_Plane_heightOf_30 fl_Plane_16 hk rfl ?_
  refine pw_iload d_Plane_heightOf_33 rfl ?_
  refine pw_imul d_Plane_heightOf_35 ?_
  refine pw_isub d_Plane_heightOf_36 ?_
  refine pw_ireturn d_Plane_heightOf_37 rfl (by decide) (by decide) ?_
  exact ⟨rfl, rfl⟩
set_option maxRecDepth 20000 in
set_option maxHeartbeats 2000000 in
theorem c_Plane_isSame {G : zG} {h : zH} {k n : Nat} {a1 a2 a3 : Int32} {d : Int32} (hk : h[k]? = some (.inr (2, [.ref n, .int d]))) (hn : h[n]? = some (.inr (0, [.int a1, .int a2, .int a3]))) {x y z q : Int32} : PW G M_Plane_isSame (zroom 0 0 0) true (zr (some (.int (if a1 * y = a2 * x ∧ a1 * z = a3 * x ∧ a2 * z = a3 * y ∧ a1 * q = d * x ∧ a2 * q = d * y ∧ a3 * q = d * z then 1 else 0))) h) 0 (zentry 5 [.ref k, .int (x), .int (y), .int (z), .int (q)]) [] h 0 0 := by
  show PW G M_Plane_isSame (zroom 0 0 0) true _ 0 [some (.ref k), some (.int (x)), some (.int (y)), some (.int (z)), some (.int (q))] [] h 0 0
  refine pw_aload_n d_Plane_isSame_0 rfl rfl ?_
  refine pw_get d_Plane_isSame_1 fl_Plane_10 hk rfl ?_
  refine pw_get d_Plane_isSame_4 fl_Plane_24 hn rfl ?_
  refine pw_iload_n d_Plane_isSame_7 rfl rfl ?_
  refine pw_imul d_Plane_isSame_8 ?_
  refine pw_aload_n d_Plane_isSame_9 rfl rfl ?_
  refine pw_get d_Plane_isSame_10 fl_Plane_10 hk rfl ?_
  refine pw_get d_Plane_isSame_13 fl_Plane_27 hn rfl ?_
  refine pw_iload_n d_Plane_isSame_16 rfl rfl ?_
  refine pw_imul d_Plane_isSame_17 ?_
  refine pw_icmp_ne 124 d_Plane_isSame_18 (by decide) (fun q_1 => ?_) (fun q_1 => ?_)
  · refine pw_iconst (x := 0) d_Plane_isSame_124 (by decide) ?_
    refine pw_zreturn d_Plane_isSame_125 rfl (by decide) (by decide) (by decide) ?_
    exact ⟨by simp_all, rfl⟩
  · refine pw_aload_n d_Plane_isSame_21 rfl rfl ?_
    refine pw_get d_Plane_isSame_22 fl_Plane_10 hk rfl ?_
    refine pw_get d_Plane_isSame_25 fl_Plane_24 hn rfl ?_
    refine pw_iload_n d_Plane_isSame_28 rfl rfl ?_
    refine pw_imul d_Plane_isSame_29 ?_
    refine pw_aload_n d_Plane_isSame_30 rfl rfl ?_
    refine pw_get d_Plane_isSame_31 fl_Plane_10 hk rfl ?_
    refine pw_get d_Plane_isSame_34 fl_Plane_30 hn rfl ?_
    refine pw_iload_n d_Plane_isSame_37 rfl rfl ?_
    refine pw_imul d_Plane_isSame_38 ?_
    refine pw_icmp_ne 124 d_Plane_isSame_39 (by decide) (fun q_2 => ?_) (fun q_2 => ?_)
    · refine pw_iconst (x := 0) d_Plane_isSame_124 (by decide) ?_
      refine pw_zreturn d_Plane_isSame_125 rfl (by decide) (by decide) (by decide) ?_
      exact ⟨by simp_all, rfl⟩
    · refine pw_aload_n d_Plane_isSame_42 rfl rfl ?_
      refine pw_get d_Plane_isSame_43 fl_Plane_10 hk rfl ?_
      refine pw_get d_Plane_isSame_46 fl_Plane_27 hn rfl ?_
      refine pw_iload_n d_Plane_isSame_49 rfl rfl ?_
      refine pw_imul d_Plane_isSame_50 ?_
      refine pw_aload_n d_Plane_isSame_51 rfl rfl ?_
      refine pw_get d_Plane_isSame_52 fl_Plane_10 hk rfl ?_
      refine pw_get d_Plane_isSame_55 fl_Plane_30 hn rfl ?_
      refine pw_iload_n d_Plane_isSame_58 rfl rfl ?_
      refine pw_imul d_Plane_isSame_59 ?_
      refine pw_icmp_ne 124 d_Plane_isSame_60 (by decide) (fun q_3 => ?_) (fun q_3 => ?_)
      · refine pw_iconst (x := 0) d_Plane_isSame_124 (by decide) ?_
        refine pw_zreturn d_Plane_isSame_125 rfl (by decide) (by decide) (by decide) ?_
        exact ⟨by simp_all, rfl⟩
      · refine pw_aload_n d_Plane_isSame_63 rfl rfl ?_
        refine pw_get d_Plane_isSame_64 fl_Plane_10 hk rfl ?_
        refine pw_get d_Plane_isSame_67 fl_Plane_24 hn rfl ?_
        refine pw_iload d_Plane_isSame_70 rfl ?_
        refine pw_imul d_Plane_isSame_72 ?_
        refine pw_aload_n d_Plane_isSame_73 rfl rfl ?_
        refine pw_get d_Plane_isSame_74 fl_Plane_16 hk rfl ?_
        refine pw_iload_n d_Plane_isSame_77 rfl rfl ?_
        refine pw_imul d_Plane_isSame_78 ?_
        refine pw_icmp_ne 124 d_Plane_isSame_79 (by decide) (fun q_4 => ?_) (fun q_4 => ?_)
        · refine pw_iconst (x := 0) d_Plane_isSame_124 (by decide) ?_
          refine pw_zreturn d_Plane_isSame_125 rfl (by decide) (by decide) (by decide) ?_
          exact ⟨by simp_all, rfl⟩
        · refine pw_aload_n d_Plane_isSame_82 rfl rfl ?_
          refine pw_get d_Plane_isSame_83 fl_Plane_10 hk rfl ?_
          refine pw_get d_Plane_isSame_86 fl_Plane_27 hn rfl ?_
          refine pw_iload d_Plane_isSame_89 rfl ?_
          refine pw_imul d_Plane_isSame_91 ?_
          refine pw_aload_n d_Plane_isSame_92 rfl rfl ?_
          refine pw_get d_Plane_isSame_93 fl_Plane_16 hk rfl ?_
          refine pw_iload_n d_Plane_isSame_96 rfl rfl ?_
          refine pw_imul d_Plane_isSame_97 ?_
          refine pw_icmp_ne 124 d_Plane_isSame_98 (by decide) (fun q_5 => ?_) (fun q_5 => ?_)
          · refine pw_iconst (x := 0) d_Plane_isSame_124 (by decide) ?_
            refine pw_zreturn d_Plane_isSame_125 rfl (by decide) (by decide) (by decide) ?_
            exact ⟨by simp_all, rfl⟩
          · refine pw_aload_n d_Plane_isSame_101 rfl rfl ?_
            refine pw_get d_Plane_isSame_102 fl_Plane_10 hk rfl ?_
            refine pw_get d_Plane_isSame_105 fl_Plane_30 hn rfl ?_
            refine pw_iload d_Plane_isSame_108 rfl ?_
            refine pw_imul d_Plane_isSame_110 ?_
            refine pw_aload_n d_Plane_isSame_111 rfl rfl ?_
            refine pw_get d_Plane_isSame_112 fl_Plane_16 hk rfl ?_
            refine pw_iload_n d_Plane_isSame_115 rfl rfl ?_
            refine pw_imul d_Plane_isSame_116 ?_
            refine pw_icmp_ne 124 d_Plane_isSame_117 (by decide) (fun q_6 => ?_) (fun q_6 => ?_)
            · refine pw_iconst (x := 0) d_Plane_isSame_124 (by decide) ?_
              refine pw_zreturn d_Plane_isSame_125 rfl (by decide) (by decide) (by decide) ?_
              exact ⟨by simp_all, rfl⟩
            · refine pw_iconst (x := 1) d_Plane_isSame_120 (by decide) ?_
              refine pw_goto 125 d_Plane_isSame_121 (by decide) ?_
              refine pw_zreturn d_Plane_isSame_125 rfl (by decide) (by decide) (by decide) ?_
              exact ⟨by simp_all, rfl⟩
set_option maxRecDepth 20000 in
set_option maxHeartbeats 2000000 in
theorem c_Plane_set {G : zG} {h : zH} {k n : Nat} {a1 a2 a3 : Int32} {d : Int32} (hk : h[k]? = some (.inr (2, [.ref n, .int d]))) (hn : h[n]? = some (.inr (0, [.int a1, .int a2, .int a3]))) {x y z q : Int32} (hne : n ≠ k) {h3 : zH} (e3 : h3 = (h.set n (.inr (0, [.int x, .int y, .int z]))).set k (.inr (2, [.ref n, .int q]))) : PW G M_Plane_set (zroom 1 0 0) false (zr none h3) 0 (zentry 5 [.ref k, .int (x), .int (y), .int (z), .int (q)]) [] h 0 0 := by
  show PW G M_Plane_set (zroom 1 0 0) false _ 0 [some (.ref k), some (.int (x)), some (.int (y)), some (.int (z)), some (.int (q))] [] h 0 0
  refine pw_aload_n d_Plane_set_0 rfl rfl ?_
  refine pw_get d_Plane_set_1 fl_Plane_10 hk rfl ?_
  refine pw_iload_n d_Plane_set_4 rfl rfl ?_
  refine pw_iload_n d_Plane_set_5 rfl rfl ?_
  refine pw_iload_n d_Plane_set_6 rfl rfl ?_
  obtain ⟨h_1, eh_1⟩ : ∃ x_9, x_9 = List.set h (n) (.inr (0, [.int (x), .int (y), .int (z)])) := ⟨_, rfl⟩
  refine pw_callV0 (R' := (zroom 0 0 0)) (h2 := h_1) [.int (x), .int (y), .int (z)] (fun q => nomatch q) d_Plane_set_7 lk_Plane_20 hn rfl rfl rfl (c_Arrow_set hn eh_1) ?_
  refine pw_aload_n d_Plane_set_10 rfl rfl ?_
  refine pw_iload d_Plane_set_11 rfl ?_
  obtain ⟨h_2, eh_2⟩ : ∃ x_9, x_9 = List.set h_1 (k) (.inr (2, [.ref n, .int (q)])) := ⟨_, rfl⟩
  refine pw_put rfl d_Plane_set_13 (fp_Plane_16 _ _) (zg_ne eh_1 hne hk) (Nat.le_of_ble_eq_true rfl) (fun _ => ⟨rfl, rfl⟩) eh_2.symm ?_
  refine pw_return d_Plane_set_16 rfl (by decide) (by decide) ?_
  exact ⟨rfl, by rw [e3, eh_2, eh_1]⟩
/-- the points: how many, x, y, z, q, above, below -/
def zPt (h : zH) (c : Nat) (x y z q a b : Nat → Int32) : Prop := h[36]? = some (.inr (3, [.ref 37, .ref 38, .ref 39, .ref 40, .ref 41, .ref 42, .int (nI c)])) ∧ h[37]? = some (.inl (0, 220, .inl x)) ∧ h[38]? = some (.inl (0, 220, .inl y)) ∧ h[39]? = some (.inl (0, 220, .inl z)) ∧ h[40]? = some (.inl (0, 220, .inl q)) ∧ h[41]? = some (.inl (0, 220, .inl a)) ∧ h[42]? = some (.inl (0, 220, .inl b))
/-- the same heap but for the places S -/
def zsm (S : List Nat) (h h' : zH) : Prop := h'.length = h.length ∧ ∀ j, j ∉ S → h'[j]? = h[j]?
theorem zsm_rf {S : List Nat} {h : zH} : zsm S h h := ⟨rfl, fun _ _ => rfl⟩
theorem zsm_st {S : List Nat} {h h1 h2 : zH} {k : Nat} {c : zE} (hs : zsm S h h1) (e : h2 = h1.set k c) (hk : k ∈ S) : zsm S h h2 := by
  subst e
  refine ⟨by rw [List.length_set]; exact hs.1, fun j hj => ?_⟩
  rw [List.getElem?_set_ne (show k ≠ j from fun z => hj (z ▸ hk))]
  exact hs.2 j hj
theorem zsm_tr {S T : List Nat} {h h1 h2 : zH} (a : zsm S h h1) (b : zsm T h1 h2) (ht : ∀ j ∈ T, j ∈ S) : zsm S h h2 := ⟨b.1.trans a.1, fun j hj => (b.2 j (fun z => hj (ht j z))).trans (a.2 j hj)⟩
theorem zsm_at {S : List Nat} {h h1 : zH} {j : Nat} {c : zE} (hs : zsm S h h1) (hj : j ∉ S) (hc : h[j]? = some c) : h1[j]? = some c := (hs.2 j hj).trans hc
set_option maxRecDepth 20000 in
set_option maxHeartbeats 2000000 in
theorem c_touches {G : zG} {h : zH} {c : Nat} {x y z q a b : Nat → Int32} (hp : zPt h c x y z q a b) {j : Nat} (hj : j < 220) {f : Int32} : PW G M_Points_touches (zroom 0 0 0) true (zr (some (.int (if a j &&& (f ^^^ -1) = 0 ∧ b j &&& f = 0 then 1 else 0))) h) 0 (zentry 3 [.ref 36, .int (nI j), .int (f)]) [] h 0 0 := by
  show PW G M_Points_touches (zroom 0 0 0) true _ 0 [some (.ref 36), some (.int (nI j)), some (.int (f))] [] h 0 0
  refine pw_aload_n d_Points_touches_0 rfl rfl ?_
  refine pw_get d_Points_touches_1 fl_Points_22 hp.1 rfl ?_
  refine pw_iload_n d_Points_touches_4 rfl rfl ?_
  refine pw_iald d_Points_touches_5 hp.2.2.2.2.2.1 rfl rfl hj (by decide) ?_
  refine pw_iload_n d_Points_touches_6 rfl rfl ?_
  refine pw_iconst (x := (-1)) d_Points_touches_7 (by decide) ?_
  refine pw_ixor d_Points_touches_8 ?_
  refine pw_iand d_Points_touches_9 ?_
  refine pw_if_ne 28 d_Points_touches_10 (by decide) (fun q_1 => ?_) (fun q_1 => ?_)
  · refine pw_iconst (x := 0) d_Points_touches_28 (by decide) ?_
    refine pw_zreturn d_Points_touches_29 rfl (by decide) (by decide) (by decide) ?_
    exact ⟨by simp_all, rfl⟩
  · refine pw_aload_n d_Points_touches_13 rfl rfl ?_
    refine pw_get d_Points_touches_14 fl_Points_25 hp.1 rfl ?_
    refine pw_iload_n d_Points_touches_17 rfl rfl ?_
    refine pw_iald d_Points_touches_18 hp.2.2.2.2.2.2 rfl rfl hj (by decide) ?_
    refine pw_iload_n d_Points_touches_19 rfl rfl ?_
    refine pw_iand d_Points_touches_20 ?_
    refine pw_if_ne 28 d_Points_touches_21 (by decide) (fun q_2 => ?_) (fun q_2 => ?_)
    · refine pw_iconst (x := 0) d_Points_touches_28 (by decide) ?_
      refine pw_zreturn d_Points_touches_29 rfl (by decide) (by decide) (by decide) ?_
      exact ⟨by simp_all, rfl⟩
    · refine pw_iconst (x := 1) d_Points_touches_24 (by decide) ?_
      refine pw_goto 29 d_Points_touches_25 (by decide) ?_
      refine pw_zreturn d_Points_touches_29 rfl (by decide) (by decide) (by decide) ?_
      exact ⟨by simp_all, rfl⟩
theorem zasym {a b : Int32} (h : a < b) : ¬ b < a := by rw [Int32.lt_iff_toInt_lt] at *; omega
set_option maxRecDepth 20000 in
set_option maxHeartbeats 2000000 in
theorem c_tellSide {G : zG} {h : zH} {c : Nat} {x y z q a b : Nat → Int32} (hp : zPt h c x y z q a b) {j : Nat} (hj : j < 220) {f : Int32} {k n : Nat} {n1 n2 n3 d : Int32} (hk : h[k]? = some (.inr (2, [.ref n, .int d]))) (hn : h[n]? = some (.inr (0, [.int n1, .int n2, .int n3]))) : PW G M_Points_tellSide (zroom 1 0 0) false (fun r h' => r = .inl none ∧ zPt h' c x y z q (if 0 < (n1 * x j + n2 * y j + n3 * z j - d * q j) then upd a j (a j ||| (1 <<< (f &&& 31))) else a) (if (n1 * x j + n2 * y j + n3 * z j - d * q j) < 0 then upd b j (b j ||| (1 <<< (f &&& 31))) else b) ∧ zsm [36, 37, 38, 39, 40, 41, 42] h h') 0 (zentry 5 [.ref 36, .int (nI j), .int (f), .ref k]) [] h 0 0 := by
  show PW G M_Points_tellSide (zroom 1 0 0) false _ 0 [some (.ref 36), some (.int (nI j)), some (.int (f)), some (.ref k), none] [] h 0 0
  refine pw_aload_n d_Points_tellSide_0 rfl rfl ?_
  refine pw_aload_n d_Points_tellSide_1 rfl rfl ?_
  refine pw_get d_Points_tellSide_2 fl_Points_9 hp.1 rfl ?_
  refine pw_iload_n d_Points_tellSide_5 rfl rfl ?_
  refine pw_iald d_Points_tellSide_6 hp.2.1 rfl rfl hj (by decide) ?_
  refine pw_aload_n d_Points_tellSide_7 rfl rfl ?_
  refine pw_get d_Points_tellSide_8 fl_Points_13 hp.1 rfl ?_
  refine pw_iload_n d_Points_tellSide_11 rfl rfl ?_
  refine pw_iald d_Points_tellSide_12 hp.2.2.1 rfl rfl hj (by decide) ?_
  refine pw_aload_n d_Points_tellSide_13 rfl rfl ?_
  refine pw_get d_Points_tellSide_14 fl_Points_16 hp.1 rfl ?_
  refine pw_iload_n d_Points_tellSide_17 rfl rfl ?_
  refine pw_iald d_Points_tellSide_18 hp.2.2.2.1 rfl rfl hj (by decide) ?_
  refine pw_aload_n d_Points_tellSide_19 rfl rfl ?_
  refine pw_get d_Points_tellSide_20 fl_Points_19 hp.1 rfl ?_
  refine pw_iload_n d_Points_tellSide_23 rfl rfl ?_
  refine pw_iald d_Points_tellSide_24 hp.2.2.2.2.1 rfl rfl hj (by decide) ?_
  refine pw_callV1 (R' := (zroom 0 0 0)) (h2 := h) [.int (x j), .int (y j), .int (z j), .int (q j)] (fun q => nomatch q) d_Points_tellSide_25 lk_Points_32 hk rfl rfl rfl (c_Plane_heightOf hk hn) ?_
  refine pw_istore d_Points_tellSide_28 (by decide) (pl' := [some (.ref 36), some (.int (nI j)), some (.int (f)), some (.ref k), some (.int ((n1 * x j + n2 * y j + n3 * z j - d * q j)))]) rfl ?_
  refine pw_iload d_Points_tellSide_30 rfl ?_
  refine pw_if_le 50 d_Points_tellSide_32 (by decide) (fun q_1 => ?_) (fun q_1 => ?_)
  · refine pw_iload d_Points_tellSide_50 rfl ?_
    refine pw_if_ge 67 d_Points_tellSide_52 (by decide) (fun q_2 => ?_) (fun q_2 => ?_)
    · refine pw_return d_Points_tellSide_67 rfl (by decide) (by decide) ?_
      refine ⟨rfl, ?_, zsm_rf⟩
      rw [if_neg (fun z => absurd z (zlt.mpr q_1)), if_neg (fun z => absurd z (zlt.mpr q_2))]
      exact ⟨hp.1, hp.2.1, hp.2.2.1, hp.2.2.2.1, hp.2.2.2.2.1, hp.2.2.2.2.2.1, hp.2.2.2.2.2.2⟩
    · refine pw_aload_n d_Points_tellSide_55 rfl rfl ?_
      refine pw_get d_Points_tellSide_56 fl_Points_25 hp.1 rfl ?_
      refine pw_iload_n d_Points_tellSide_59 rfl rfl ?_
      refine pw_dup2 d_Points_tellSide_60 rfl rfl ?_
      refine pw_iald d_Points_tellSide_61 hp.2.2.2.2.2.2 rfl rfl hj (by decide) ?_
      refine pw_iconst (x := 1) d_Points_tellSide_62 (by decide) ?_
      refine pw_iload_n d_Points_tellSide_63 rfl rfl ?_
      refine pw_ishl d_Points_tellSide_64 ?_
      refine pw_ior d_Points_tellSide_65 ?_
      obtain ⟨h_3, eh_3⟩ : ∃ x_9, x_9 = List.set h (42) (.inl (0, 220, .inl (upd b j ((b j ||| (1 <<< ((f) &&& 31))))))) := ⟨_, rfl⟩
      refine pw_iast rfl d_Points_tellSide_66 hp.2.2.2.2.2.2 rfl rfl hj (by decide) eh_3.symm ?_
      refine pw_return d_Points_tellSide_67 rfl (by decide) (by decide) ?_
      refine ⟨rfl, ?_, (zsm_st zsm_rf eh_3 (by decide))⟩
      rw [if_neg (zasym (zle.mp q_2)), if_pos (zle.mp q_2)]
      exact ⟨(zg_ne eh_3 (by decide) hp.1), (zg_ne eh_3 (by decide) hp.2.1), (zg_ne eh_3 (by decide) hp.2.2.1), (zg_ne eh_3 (by decide) hp.2.2.2.1), (zg_ne eh_3 (by decide) hp.2.2.2.2.1), (zg_ne eh_3 (by decide) hp.2.2.2.2.2.1), (zg_eq eh_3 hp.2.2.2.2.2.2)⟩
  · refine pw_aload_n d_Points_tellSide_35 rfl rfl ?_
    refine pw_get d_Points_tellSide_36 fl_Points_22 hp.1 rfl ?_
    refine pw_iload_n d_Points_tellSide_39 rfl rfl ?_
    refine pw_dup2 d_Points_tellSide_40 rfl rfl ?_
    refine pw_iald d_Points_tellSide_41 hp.2.2.2.2.2.1 rfl rfl hj (by decide) ?_
    refine pw_iconst (x := 1) d_Points_tellSide_42 (by decide) ?_
    refine pw_iload_n d_Points_tellSide_43 rfl rfl ?_
    refine pw_ishl d_Points_tellSide_44 ?_
    refine pw_ior d_Points_tellSide_45 ?_
    obtain ⟨h_4, eh_4⟩ : ∃ x_9, x_9 = List.set h (41) (.inl (0, 220, .inl (upd a j ((a j ||| (1 <<< ((f) &&& 31))))))) := ⟨_, rfl⟩
    refine pw_iast rfl d_Points_tellSide_46 hp.2.2.2.2.2.1 rfl rfl hj (by decide) eh_4.symm ?_
    refine pw_goto 67 d_Points_tellSide_47 (by decide) ?_
    refine pw_return d_Points_tellSide_67 rfl (by decide) (by decide) ?_
    refine ⟨rfl, ?_, (zsm_st zsm_rf eh_4 (by decide))⟩
    rw [if_pos (zle.mp q_1), if_neg (zasym (zle.mp q_1))]
    exact ⟨(zg_ne eh_4 (by decide) hp.1), (zg_ne eh_4 (by decide) hp.2.1), (zg_ne eh_4 (by decide) hp.2.2.1), (zg_ne eh_4 (by decide) hp.2.2.2.1), (zg_ne eh_4 (by decide) hp.2.2.2.2.1), (zg_eq eh_4 hp.2.2.2.2.2.1), (zg_ne eh_4 (by decide) hp.2.2.2.2.2.2)⟩
