def zsf (v : Int32) : Int32 := if 1 < (if v < 8 then v else 8) then (if v < 8 then v else 8) else 1
theorem zsf_ok (v : Int32) : zsz (zsf v) := by
  unfold zsz zsf
  have e1 : (1 : Int32).toInt = 1 := rfl
  have e8 : (8 : Int32).toInt = 8 := rfl
  by_cases h : v < 8
  · rw [if_pos h]
    rw [Int32.lt_iff_toInt_lt, e8] at h
    by_cases q : 1 < v
    · rw [if_pos q]; rw [Int32.lt_iff_toInt_lt, e1] at q; omega
    · rw [if_neg q]; decide
  · rw [if_neg h, if_pos (by decide)]; decide
theorem zsf_in (v : Int32) : zsf v = if v < 1 then 1 else if 8 < v then 8 else v := by
  unfold zsf
  have e1 : (1 : Int32).toInt = 1 := rfl
  have e8 : (8 : Int32).toInt = 8 := rfl
  simp only [Int32.lt_iff_toInt_lt, e1, e8]
  apply Int32.toInt_inj.mp
  repeat' split
  all_goals first | rfl | omega | (simp only [e1, e8] at *; omega)
theorem zac {A : List Value} (h : A.all (fun v => v.category == 1) = true) : ∀ v ∈ A, v.category = 1 := fun v hv => by
  have := List.all_eq_true.mp h v hv
  simpa using this
theorem zHo_kp {h h' : zH} {fc : Int32} {ix iy iz sx sy sz : Nat → Int32} {l1 l2 l3 : Int32} (k : ∀ {j : Nat} {c : zE}, 1 ≤ j → j < 29 → h[j]? = some c → h'[j]? = some c) (ho : zHo h fc ix iy iz sx sy sz l1 l2 l3) : zHo h' fc ix iy iz sx sy sz l1 l2 l3 :=
  ⟨k (by decide) (by decide) ho.1, k (by decide) (by decide) ho.2.1, k (by decide) (by decide) ho.2.2.1, k (by decide) (by decide) ho.2.2.2.1, fun j hj => k (by omega) (by omega) (ho.2.2.2.2.1 j hj), fun j hj => k (by omega) (by omega) (ho.2.2.2.2.2 j hj)⟩
theorem zPl_kp {h h' : zH} {A B C D : Nat → Int32} (k : ∀ {j : Nat} {c : zE}, 34 ≤ j → j < 76 → h[j]? = some c → h'[j]? = some c) (hp : zPl h A B C D) : zPl h' A B C D :=
  ⟨k (by decide) (by decide) hp.1, fun j hj => k (by omega) (by omega) (hp.2.1 j hj), fun j hj => k (by omega) (by omega) (hp.2.2 j hj)⟩
/-- all but the directions -/
def zWI (h : zH) (x y z : Int32) (S : zPS) (T : zBS) : Prop := zWp h 0 0 0 (fun _ => 0) (fun _ => 0) (fun _ => 0) ∧ zRb h 0 (zsf x) (zsf y) (zsf z) (zkn 0) T (fun _ => 0) (fun _ => 0) ∧ zPl h (mA (zm0 (zsf x) (zsf y) (zsf z))) (mB (zm0 (zsf x) (zsf y) (zsf z))) (mC (zm0 (zsf x) (zsf y) (zsf z))) (mD (zm0 (zsf x) (zsf y) (zsf z))) ∧ zPp h S ∧ zCr h ∧ zHo h 0 (fun _ => 0) (fun _ => 0) (fun _ => 0) (fun _ => 0) (fun _ => 0) (fun _ => 0) 0 0 0
theorem zWI_kp {h h' : zH} {x y z : Int32} {S : zPS} {T : zBS} (k : ∀ {j : Nat} {c : zE}, j ≠ 29 → j ≠ 30 → j < 76 → h[j]? = some c → h'[j]? = some c) (hw : zWI h x y z S T) : zWI h' x y z S T :=
  ⟨⟨k (by decide) (by decide) (by decide) hw.1.1, k (by decide) (by decide) (by decide) hw.1.2.1, k (by decide) (by decide) (by decide) hw.1.2.2.1, k (by decide) (by decide) (by decide) hw.1.2.2.2⟩, zRk_kp (fun a b c q => k (by omega) (by omega) (by omega) q) hw.2.1, zPl_kp (fun a b q => k (by omega) (by omega) (by omega) q) hw.2.2.1, zPp_kp (fun a b c q => k (by omega) (by omega) (by omega) q) hw.2.2.2.1, zCr_kp (fun a b c q => k (by omega) (by omega) (by omega) q) hw.2.2.2.2.1, zHo_kp (fun a b q => k (by omega) (by omega) (by omega) q) hw.2.2.2.2.2⟩
set_option maxRecDepth 20000 in
set_option maxHeartbeats 2000000 in
theorem l_wini {G : zG} {x y z : Int32} {S : zPS} {T : zBS} (hfx : zPg (zkn 0) (mA (zm0 (zsf x) (zsf y) (zsf z))) (mB (zm0 (zsf x) (zsf y) (zsf z))) (mC (zm0 (zsf x) (zsf y) (zsf z))) (mD (zm0 (zsf x) (zsf y) (zsf z))) (zsf x) (zsf y) (zsf z) S ∧ S.1 ≤ 20 ∧ T = zbl (zkn 0) S.2.2.2.2.2.1 S.2.2.2.2.2.2 S.1 (2 ^ 0) (0, (fun _ => 0), (fun _ => 0), (fun _ => 0), (fun _ => 0)) 64) : ∀ (n i : Nat) (h : zH), 8 - i < n → i ≤ 8 → h.length = 76 + i → zWI h x y z S T → h[29]? = some (.inl (3, 8, .inr (.inr (.inr (.inr (zUq 76 i)))))) → (∀ j, j < i → zAr h (76 + j) 0 0 0) → zAr h 30 0 0 0 → PW G M_WP_init (zroom 6 83 2237) false (fun r h' => r = .inl none ∧ h'.length = 84 ∧ ∃ (S : zPS) (T : zBS), zPg (zkn 0) (mA (zm0 (zsf x) (zsf y) (zsf z))) (mB (zm0 (zsf x) (zsf y) (zsf z))) (mC (zm0 (zsf x) (zsf y) (zsf z))) (mD (zm0 (zsf x) (zsf y) (zsf z))) (zsf x) (zsf y) (zsf z) S ∧ S.1 ≤ 20 ∧ T = zbl (zkn 0) S.2.2.2.2.2.1 S.2.2.2.2.2.2 S.1 (2 ^ 0) (0, (fun _ => 0), (fun _ => 0), (fun _ => 0), (fun _ => 0)) 64 ∧ cAll h' 0 0 0 (fun _ => 0) (fun _ => 0) (fun _ => 0) 0 T.1 (zsf x) (zsf y) (zsf z) (zkn 0) T.2.1 T.2.2.1 T.2.2.2.1 T.2.2.2.2 (fun _ => 0) (fun _ => 0) (mA (zm0 (zsf x) (zsf y) (zsf z))) (mB (zm0 (zsf x) (zsf y) (zsf z))) (mC (zm0 (zsf x) (zsf y) (zsf z))) (mD (zm0 (zsf x) (zsf y) (zsf z))) S (fun _ => 0) (fun _ => 0) (fun _ => 0) 0 0 (-1)) 100 [some (.ref 0), some (.int x), some (.int y), some (.int z), some (.int (nI i))] [] h (75 + i) (2213 + 3 * i) := by
  intro n
  induction n with
  | zero => intro i h hn; exact absurd hn (Nat.not_lt_zero _)
  | succ n ih =>
    intro i h hn hi8 hl hw h29 h5 h30
    refine pw_iload d_WP_init_100 rfl ?_
    refine pw_bipush (x := 8) d_WP_init_102 (by decide) ?_
    refine pw_icmp_ge 127 d_WP_init_104 (by decide) (fun q_i => ?_) (fun q_i => ?_)
    · have hi : i = 8 := by have := (nI_leI (a := 8) (b := i) (by decide) (by omega)).mp q_i; omega
      subst hi
      refine pw_aload_n d_WP_init_127 rfl rfl ?_
      refine pw_get d_WP_init_128 fl_WP_23 hw.1.1 rfl ?_
      refine pw_iconst (x := 0) d_WP_init_131 (by decide) ?_
      refine pw_iconst (x := 0) d_WP_init_132 (by decide) ?_
      refine pw_iconst (x := (-1)) d_WP_init_133 (by decide) ?_
      obtain ⟨h1, e1⟩ : ∃ x_9, x_9 = h.set 30 (.inr (0, [.int 0, .int 0, .int (-1)]) : zE) := ⟨_, rfl⟩
      refine pw_callV0 (R' := (zroom 0 0 0)) (h2 := h1) [.int 0, .int 0, .int (-1)] (fun q => nomatch q) d_WP_init_134 lk_WP_61 h30 rfl rfl rfl (c_Arrow_set h30 e1) ?_
      refine pw_return d_WP_init_137 rfl (by decide) (by decide) ?_
      have hw1 := zWI_kp (h' := h1) (fun a b c q => zg_ne e1 (Ne.symm b) q) hw
      refine ⟨rfl, zs_ln e1 hl, S, T, hfx.1, hfx.2.1, hfx.2.2, hw1.1, hw1.2.1, hw1.2.2.1, hw1.2.2.2.1, hw1.2.2.2.2.1, ⟨_, _, _, _, _, _, _, _, _, _, hw1.2.2.2.2.2⟩, zg_ne e1 (by decide) h29, fun j hj => zg_ne e1 (by omega) (h5 j hj), zg_eq e1 h30⟩
    · have hi : i < 8 := by have := mt (nI_leI (a := 8) (b := i) (by decide) (by omega)).mpr q_i; omega
      refine pw_aload_n d_WP_init_107 rfl rfl ?_
      refine pw_get d_WP_init_108 fl_WP_18 hw.1.1 rfl ?_
      refine pw_iload d_WP_init_111 rfl ?_
      obtain ⟨h1, e1⟩ : ∃ x_9, x_9 = h ++ [(.inr (0, [.int 0, .int 0, .int 0]) : zE)] := ⟨_, rfl⟩
      refine pw_arrow (n := 76 + i) rfl d_WP_init_113 d_WP_init_116 d_WP_init_117 nw_WP_16 lk_WP_22 (by decide) (by decide) (by simp only [zroom]; omega) (by simp only [zroom]; omega) (Nat.le_of_ble_eq_true rfl) hl e1 ?_
      obtain ⟨h2, e2⟩ : ∃ x_9, x_9 = h1.set 29 (.inl (3, 8, .inr (.inr (.inr (.inr (zUq 76 (i + 1)))))) : zE) := ⟨_, rfl⟩
      refine pw_aast (h2 := h2) rfl d_WP_init_120 (zp_ne e1 h29) (zp_eq e1 hl) rfl rfl rfl (by omega) (by decide) (by rw [zUq_s rfl]; exact e2.symm) ?_
      refine pw_iinc (y := nI (i + 1)) d_WP_init_121 rfl (nI_1 i) (by decide) (pl' := [some (.ref 0), some (.int x), some (.int y), some (.int z), some (.int (nI (i + 1)))]) rfl ?_
      refine pw_goto 100 d_WP_init_124 (by decide) ?_
      refine pw_widen (nc' := 75 + (i + 1)) (ns' := 2213 + 3 * (i + 1)) (by omega) (by omega) (ih (i + 1) h2 (by omega) (by omega) ((zs_ln e2 (zp_ln e1 hl)).trans (by omega)) (zWI_kp (fun a b c q => zg_ne e2 (Ne.symm a) (zp_ne e1 q)) hw) (zg_eq e2 (zp_ne e1 h29)) (fun j hj => ?_) (zg_ne e2 (by decide) (zp_ne e1 h30)))
      rcases Nat.lt_succ_iff_lt_or_eq.mp hj with q | rfl
      · exact zg_ne e2 (by omega) (zp_ne e1 (h5 j q))
      · exact zg_ne e2 (by omega) (zp_eq e1 hl)
set_option maxRecDepth 20000 in
set_option maxHeartbeats 2000000 in
theorem c_WP_init {G : zG} {h : zH} (hl : h.length = 1) (hk : h[0]? = some (.inr (5, [.null, .null, .null, .null, .null, .null, .null, .int (0), .int (0), .int (0)]))) {x y z : Int32} : PW G M_WP_init (zroom 6 83 2237) false (fun r h' => r = .inl none ∧ h'.length = 84 ∧ ∃ (S : zPS) (T : zBS), zPg (zkn 0) (mA (zm0 (zsf x) (zsf y) (zsf z))) (mB (zm0 (zsf x) (zsf y) (zsf z))) (mC (zm0 (zsf x) (zsf y) (zsf z))) (mD (zm0 (zsf x) (zsf y) (zsf z))) (zsf x) (zsf y) (zsf z) S ∧ S.1 ≤ 20 ∧ T = zbl (zkn 0) S.2.2.2.2.2.1 S.2.2.2.2.2.2 S.1 (2 ^ 0) (0, (fun _ => 0), (fun _ => 0), (fun _ => 0), (fun _ => 0)) 64 ∧ cAll h' 0 0 0 (fun _ => 0) (fun _ => 0) (fun _ => 0) 0 T.1 (zsf x) (zsf y) (zsf z) (zkn 0) T.2.1 T.2.2.1 T.2.2.2.1 T.2.2.2.2 (fun _ => 0) (fun _ => 0) (mA (zm0 (zsf x) (zsf y) (zsf z))) (mB (zm0 (zsf x) (zsf y) (zsf z))) (mC (zm0 (zsf x) (zsf y) (zsf z))) (mD (zm0 (zsf x) (zsf y) (zsf z))) S (fun _ => 0) (fun _ => 0) (fun _ => 0) 0 0 (-1)) 0 (zentry 5 [.ref 0, .int (x), .int (y), .int (z)]) [] h 0 0 := by
  show PW G M_WP_init (zroom 6 83 2237) false _ 0 [some (.ref 0), some (.int (x)), some (.int (y)), some (.int (z)), none] [] h 0 0
  refine pw_aload_n d_WP_init_0 rfl rfl ?_
  refine pw_objInit d_WP_init_1 lk_WP_3 (by decide) (by decide) ?_
  refine pw_aload_n d_WP_init_4 rfl rfl ?_
  obtain ⟨h_1, eph_1⟩ : ∃ x_9, x_9 = h ++ [(.inr (1, [.null, .null, .null, .int (0)]) : zE)] := ⟨_, rfl⟩
  refine pw_newo (n := 1) rfl d_WP_init_5 nw_WP_9 (by decide) (by decide) hl eph_1 ?_
  refine pw_dup d_WP_init_8 rfl ?_
  refine pw_callIu (R' := zroom 2 27 99) (P' := false) [] (fun q => nomatch q) d_WP_init_9 lk_WP_11 rfl (fun v hv => by cases hv) (by decide) ⟨by decide, by decide, by decide, by decide⟩ (Nat.le_of_ble_eq_true rfl) (c_Hold_init (zp_ln eph_1 hl) (zp_eq eph_1 hl)) (fun h8 hh => ?_)
  obtain ⟨hz8, hl8, ho8⟩ := hh
  obtain ⟨h_2, eh_2⟩ : ∃ x_9, x_9 = List.set h8 (0) (.inr (5, [.null, .ref 1, .null, .null, .null, .null, .null, .int (0), .int (0), .int (0)])) := ⟨_, rfl⟩
  refine pw_put rfl d_WP_init_12 (fp_WP_12 _) (zlow_at hz8 (by decide) (zp_ne eph_1 hk)) (Nat.le_of_ble_eq_true rfl) (fun _ => ⟨rfl, rfl⟩) eh_2.symm ?_
  refine pw_aload_n d_WP_init_15 rfl rfl ?_
  refine pw_bipush (x := 8) d_WP_init_16 (by decide) ?_
  obtain ⟨h_3, eph_3⟩ : ∃ x_9, x_9 = h_2 ++ [(.inl (3, 8, .inr (.inr (.inr (.inr (fun _ => none))))) : zE)] := ⟨_, rfl⟩
  refine pw_anewA (N := 8) rfl d_WP_init_18 cl_WP_16 (by decide) (by decide) (by decide) (by decide) (by decide) (zs_ln eh_2 hl8) eph_3 ?_
  obtain ⟨h_4, eh_4⟩ : ∃ x_9, x_9 = List.set h_3 (0) (.inr (5, [.null, .ref 1, .ref 29, .null, .null, .null, .null, .int (0), .int (0), .int (0)])) := ⟨_, rfl⟩
  refine pw_put rfl d_WP_init_21 (fp_WP_18 _) (zp_ne eph_3 (zg_eq eh_2 (zlow_at hz8 (by decide) (zp_ne eph_1 hk)))) (Nat.le_of_ble_eq_true rfl) (fun _ => ⟨rfl, rfl⟩) eh_4.symm ?_
  refine pw_aload_n d_WP_init_24 rfl rfl ?_
  obtain ⟨h_5, eph_5⟩ : ∃ x_9, x_9 = h_4 ++ [(.inr (0, [.int (0), .int (0), .int (0)]) : zE)] := ⟨_, rfl⟩
  refine pw_arrow (n := 30) rfl d_WP_init_25 d_WP_init_28 d_WP_init_29 nw_WP_16 lk_WP_22 (by decide) (by decide) (by decide) (by decide) (Nat.le_of_ble_eq_true rfl) (zs_ln eh_4 (zp_ln eph_3 (zs_ln eh_2 hl8))) eph_5 ?_
  obtain ⟨h_6, eh_6⟩ : ∃ x_9, x_9 = List.set h_5 (0) (.inr (5, [.null, .ref 1, .ref 29, .ref 30, .null, .null, .null, .int (0), .int (0), .int (0)])) := ⟨_, rfl⟩
  refine pw_put rfl d_WP_init_32 (fp_WP_23 _) (zp_ne eph_5 (zg_eq eh_4 (zp_ne eph_3 (zg_eq eh_2 (zlow_at hz8 (by decide) (zp_ne eph_1 hk)))))) (Nat.le_of_ble_eq_true rfl) (fun _ => ⟨rfl, rfl⟩) eh_6.symm ?_
  refine pw_aload_n d_WP_init_35 rfl rfl ?_
  refine pw_bipush (x := 64) d_WP_init_36 (by decide) ?_
  obtain ⟨h_7, eph_7⟩ : ∃ x_9, x_9 = h_6 ++ [(.inl (1, 64, .inl (fun _ => 0)) : zE)] := ⟨_, rfl⟩
  refine pw_newz (N := 64) rfl d_WP_init_38 (by decide) (by decide) (by decide) (by decide) (by decide) (zs_ln eh_6 (zp_ln eph_5 (zs_ln eh_4 (zp_ln eph_3 (zs_ln eh_2 hl8))))) eph_7 ?_
  obtain ⟨h_8, eh_8⟩ : ∃ x_9, x_9 = List.set h_7 (0) (.inr (5, [.null, .ref 1, .ref 29, .ref 30, .ref 31, .null, .null, .int (0), .int (0), .int (0)])) := ⟨_, rfl⟩
  refine pw_put rfl d_WP_init_40 (fp_WP_27 _) (zp_ne eph_7 (zg_eq eh_6 (zp_ne eph_5 (zg_eq eh_4 (zp_ne eph_3 (zg_eq eh_2 (zlow_at hz8 (by decide) (zp_ne eph_1 hk)))))))) (Nat.le_of_ble_eq_true rfl) (fun _ => ⟨rfl, rfl⟩) eh_8.symm ?_
  refine pw_aload_n d_WP_init_43 rfl rfl ?_
  refine pw_bipush (x := 64) d_WP_init_44 (by decide) ?_
  obtain ⟨h_9, eph_9⟩ : ∃ x_9, x_9 = h_8 ++ [(.inl (0, 64, .inl (fun _ => 0)) : zE)] := ⟨_, rfl⟩
  refine pw_newi (N := 64) rfl d_WP_init_46 (by decide) (by decide) (by decide) (by decide) (by decide) (zs_ln eh_8 (zp_ln eph_7 (zs_ln eh_6 (zp_ln eph_5 (zs_ln eh_4 (zp_ln eph_3 (zs_ln eh_2 hl8))))))) eph_9 ?_
  obtain ⟨h_10, eh_10⟩ : ∃ x_9, x_9 = List.set h_9 (0) (.inr (5, [.null, .ref 1, .ref 29, .ref 30, .ref 31, .ref 32, .null, .int (0), .int (0), .int (0)])) := ⟨_, rfl⟩
  refine pw_put rfl d_WP_init_48 (fp_WP_31 _) (zp_ne eph_9 (zg_eq eh_8 (zp_ne eph_7 (zg_eq eh_6 (zp_ne eph_5 (zg_eq eh_4 (zp_ne eph_3 (zg_eq eh_2 (zlow_at hz8 (by decide) (zp_ne eph_1 hk)))))))))) (Nat.le_of_ble_eq_true rfl) (fun _ => ⟨rfl, rfl⟩) eh_10.symm ?_
  refine pw_aload_n d_WP_init_51 rfl rfl ?_
  refine pw_bipush (x := 64) d_WP_init_52 (by decide) ?_
  obtain ⟨h_11, eph_11⟩ : ∃ x_9, x_9 = h_10 ++ [(.inl (0, 64, .inl (fun _ => 0)) : zE)] := ⟨_, rfl⟩
  refine pw_newi (N := 64) rfl d_WP_init_54 (by decide) (by decide) (by decide) (by decide) (by decide) (zs_ln eh_10 (zp_ln eph_9 (zs_ln eh_8 (zp_ln eph_7 (zs_ln eh_6 (zp_ln eph_5 (zs_ln eh_4 (zp_ln eph_3 (zs_ln eh_2 hl8))))))))) eph_11 ?_
  obtain ⟨h_12, eh_12⟩ : ∃ x_9, x_9 = List.set h_11 (0) (.inr (5, [.null, .ref 1, .ref 29, .ref 30, .ref 31, .ref 32, .ref 33, .int (0), .int (0), .int (0)])) := ⟨_, rfl⟩
  refine pw_put rfl d_WP_init_56 (fp_WP_35 _) (zp_ne eph_11 (zg_eq eh_10 (zp_ne eph_9 (zg_eq eh_8 (zp_ne eph_7 (zg_eq eh_6 (zp_ne eph_5 (zg_eq eh_4 (zp_ne eph_3 (zg_eq eh_2 (zlow_at hz8 (by decide) (zp_ne eph_1 hk)))))))))))) (Nat.le_of_ble_eq_true rfl) (fun _ => ⟨rfl, rfl⟩) eh_12.symm ?_
  refine pw_aload_n d_WP_init_59 rfl rfl ?_
  refine pw_iconst (x := 0) d_WP_init_60 (by decide) ?_
  obtain ⟨h_13, eh_13⟩ : ∃ x_9, x_9 = List.set h_12 (0) (.inr (5, [.null, .ref 1, .ref 29, .ref 30, .ref 31, .ref 32, .ref 33, .int (0), .int (0), .int (0)])) := ⟨_, rfl⟩
  refine pw_put rfl d_WP_init_61 (fp_WP_38 _ _) (zg_eq eh_12 (zp_ne eph_11 (zg_eq eh_10 (zp_ne eph_9 (zg_eq eh_8 (zp_ne eph_7 (zg_eq eh_6 (zp_ne eph_5 (zg_eq eh_4 (zp_ne eph_3 (zg_eq eh_2 (zlow_at hz8 (by decide) (zp_ne eph_1 hk))))))))))))) (Nat.le_of_ble_eq_true rfl) (fun _ => ⟨rfl, rfl⟩) eh_13.symm ?_
  refine pw_aload_n d_WP_init_64 rfl rfl ?_
  refine pw_iconst (x := 0) d_WP_init_65 (by decide) ?_
  obtain ⟨h_14, eh_14⟩ : ∃ x_9, x_9 = List.set h_13 (0) (.inr (5, [.null, .ref 1, .ref 29, .ref 30, .ref 31, .ref 32, .ref 33, .int (0), .int (0), .int (0)])) := ⟨_, rfl⟩
  refine pw_put rfl d_WP_init_66 (fp_WP_42 _ _) (zg_eq eh_13 (zg_eq eh_12 (zp_ne eph_11 (zg_eq eh_10 (zp_ne eph_9 (zg_eq eh_8 (zp_ne eph_7 (zg_eq eh_6 (zp_ne eph_5 (zg_eq eh_4 (zp_ne eph_3 (zg_eq eh_2 (zlow_at hz8 (by decide) (zp_ne eph_1 hk)))))))))))))) (Nat.le_of_ble_eq_true rfl) (fun _ => ⟨rfl, rfl⟩) eh_14.symm ?_
  refine pw_aload_n d_WP_init_69 rfl rfl ?_
  refine pw_iconst (x := 0) d_WP_init_70 (by decide) ?_
  obtain ⟨h_15, eh_15⟩ : ∃ x_9, x_9 = List.set h_14 (0) (.inr (5, [.null, .ref 1, .ref 29, .ref 30, .ref 31, .ref 32, .ref 33, .int (0), .int (0), .int (0)])) := ⟨_, rfl⟩
  refine pw_put rfl d_WP_init_71 (fp_WP_45 _ _) (zg_eq eh_14 (zg_eq eh_13 (zg_eq eh_12 (zp_ne eph_11 (zg_eq eh_10 (zp_ne eph_9 (zg_eq eh_8 (zp_ne eph_7 (zg_eq eh_6 (zp_ne eph_5 (zg_eq eh_4 (zp_ne eph_3 (zg_eq eh_2 (zlow_at hz8 (by decide) (zp_ne eph_1 hk))))))))))))))) (Nat.le_of_ble_eq_true rfl) (fun _ => ⟨rfl, rfl⟩) eh_15.symm ?_
  refine pw_aload_n d_WP_init_74 rfl rfl ?_
  obtain ⟨h_16, eph_16⟩ : ∃ x_9, x_9 = h_15 ++ [(.inr (4, [.null, .null, .null, .null, .null, .null, .int (0), .int (0), .int (0), .int (0), .int (0), .null, .null, .null, .null, .null, .int (0)]) : zE)] := ⟨_, rfl⟩
  refine pw_newo (n := 34) rfl d_WP_init_75 nw_WP_48 (by decide) (by decide) (zs_ln eh_15 (zs_ln eh_14 (zs_ln eh_13 (zs_ln eh_12 (zp_ln eph_11 (zs_ln eh_10 (zp_ln eph_9 (zs_ln eh_8 (zp_ln eph_7 (zs_ln eh_6 (zp_ln eph_5 (zs_ln eh_4 (zp_ln eph_3 (zs_ln eh_2 hl8)))))))))))))) eph_16 ?_
  refine pw_dup d_WP_init_78 rfl ?_
  refine pw_iload_n d_WP_init_79 rfl rfl ?_
  refine pw_callS1 (R' := (zroom 1 0 0)) (h2 := h_16) [.int (x)] (fun q => nomatch q) d_WP_init_80 lk_WP_50 rfl rfl c_sizeFor ?_
  refine pw_iload_n d_WP_init_83 rfl rfl ?_
  refine pw_callS1 (R' := (zroom 1 0 0)) (h2 := h_16) [.int (y)] (fun q => nomatch q) d_WP_init_84 lk_WP_50 rfl rfl c_sizeFor ?_
  refine pw_iload_n d_WP_init_87 rfl rfl ?_
  refine pw_callS1 (R' := (zroom 1 0 0)) (h2 := h_16) [.int (z)] (fun q => nomatch q) d_WP_init_88 lk_WP_50 rfl rfl c_sizeFor ?_
  have kp8 : ∀ {j : Nat} {c : zE}, 1 ≤ j → j < 29 → h8[j]? = some c → h_16[j]? = some c := fun a b q => (zp_ne eph_16 (zg_ne eh_15 (by omega) (zg_ne eh_14 (by omega) (zg_ne eh_13 (by omega) (zg_ne eh_12 (by omega) (zp_ne eph_11 (zg_ne eh_10 (by omega) (zp_ne eph_9 (zg_ne eh_8 (by omega) (zp_ne eph_7 (zg_ne eh_6 (by omega) (zp_ne eph_5 (zg_ne eh_4 (by omega) (zp_ne eph_3 (zg_ne eh_2 (by omega) q)))))))))))))))
  refine pw_callIu (R' := zroom 5 41 1890) (P' := false) [.int (zsf x), .int (zsf y), .int (zsf z)] (fun q => nomatch q) d_WP_init_91 lk_WP_54 rfl (zac rfl) (Nat.le_of_ble_eq_true rfl) ⟨by decide, by decide, by decide, by decide⟩ (Nat.le_of_ble_eq_true rfl) (c_Rock_init (zp_ln eph_16 (zs_ln eh_15 (zs_ln eh_14 (zs_ln eh_13 (zs_ln eh_12 (zp_ln eph_11 (zs_ln eh_10 (zp_ln eph_9 (zs_ln eh_8 (zp_ln eph_7 (zs_ln eh_6 (zp_ln eph_5 (zs_ln eh_4 (zp_ln eph_3 (zs_ln eh_2 hl8))))))))))))))) (zp_eq eph_16 (zs_ln eh_15 (zs_ln eh_14 (zs_ln eh_13 (zs_ln eh_12 (zp_ln eph_11 (zs_ln eh_10 (zp_ln eph_9 (zs_ln eh_8 (zp_ln eph_7 (zs_ln eh_6 (zp_ln eph_5 (zs_ln eh_4 (zp_ln eph_3 (zs_ln eh_2 hl8))))))))))))))) (zsf_ok x) (zsf_ok y) (zsf_ok z)) (fun h7 hh => ?_)
  obtain ⟨hz7, hl7, S, T, f1, f2, f3, hrb, hpl, hpp, hcr⟩ := hh
  obtain ⟨h_17, eh_17⟩ : ∃ x_9, x_9 = List.set h7 (0) (.inr (5, [.ref 34, .ref 1, .ref 29, .ref 30, .ref 31, .ref 32, .ref 33, .int (0), .int (0), .int (0)])) := ⟨_, rfl⟩
  refine pw_put rfl d_WP_init_94 (fp_WP_57 _) (zlow_at hz7 (by decide) (zp_ne eph_16 (zg_eq eh_15 (zg_eq eh_14 (zg_eq eh_13 (zg_eq eh_12 (zp_ne eph_11 (zg_eq eh_10 (zp_ne eph_9 (zg_eq eh_8 (zp_ne eph_7 (zg_eq eh_6 (zp_ne eph_5 (zg_eq eh_4 (zp_ne eph_3 (zg_eq eh_2 (zlow_at hz8 (by decide) (zp_ne eph_1 hk)))))))))))))))))) (Nat.le_of_ble_eq_true rfl) (fun _ => ⟨rfl, rfl⟩) eh_17.symm ?_
  refine pw_iconst (x := 0) d_WP_init_97 (by decide) ?_
  refine pw_istore d_WP_init_98 (by decide) (pl' := [some (.ref 0), some (.int (x)), some (.int (y)), some (.int (z)), some (.int (0))]) rfl ?_
  have kp7 : ∀ {j : Nat} {c : zE}, j ≠ 0 → h7[j]? = some c → h_17[j]? = some c := fun a q => zg_ne eh_17 (Ne.symm a) q
  exact pw_widen (nc' := 75 + 0) (ns' := 2213 + 3 * 0) (by decide) (by decide) (l_wini ⟨f1, f2, f3⟩ 9 0 h_17 (by decide) (by decide) (zs_ln eh_17 hl7) ⟨⟨(zg_eq eh_17 (zlow_at hz7 (by decide) (zp_ne eph_16 (zg_eq eh_15 (zg_eq eh_14 (zg_eq eh_13 (zg_eq eh_12 (zp_ne eph_11 (zg_eq eh_10 (zp_ne eph_9 (zg_eq eh_8 (zp_ne eph_7 (zg_eq eh_6 (zp_ne eph_5 (zg_eq eh_4 (zp_ne eph_3 (zg_eq eh_2 (zlow_at hz8 (by decide) (zp_ne eph_1 hk))))))))))))))))))), (zg_ne eh_17 (by decide) (zlow_at hz7 (by decide) (zp_ne eph_16 (zg_ne eh_15 (by decide) (zg_ne eh_14 (by decide) (zg_ne eh_13 (by decide) (zg_ne eh_12 (by decide) (zp_ne eph_11 (zg_ne eh_10 (by decide) (zp_ne eph_9 (zg_ne eh_8 (by decide) (zp_eq eph_7 (zs_ln eh_6 (zp_ln eph_5 (zs_ln eh_4 (zp_ln eph_3 (zs_ln eh_2 hl8))))))))))))))))), (zg_ne eh_17 (by decide) (zlow_at hz7 (by decide) (zp_ne eph_16 (zg_ne eh_15 (by decide) (zg_ne eh_14 (by decide) (zg_ne eh_13 (by decide) (zg_ne eh_12 (by decide) (zp_ne eph_11 (zg_ne eh_10 (by decide) (zp_eq eph_9 (zs_ln eh_8 (zp_ln eph_7 (zs_ln eh_6 (zp_ln eph_5 (zs_ln eh_4 (zp_ln eph_3 (zs_ln eh_2 hl8))))))))))))))))), (zg_ne eh_17 (by decide) (zlow_at hz7 (by decide) (zp_ne eph_16 (zg_ne eh_15 (by decide) (zg_ne eh_14 (by decide) (zg_ne eh_13 (by decide) (zg_ne eh_12 (by decide) (zp_eq eph_11 (zs_ln eh_10 (zp_ln eph_9 (zs_ln eh_8 (zp_ln eph_7 (zs_ln eh_6 (zp_ln eph_5 (zs_ln eh_4 (zp_ln eph_3 (zs_ln eh_2 hl8)))))))))))))))))⟩, zRk_kp (fun a b c q => kp7 (by omega) q) hrb, zPl_kp (fun a b q => kp7 (by omega) q) hpl, zPp_kp (fun a b c q => kp7 (by omega) q) hpp, zCr_kp (fun a b c q => kp7 (by omega) q) hcr, zHo_kp (fun a b q => kp7 (by omega) (zlow_at hz7 (by omega) (kp8 a b q))) ho8⟩ (by rw [← zUq_0]; exact (zg_ne eh_17 (by decide) (zlow_at hz7 (by decide) (zp_ne eph_16 (zg_ne eh_15 (by decide) (zg_ne eh_14 (by decide) (zg_ne eh_13 (by decide) (zg_ne eh_12 (by decide) (zp_ne eph_11 (zg_ne eh_10 (by decide) (zp_ne eph_9 (zg_ne eh_8 (by decide) (zp_ne eph_7 (zg_ne eh_6 (by decide) (zp_ne eph_5 (zg_ne eh_4 (by decide) (zp_eq eph_3 (zs_ln eh_2 hl8)))))))))))))))))) (fun j hj => absurd hj (Nat.not_lt_zero _)) (zg_ne eh_17 (by decide) (zlow_at hz7 (by decide) (zp_ne eph_16 (zg_ne eh_15 (by decide) (zg_ne eh_14 (by decide) (zg_ne eh_13 (by decide) (zg_ne eh_12 (by decide) (zp_ne eph_11 (zg_ne eh_10 (by decide) (zp_ne eph_9 (zg_ne eh_8 (by decide) (zp_ne eph_7 (zg_ne eh_6 (by decide) (zp_eq eph_5 (zs_ln eh_4 (zp_ln eph_3 (zs_ln eh_2 hl8))))))))))))))))))
