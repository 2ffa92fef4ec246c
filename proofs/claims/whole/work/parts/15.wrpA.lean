theorem cl_Law_13 : Cond.classLink "WedgePlanesLaw" 13 "java/lang/IllegalArgumentException" ∈ zT := zmem 390 (by decide +kernel) rfl
theorem cl_Law_15 : Cond.classLink "WedgePlanesLaw" 15 "java/lang/IllegalStateException" ∈ zT := zmem 391 (by decide +kernel) rfl
theorem cl_Law_21 : Cond.classLink "WedgePlanesLaw" 21 "java/lang/IndexOutOfBoundsException" ∈ zT := zmem 508 (by decide +kernel) rfl
theorem ca_13 : Cond.castable "java/lang/IllegalArgumentException" "java/lang/IllegalArgumentException" ∈ zNw := zmemN 419 (by decide +kernel) rfl
theorem ca_15 : Cond.castable "java/lang/IllegalStateException" "java/lang/IllegalStateException" ∈ zNw := zmemN 487 (by decide +kernel) rfl
theorem ca_21 : Cond.castable "java/lang/IndexOutOfBoundsException" "java/lang/IndexOutOfBoundsException" ∈ zNw := zmemN 515 (by decide +kernel) rfl
theorem zin0 : vp_in 0 1 := vp_in_nI (n := 0) (by decide) (by decide)
def zOu (h : zH) (fl : Nat → Int64) : Prop := h[104]? = some (.inl (2, 1, .inr (.inl fl)))
set_option maxRecDepth 20000 in
set_option maxHeartbeats 2000000 in
theorem gw_joint {G : zG} {h : zH} {fs : List Value} {R' : Room} {P' : Bool} {F : Int32 → zH → Prop} {a b c d : Int32} (hf : zfit M_WP_joint R' (zroom 8 1 6) 0 0) (hw : h[0]? = some (.inr (5, fs))) {fl : Nat → Int64} (ho : zOu h fl) (hb : PW G M_WP_joint R' P' (fun r h' => ∃ t : Int32, r = .inl (some (.int t)) ∧ F t h') 0 (zentry 5 [.ref 0, .int a, .int b, .int c, .int d]) [] h 0 0) (hk : ∀ t h', F t h' → zOu h' fl) : PW G M_Law_joint (zroom 8 1 6) false (fun r h2 => ∃ (t : Int32) (h1 : zH), r = .inl (some (.int 0)) ∧ F t h1 ∧ h2 = h1.set 104 (.inl (2, 1, .inr (.inl (vp_updL fl 0 t.toInt64))))) 0 (zentry 7 [.ref 0, .int a, .int b, .int c, .int d, .ref 104]) [] h 0 0 := by
  show PW G M_Law_joint (zroom 8 1 6) false _ 0 [some (.ref 0), some (.int a), some (.int b), some (.int c), some (.int d), some (.ref 104), none] [] h 0 0
  refine pw_aload d_Law_joint_0 rfl ?_
  refine pw_iconst (x := 0) d_Law_joint_2 (by decide) ?_
  refine pw_aload_n d_Law_joint_3 rfl rfl ?_
  refine pw_iload_n d_Law_joint_4 rfl rfl ?_
  refine pw_iload_n d_Law_joint_5 rfl rfl ?_
  refine pw_iload_n d_Law_joint_6 rfl rfl ?_
  refine pw_iload d_Law_joint_7 rfl ?_
  refine pw_callV (R' := R') (P' := P') [.int a, .int b, .int c, .int d] (fun q => nomatch q) d_Law_joint_9 lk_Law_7 hw rfl rfl (zac rfl) (Nat.le_of_ble_eq_true rfl) hf (Nat.le_of_ble_eq_true rfl) hb (fun r h' q => by obtain ⟨t, e, -⟩ := q; exact ⟨_, e⟩) (fun v h1 q => ?_)
  obtain ⟨t, e, hF⟩ := q
  cases e
  have hk1 := hk t h1 hF
  refine pw_i2l d_Law_joint_12 ?_
  refine pw_lastore (h2 := h1.set 104 (.inl (2, 1, .inr (.inl (vp_updL fl 0 t.toInt64))))) rfl d_Law_joint_13 hk1 rfl zin0 rfl ?_
  refine pw_goto 25 d_Law_joint_14 (by decide) ?_
  refine pw_iconst (x := 0) d_Law_joint_25 (by decide) ?_
  refine pw_ireturn d_Law_joint_26 rfl hf.2.2.1 hf.2.2.2 ?_
  exact ⟨t, h1, rfl, hF, rfl⟩
set_option maxRecDepth 20000 in
set_option maxHeartbeats 2000000 in
theorem gt_joint1 {G : zG} {h : zH} {fs : List Value} {R' : Room} {P' : Bool} {Q' : zO → zH → Prop} {F : zH → Prop} {a b c d : Int32} (hf : zfit M_WP_joint R' (zroom 8 1 6) 0 0) (hw : h[0]? = some (.inr (5, fs))) (hb : PW G M_WP_joint R' P' Q' 0 (zentry 5 [.ref 0, .int a, .int b, .int c, .int d]) [] h 0 0) (hthr : ∀ r h', Q' r h' → (∃ y, r = .inr (7, y) ∧ h'[y]? = some (.inr (7, []))) ∧ F h') : PW G M_Law_joint (zroom 8 1 6) false (fun r h2 => r = .inl (some (.int 1)) ∧ F h2) 0 (zentry 7 [.ref 0, .int a, .int b, .int c, .int d, .ref 104]) [] h 0 0 := by
  show PW G M_Law_joint (zroom 8 1 6) false _ 0 [some (.ref 0), some (.int a), some (.int b), some (.int c), some (.int d), some (.ref 104), none] [] h 0 0
  refine pw_aload d_Law_joint_0 rfl ?_
  refine pw_iconst (x := 0) d_Law_joint_2 (by decide) ?_
  refine pw_aload_n d_Law_joint_3 rfl rfl ?_
  refine pw_iload_n d_Law_joint_4 rfl rfl ?_
  refine pw_iload_n d_Law_joint_5 rfl rfl ?_
  refine pw_iload_n d_Law_joint_6 rfl rfl ?_
  refine pw_iload d_Law_joint_7 rfl ?_
  refine pw_catch1 (cx := 7) (R' := R') (P' := P') [.int a, .int b, .int c, .int d] (fun q => nomatch q) d_Law_joint_9 lk_Law_7 hw rfl rfl (zac rfl) (Nat.le_of_ble_eq_true rfl) hf (Nat.le_of_ble_eq_true rfl) rfl (by decide) (by decide) rfl cl_Law_13 ca_13 hb (fun r h' q => (hthr r h' q).1) (fun y h1 q => ?_)
  have hF := (hthr _ _ q).2
  refine pw_astore d_Law_joint_17 (by decide) (pl' := [some (.ref 0), some (.int a), some (.int b), some (.int c), some (.int d), some (.ref 104), some (.ref y)]) rfl ?_
  refine pw_iconst (x := 1) d_Law_joint_19 (by decide) ?_
  refine pw_ireturn d_Law_joint_20 rfl hf.2.2.1 hf.2.2.2 ?_
  exact ⟨rfl, hF⟩
set_option maxRecDepth 20000 in
set_option maxHeartbeats 2000000 in
theorem gt_joint2 {G : zG} {h : zH} {fs : List Value} {R' : Room} {P' : Bool} {Q' : zO → zH → Prop} {F : zH → Prop} {a b c d : Int32} (hf : zfit M_WP_joint R' (zroom 8 1 6) 0 0) (hw : h[0]? = some (.inr (5, fs))) (hb : PW G M_WP_joint R' P' Q' 0 (zentry 5 [.ref 0, .int a, .int b, .int c, .int d]) [] h 0 0) (hthr : ∀ r h', Q' r h' → (∃ y, r = .inr (8, y) ∧ h'[y]? = some (.inr (8, []))) ∧ F h') : PW G M_Law_joint (zroom 8 1 6) false (fun r h2 => r = .inl (some (.int 2)) ∧ F h2) 0 (zentry 7 [.ref 0, .int a, .int b, .int c, .int d, .ref 104]) [] h 0 0 := by
  show PW G M_Law_joint (zroom 8 1 6) false _ 0 [some (.ref 0), some (.int a), some (.int b), some (.int c), some (.int d), some (.ref 104), none] [] h 0 0
  refine pw_aload d_Law_joint_0 rfl ?_
  refine pw_iconst (x := 0) d_Law_joint_2 (by decide) ?_
  refine pw_aload_n d_Law_joint_3 rfl rfl ?_
  refine pw_iload_n d_Law_joint_4 rfl rfl ?_
  refine pw_iload_n d_Law_joint_5 rfl rfl ?_
  refine pw_iload_n d_Law_joint_6 rfl rfl ?_
  refine pw_iload d_Law_joint_7 rfl ?_
  refine pw_catch2 (cx := 8) (R' := R') (P' := P') [.int a, .int b, .int c, .int d] (fun q => nomatch q) d_Law_joint_9 lk_Law_7 hw rfl rfl (zac rfl) (Nat.le_of_ble_eq_true rfl) hf (Nat.le_of_ble_eq_true rfl) rfl (by decide) (by decide) (by decide) (by decide) rfl cl_Law_13 cl_Law_15 ca_15 hb (fun r h' q => (hthr r h' q).1) (fun y h1 q => ?_)
  have hF := (hthr _ _ q).2
  refine pw_astore d_Law_joint_21 (by decide) (pl' := [some (.ref 0), some (.int a), some (.int b), some (.int c), some (.int d), some (.ref 104), some (.ref y)]) rfl ?_
  refine pw_iconst (x := 2) d_Law_joint_23 (by decide) ?_
  refine pw_ireturn d_Law_joint_24 rfl hf.2.2.1 hf.2.2.2 ?_
  exact ⟨rfl, hF⟩
set_option maxRecDepth 20000 in
set_option maxHeartbeats 2000000 in
theorem gw_open {G : zG} {h : zH} {fs : List Value} {R' : Room} {P' : Bool} {F : Int32 → zH → Prop} {a b : Int32} (hf : zfit M_WP_open R' (zroom 8 1 6) 0 0) (hw : h[0]? = some (.inr (5, fs))) {fl : Nat → Int64} (ho : zOu h fl) (hb : PW G M_WP_open R' P' (fun r h' => ∃ t : Int32, r = .inl (some (.int t)) ∧ F t h') 0 (zentry 4 [.ref 0, .int a, .int b]) [] h 0 0) (hk : ∀ t h', F t h' → zOu h' fl) : PW G M_Law_open (zroom 8 1 6) false (fun r h2 => ∃ (t : Int32) (h1 : zH), r = .inl (some (.int 0)) ∧ F t h1 ∧ h2 = h1.set 104 (.inl (2, 1, .inr (.inl (vp_updL fl 0 (if t = 0 then 0 else 1)))))) 0 (zentry 5 [.ref 0, .int a, .int b, .ref 104]) [] h 0 0 := by
  show PW G M_Law_open (zroom 8 1 6) false _ 0 [some (.ref 0), some (.int a), some (.int b), some (.ref 104), none] [] h 0 0
  refine pw_aload_n d_Law_open_0 rfl rfl ?_
  refine pw_iconst (x := 0) d_Law_open_1 (by decide) ?_
  refine pw_aload_n d_Law_open_2 rfl rfl ?_
  refine pw_iload_n d_Law_open_3 rfl rfl ?_
  refine pw_iload_n d_Law_open_4 rfl rfl ?_
  refine pw_callV (R' := R') (P' := P') [.int a, .int b] (fun q => nomatch q) d_Law_open_5 lk_Law_17 hw rfl rfl (zac rfl) (Nat.le_of_ble_eq_true rfl) hf (Nat.le_of_ble_eq_true rfl) hb (fun r h' q => by obtain ⟨t, e, -⟩ := q; exact ⟨_, e⟩) (fun v h1 q => ?_)
  obtain ⟨t, e, hF⟩ := q
  cases e
  have hk1 := hk t h1 hF
  refine pw_if_eq 15 d_Law_open_8 (by decide) (fun q => ?_) (fun q => ?_)
  · refine pw_lconst (x := 0) d_Law_open_15 (by decide) ?_
    refine pw_lastore (h2 := h1.set 104 (.inl (2, 1, .inr (.inl (vp_updL fl 0 0))))) rfl d_Law_open_16 hk1 rfl zin0 rfl ?_
    refine pw_goto 24 d_Law_open_17 (by decide) ?_
    refine pw_iconst (x := 0) d_Law_open_24 (by decide) ?_
    refine pw_ireturn d_Law_open_25 rfl hf.2.2.1 hf.2.2.2 ?_
    exact ⟨t, h1, rfl, hF, by rw [if_pos q]⟩
  · refine pw_lconst (x := 1) d_Law_open_11 (by decide) ?_
    refine pw_goto 16 d_Law_open_12 (by decide) ?_
    refine pw_lastore (h2 := h1.set 104 (.inl (2, 1, .inr (.inl (vp_updL fl 0 1))))) rfl d_Law_open_16 hk1 rfl zin0 rfl ?_
    refine pw_goto 24 d_Law_open_17 (by decide) ?_
    refine pw_iconst (x := 0) d_Law_open_24 (by decide) ?_
    refine pw_ireturn d_Law_open_25 rfl hf.2.2.1 hf.2.2.2 ?_
    exact ⟨t, h1, rfl, hF, by rw [if_neg q]⟩
set_option maxRecDepth 20000 in
set_option maxHeartbeats 2000000 in
theorem gt_open1 {G : zG} {h : zH} {fs : List Value} {R' : Room} {P' : Bool} {Q' : zO → zH → Prop} {F : zH → Prop} {a b : Int32} (hf : zfit M_WP_open R' (zroom 8 1 6) 0 0) (hw : h[0]? = some (.inr (5, fs))) (hb : PW G M_WP_open R' P' Q' 0 (zentry 4 [.ref 0, .int a, .int b]) [] h 0 0) (hthr : ∀ r h', Q' r h' → (∃ y, r = .inr (9, y) ∧ h'[y]? = some (.inr (9, []))) ∧ F h') : PW G M_Law_open (zroom 8 1 6) false (fun r h2 => r = .inl (some (.int 1)) ∧ F h2) 0 (zentry 5 [.ref 0, .int a, .int b, .ref 104]) [] h 0 0 := by
  show PW G M_Law_open (zroom 8 1 6) false _ 0 [some (.ref 0), some (.int a), some (.int b), some (.ref 104), none] [] h 0 0
  refine pw_aload_n d_Law_open_0 rfl rfl ?_
  refine pw_iconst (x := 0) d_Law_open_1 (by decide) ?_
  refine pw_aload_n d_Law_open_2 rfl rfl ?_
  refine pw_iload_n d_Law_open_3 rfl rfl ?_
  refine pw_iload_n d_Law_open_4 rfl rfl ?_
  refine pw_catch1 (cx := 9) (R' := R') (P' := P') [.int a, .int b] (fun q => nomatch q) d_Law_open_5 lk_Law_17 hw rfl rfl (zac rfl) (Nat.le_of_ble_eq_true rfl) hf (Nat.le_of_ble_eq_true rfl) rfl (by decide) (by decide) rfl cl_Law_21 ca_21 hb (fun r h' q => (hthr r h' q).1) (fun y h1 q => ?_)
  have hF := (hthr _ _ q).2
  refine pw_astore d_Law_open_20 (by decide) (pl' := [some (.ref 0), some (.int a), some (.int b), some (.ref 104), some (.ref y)]) rfl ?_
  refine pw_iconst (x := 1) d_Law_open_22 (by decide) ?_
  refine pw_ireturn d_Law_open_23 rfl hf.2.2.1 hf.2.2.2 ?_
  exact ⟨rfl, hF⟩
set_option maxRecDepth 20000 in
set_option maxHeartbeats 2000000 in
theorem gw_direction {G : zG} {h : zH} {fs : List Value} {R' : Room} {P' : Bool} {F : Int32 → zH → Prop} {a b c : Int32} (hf : zfit M_WP_direction R' (zroom 8 1 6) 0 0) (hw : h[0]? = some (.inr (5, fs))) {fl : Nat → Int64} (ho : zOu h fl) (hb : PW G M_WP_direction R' P' (fun r h' => ∃ t : Int32, r = .inl (some (.int t)) ∧ F t h') 0 (zentry 4 [.ref 0, .int a, .int b, .int c]) [] h 0 0) (hk : ∀ t h', F t h' → zOu h' fl) : PW G M_Law_direction (zroom 8 1 6) false (fun r h2 => ∃ (t : Int32) (h1 : zH), r = .inl (some (.int 0)) ∧ F t h1 ∧ h2 = h1.set 104 (.inl (2, 1, .inr (.inl (vp_updL fl 0 t.toInt64))))) 0 (zentry 6 [.ref 0, .int a, .int b, .int c, .ref 104]) [] h 0 0 := by
  show PW G M_Law_direction (zroom 8 1 6) false _ 0 [some (.ref 0), some (.int a), some (.int b), some (.int c), some (.ref 104), none] [] h 0 0
  refine pw_aload d_Law_direction_0 rfl ?_
  refine pw_iconst (x := 0) d_Law_direction_2 (by decide) ?_
  refine pw_aload_n d_Law_direction_3 rfl rfl ?_
  refine pw_iload_n d_Law_direction_4 rfl rfl ?_
  refine pw_iload_n d_Law_direction_5 rfl rfl ?_
  refine pw_iload_n d_Law_direction_6 rfl rfl ?_
  refine pw_callV (R' := R') (P' := P') [.int a, .int b, .int c] (fun q => nomatch q) d_Law_direction_7 lk_Law_23 hw rfl rfl (zac rfl) (Nat.le_of_ble_eq_true rfl) hf (Nat.le_of_ble_eq_true rfl) hb (fun r h' q => by obtain ⟨t, e, -⟩ := q; exact ⟨_, e⟩) (fun v h1 q => ?_)
  obtain ⟨t, e, hF⟩ := q
  cases e
  have hk1 := hk t h1 hF
  refine pw_i2l d_Law_direction_10 ?_
  refine pw_lastore (h2 := h1.set 104 (.inl (2, 1, .inr (.inl (vp_updL fl 0 t.toInt64))))) rfl d_Law_direction_11 hk1 rfl zin0 rfl ?_
  refine pw_goto 23 d_Law_direction_12 (by decide) ?_
  refine pw_iconst (x := 0) d_Law_direction_23 (by decide) ?_
  refine pw_ireturn d_Law_direction_24 rfl hf.2.2.1 hf.2.2.2 ?_
  exact ⟨t, h1, rfl, hF, rfl⟩
set_option maxRecDepth 20000 in
set_option maxHeartbeats 2000000 in
theorem gt_direction1 {G : zG} {h : zH} {fs : List Value} {R' : Room} {P' : Bool} {Q' : zO → zH → Prop} {F : zH → Prop} {a b c : Int32} (hf : zfit M_WP_direction R' (zroom 8 1 6) 0 0) (hw : h[0]? = some (.inr (5, fs))) (hb : PW G M_WP_direction R' P' Q' 0 (zentry 4 [.ref 0, .int a, .int b, .int c]) [] h 0 0) (hthr : ∀ r h', Q' r h' → (∃ y, r = .inr (7, y) ∧ h'[y]? = some (.inr (7, []))) ∧ F h') : PW G M_Law_direction (zroom 8 1 6) false (fun r h2 => r = .inl (some (.int 1)) ∧ F h2) 0 (zentry 6 [.ref 0, .int a, .int b, .int c, .ref 104]) [] h 0 0 := by
  show PW G M_Law_direction (zroom 8 1 6) false _ 0 [some (.ref 0), some (.int a), some (.int b), some (.int c), some (.ref 104), none] [] h 0 0
  refine pw_aload d_Law_direction_0 rfl ?_
  refine pw_iconst (x := 0) d_Law_direction_2 (by decide) ?_
  refine pw_aload_n d_Law_direction_3 rfl rfl ?_
  refine pw_iload_n d_Law_direction_4 rfl rfl ?_
  refine pw_iload_n d_Law_direction_5 rfl rfl ?_
  refine pw_iload_n d_Law_direction_6 rfl rfl ?_
  refine pw_catch1 (cx := 7) (R' := R') (P' := P') [.int a, .int b, .int c] (fun q => nomatch q) d_Law_direction_7 lk_Law_23 hw rfl rfl (zac rfl) (Nat.le_of_ble_eq_true rfl) hf (Nat.le_of_ble_eq_true rfl) rfl (by decide) (by decide) rfl cl_Law_13 ca_13 hb (fun r h' q => (hthr r h' q).1) (fun y h1 q => ?_)
  have hF := (hthr _ _ q).2
  refine pw_astore d_Law_direction_15 (by decide) (pl' := [some (.ref 0), some (.int a), some (.int b), some (.int c), some (.ref 104), some (.ref y)]) rfl ?_
  refine pw_iconst (x := 1) d_Law_direction_17 (by decide) ?_
  refine pw_ireturn d_Law_direction_18 rfl hf.2.2.1 hf.2.2.2 ?_
  exact ⟨rfl, hF⟩
set_option maxRecDepth 20000 in
set_option maxHeartbeats 2000000 in
theorem gt_direction2 {G : zG} {h : zH} {fs : List Value} {R' : Room} {P' : Bool} {Q' : zO → zH → Prop} {F : zH → Prop} {a b c : Int32} (hf : zfit M_WP_direction R' (zroom 8 1 6) 0 0) (hw : h[0]? = some (.inr (5, fs))) (hb : PW G M_WP_direction R' P' Q' 0 (zentry 4 [.ref 0, .int a, .int b, .int c]) [] h 0 0) (hthr : ∀ r h', Q' r h' → (∃ y, r = .inr (8, y) ∧ h'[y]? = some (.inr (8, []))) ∧ F h') : PW G M_Law_direction (zroom 8 1 6) false (fun r h2 => r = .inl (some (.int 2)) ∧ F h2) 0 (zentry 6 [.ref 0, .int a, .int b, .int c, .ref 104]) [] h 0 0 := by
  show PW G M_Law_direction (zroom 8 1 6) false _ 0 [some (.ref 0), some (.int a), some (.int b), some (.int c), some (.ref 104), none] [] h 0 0
  refine pw_aload d_Law_direction_0 rfl ?_
  refine pw_iconst (x := 0) d_Law_direction_2 (by decide) ?_
  refine pw_aload_n d_Law_direction_3 rfl rfl ?_
  refine pw_iload_n d_Law_direction_4 rfl rfl ?_
  refine pw_iload_n d_Law_direction_5 rfl rfl ?_
  refine pw_iload_n d_Law_direction_6 rfl rfl ?_
  refine pw_catch2 (cx := 8) (R' := R') (P' := P') [.int a, .int b, .int c] (fun q => nomatch q) d_Law_direction_7 lk_Law_23 hw rfl rfl (zac rfl) (Nat.le_of_ble_eq_true rfl) hf (Nat.le_of_ble_eq_true rfl) rfl (by decide) (by decide) (by decide) (by decide) rfl cl_Law_13 cl_Law_15 ca_15 hb (fun r h' q => (hthr r h' q).1) (fun y h1 q => ?_)
  have hF := (hthr _ _ q).2
  refine pw_astore d_Law_direction_19 (by decide) (pl' := [some (.ref 0), some (.int a), some (.int b), some (.int c), some (.ref 104), some (.ref y)]) rfl ?_
  refine pw_iconst (x := 2) d_Law_direction_21 (by decide) ?_
  refine pw_ireturn d_Law_direction_22 rfl hf.2.2.1 hf.2.2.2 ?_
  exact ⟨rfl, hF⟩
set_option maxRecDepth 20000 in
set_option maxHeartbeats 2000000 in
theorem gw_pull {G : zG} {h : zH} {fs : List Value} {R' : Room} {P' : Bool} {F : zH → Prop} {a b c : Int32} (hf : zfit M_WP_pull R' (zroom 8 1 6) 0 0) (hw : h[0]? = some (.inr (5, fs))) (hb : PW G M_WP_pull R' P' (fun r h' => r = .inl none ∧ F h') 0 (zentry 4 [.ref 0, .int a, .int b, .int c]) [] h 0 0) : PW G M_Law_pull (zroom 8 1 6) false (fun r h2 => r = .inl (some (.int 0)) ∧ F h2) 0 (zentry 5 [.ref 0, .int a, .int b, .int c]) [] h 0 0 := by
  show PW G M_Law_pull (zroom 8 1 6) false _ 0 [some (.ref 0), some (.int a), some (.int b), some (.int c), none] [] h 0 0
  refine pw_aload_n d_Law_pull_0 rfl rfl ?_
  refine pw_iload_n d_Law_pull_1 rfl rfl ?_
  refine pw_iload_n d_Law_pull_2 rfl rfl ?_
  refine pw_iload_n d_Law_pull_3 rfl rfl ?_
  refine pw_callV (R' := R') (P' := P') [.int a, .int b, .int c] (fun q => nomatch q) d_Law_pull_4 lk_Law_27 hw rfl rfl (zac rfl) (Nat.le_of_ble_eq_true rfl) hf (Nat.le_of_ble_eq_true rfl) hb (fun r h' q => ⟨_, q.1⟩) (fun v h1 q => ?_)
  obtain ⟨e, hF⟩ := q
  cases e
  refine pw_goto 14 d_Law_pull_7 (by decide) ?_
  refine pw_iconst (x := 0) d_Law_pull_14 (by decide) ?_
  refine pw_ireturn d_Law_pull_15 rfl hf.2.2.1 hf.2.2.2 ?_
  exact ⟨rfl, hF⟩
set_option maxRecDepth 20000 in
set_option maxHeartbeats 2000000 in
theorem gt_pull1 {G : zG} {h : zH} {fs : List Value} {R' : Room} {P' : Bool} {Q' : zO → zH → Prop} {F : zH → Prop} {a b c : Int32} (hf : zfit M_WP_pull R' (zroom 8 1 6) 0 0) (hw : h[0]? = some (.inr (5, fs))) (hb : PW G M_WP_pull R' P' Q' 0 (zentry 4 [.ref 0, .int a, .int b, .int c]) [] h 0 0) (hthr : ∀ r h', Q' r h' → (∃ y, r = .inr (7, y) ∧ h'[y]? = some (.inr (7, []))) ∧ F h') : PW G M_Law_pull (zroom 8 1 6) false (fun r h2 => r = .inl (some (.int 1)) ∧ F h2) 0 (zentry 5 [.ref 0, .int a, .int b, .int c]) [] h 0 0 := by
  show PW G M_Law_pull (zroom 8 1 6) false _ 0 [some (.ref 0), some (.int a), some (.int b), some (.int c), none] [] h 0 0
  refine pw_aload_n d_Law_pull_0 rfl rfl ?_
  refine pw_iload_n d_Law_pull_1 rfl rfl ?_
  refine pw_iload_n d_Law_pull_2 rfl rfl ?_
  refine pw_iload_n d_Law_pull_3 rfl rfl ?_
  refine pw_catch1 (cx := 7) (R' := R') (P' := P') [.int a, .int b, .int c] (fun q => nomatch q) d_Law_pull_4 lk_Law_27 hw rfl rfl (zac rfl) (Nat.le_of_ble_eq_true rfl) hf (Nat.le_of_ble_eq_true rfl) rfl (by decide) (by decide) rfl cl_Law_13 ca_13 hb (fun r h' q => (hthr r h' q).1) (fun y h1 q => ?_)
  have hF := (hthr _ _ q).2
  refine pw_astore d_Law_pull_10 (by decide) (pl' := [some (.ref 0), some (.int a), some (.int b), some (.int c), some (.ref y)]) rfl ?_
  refine pw_iconst (x := 1) d_Law_pull_12 (by decide) ?_
  refine pw_ireturn d_Law_pull_13 rfl hf.2.2.1 hf.2.2.2 ?_
  exact ⟨rfl, hF⟩
set_option maxRecDepth 20000 in
set_option maxHeartbeats 2000000 in
theorem gw_block {G : zG} {h : zH} {fs : List Value} {R' : Room} {P' : Bool} {F : Int32 → zH → Prop} {a b : Int32} (hf : zfit M_WP_block R' (zroom 8 1 6) 0 0) (hw : h[0]? = some (.inr (5, fs))) {fl : Nat → Int64} (ho : zOu h fl) (hb : PW G M_WP_block R' P' (fun r h' => ∃ t : Int32, r = .inl (some (.int t)) ∧ F t h') 0 (zentry 3 [.ref 0, .int a, .int b]) [] h 0 0) (hk : ∀ t h', F t h' → zOu h' fl) : PW G M_Law_block (zroom 8 1 6) false (fun r h2 => ∃ (t : Int32) (h1 : zH), r = .inl (some (.int 0)) ∧ F t h1 ∧ h2 = h1.set 104 (.inl (2, 1, .inr (.inl (vp_updL fl 0 t.toInt64))))) 0 (zentry 5 [.ref 0, .int a, .int b, .ref 104]) [] h 0 0 := by
  show PW G M_Law_block (zroom 8 1 6) false _ 0 [some (.ref 0), some (.int a), some (.int b), some (.ref 104), none] [] h 0 0
  refine pw_aload_n d_Law_block_0 rfl rfl ?_
  refine pw_iconst (x := 0) d_Law_block_1 (by decide) ?_
  refine pw_aload_n d_Law_block_2 rfl rfl ?_
  refine pw_iload_n d_Law_block_3 rfl rfl ?_
  refine pw_iload_n d_Law_block_4 rfl rfl ?_
  refine pw_callV (R' := R') (P' := P') [.int a, .int b] (fun q => nomatch q) d_Law_block_5 lk_Law_31 hw rfl rfl (zac rfl) (Nat.le_of_ble_eq_true rfl) hf (Nat.le_of_ble_eq_true rfl) hb (fun r h' q => by obtain ⟨t, e, -⟩ := q; exact ⟨_, e⟩) (fun v h1 q => ?_)
  obtain ⟨t, e, hF⟩ := q
  cases e
  have hk1 := hk t h1 hF
  refine pw_i2l d_Law_block_8 ?_
  refine pw_lastore (h2 := h1.set 104 (.inl (2, 1, .inr (.inl (vp_updL fl 0 t.toInt64))))) rfl d_Law_block_9 hk1 rfl zin0 rfl ?_
  refine pw_goto 17 d_Law_block_10 (by decide) ?_
  refine pw_iconst (x := 0) d_Law_block_17 (by decide) ?_
  refine pw_ireturn d_Law_block_18 rfl hf.2.2.1 hf.2.2.2 ?_
  exact ⟨t, h1, rfl, hF, rfl⟩
set_option maxRecDepth 20000 in
set_option maxHeartbeats 2000000 in
theorem gt_block1 {G : zG} {h : zH} {fs : List Value} {R' : Room} {P' : Bool} {Q' : zO → zH → Prop} {F : zH → Prop} {a b : Int32} (hf : zfit M_WP_block R' (zroom 8 1 6) 0 0) (hw : h[0]? = some (.inr (5, fs))) (hb : PW G M_WP_block R' P' Q' 0 (zentry 3 [.ref 0, .int a, .int b]) [] h 0 0) (hthr : ∀ r h', Q' r h' → (∃ y, r = .inr (9, y) ∧ h'[y]? = some (.inr (9, []))) ∧ F h') : PW G M_Law_block (zroom 8 1 6) false (fun r h2 => r = .inl (some (.int 1)) ∧ F h2) 0 (zentry 5 [.ref 0, .int a, .int b, .ref 104]) [] h 0 0 := by
  show PW G M_Law_block (zroom 8 1 6) false _ 0 [some (.ref 0), some (.int a), some (.int b), some (.ref 104), none] [] h 0 0
  refine pw_aload_n d_Law_block_0 rfl rfl ?_
  refine pw_iconst (x := 0) d_Law_block_1 (by decide) ?_
  refine pw_aload_n d_Law_block_2 rfl rfl ?_
  refine pw_iload_n d_Law_block_3 rfl rfl ?_
  refine pw_iload_n d_Law_block_4 rfl rfl ?_
  refine pw_catch1 (cx := 9) (R' := R') (P' := P') [.int a, .int b] (fun q => nomatch q) d_Law_block_5 lk_Law_31 hw rfl rfl (zac rfl) (Nat.le_of_ble_eq_true rfl) hf (Nat.le_of_ble_eq_true rfl) rfl (by decide) (by decide) rfl cl_Law_21 ca_21 hb (fun r h' q => (hthr r h' q).1) (fun y h1 q => ?_)
  have hF := (hthr _ _ q).2
  refine pw_astore d_Law_block_13 (by decide) (pl' := [some (.ref 0), some (.int a), some (.int b), some (.ref 104), some (.ref y)]) rfl ?_
  refine pw_iconst (x := 1) d_Law_block_15 (by decide) ?_
  refine pw_ireturn d_Law_block_16 rfl hf.2.2.1 hf.2.2.2 ?_
  exact ⟨rfl, hF⟩
set_option maxRecDepth 20000 in
set_option maxHeartbeats 2000000 in
theorem gw_corner {G : zG} {h : zH} {fs : List Value} {R' : Room} {P' : Bool} {F : Int32 → zH → Prop} {a b c : Int32} (hf : zfit M_WP_corner R' (zroom 8 1 6) 0 0) (hw : h[0]? = some (.inr (5, fs))) {fl : Nat → Int64} (ho : zOu h fl) (hb : PW G M_WP_corner R' P' (fun r h' => ∃ t : Int32, r = .inl (some (.int t)) ∧ F t h') 0 (zentry 5 [.ref 0, .int a, .int b, .int c]) [] h 0 0) (hk : ∀ t h', F t h' → zOu h' fl) : PW G M_Law_corner (zroom 8 1 6) false (fun r h2 => ∃ (t : Int32) (h1 : zH), r = .inl (some (.int 0)) ∧ F t h1 ∧ h2 = h1.set 104 (.inl (2, 1, .inr (.inl (vp_updL fl 0 t.toInt64))))) 0 (zentry 6 [.ref 0, .int a, .int b, .int c, .ref 104]) [] h 0 0 := by
  show PW G M_Law_corner (zroom 8 1 6) false _ 0 [some (.ref 0), some (.int a), some (.int b), some (.int c), some (.ref 104), none] [] h 0 0
  refine pw_aload d_Law_corner_0 rfl ?_
  refine pw_iconst (x := 0) d_Law_corner_2 (by decide) ?_
  refine pw_aload_n d_Law_corner_3 rfl rfl ?_
  refine pw_iload_n d_Law_corner_4 rfl rfl ?_
  refine pw_iload_n d_Law_corner_5 rfl rfl ?_
  refine pw_iload_n d_Law_corner_6 rfl rfl ?_
  refine pw_callV (R' := R') (P' := P') [.int a, .int b, .int c] (fun q => nomatch q) d_Law_corner_7 lk_Law_35 hw rfl rfl (zac rfl) (Nat.le_of_ble_eq_true rfl) hf (Nat.le_of_ble_eq_true rfl) hb (fun r h' q => by obtain ⟨t, e, -⟩ := q; exact ⟨_, e⟩) (fun v h1 q => ?_)
  obtain ⟨t, e, hF⟩ := q
  cases e
  have hk1 := hk t h1 hF
  refine pw_i2l d_Law_corner_10 ?_
  refine pw_lastore (h2 := h1.set 104 (.inl (2, 1, .inr (.inl (vp_updL fl 0 t.toInt64))))) rfl d_Law_corner_11 hk1 rfl zin0 rfl ?_
  refine pw_goto 19 d_Law_corner_12 (by decide) ?_
  refine pw_iconst (x := 0) d_Law_corner_19 (by decide) ?_
  refine pw_ireturn d_Law_corner_20 rfl hf.2.2.1 hf.2.2.2 ?_
  exact ⟨t, h1, rfl, hF, rfl⟩
set_option maxRecDepth 20000 in
set_option maxHeartbeats 2000000 in
theorem gt_corner1 {G : zG} {h : zH} {fs : List Value} {R' : Room} {P' : Bool} {Q' : zO → zH → Prop} {F : zH → Prop} {a b c : Int32} (hf : zfit M_WP_corner R' (zroom 8 1 6) 0 0) (hw : h[0]? = some (.inr (5, fs))) (hb : PW G M_WP_corner R' P' Q' 0 (zentry 5 [.ref 0, .int a, .int b, .int c]) [] h 0 0) (hthr : ∀ r h', Q' r h' → (∃ y, r = .inr (9, y) ∧ h'[y]? = some (.inr (9, []))) ∧ F h') : PW G M_Law_corner (zroom 8 1 6) false (fun r h2 => r = .inl (some (.int 1)) ∧ F h2) 0 (zentry 6 [.ref 0, .int a, .int b, .int c, .ref 104]) [] h 0 0 := by
  show PW G M_Law_corner (zroom 8 1 6) false _ 0 [some (.ref 0), some (.int a), some (.int b), some (.int c), some (.ref 104), none] [] h 0 0
  refine pw_aload d_Law_corner_0 rfl ?_
  refine pw_iconst (x := 0) d_Law_corner_2 (by decide) ?_
  refine pw_aload_n d_Law_corner_3 rfl rfl ?_
  refine pw_iload_n d_Law_corner_4 rfl rfl ?_
  refine pw_iload_n d_Law_corner_5 rfl rfl ?_
  refine pw_iload_n d_Law_corner_6 rfl rfl ?_
  refine pw_catch1 (cx := 9) (R' := R') (P' := P') [.int a, .int b, .int c] (fun q => nomatch q) d_Law_corner_7 lk_Law_35 hw rfl rfl (zac rfl) (Nat.le_of_ble_eq_true rfl) hf (Nat.le_of_ble_eq_true rfl) rfl (by decide) (by decide) rfl cl_Law_21 ca_21 hb (fun r h' q => (hthr r h' q).1) (fun y h1 q => ?_)
  have hF := (hthr _ _ q).2
  refine pw_astore d_Law_corner_15 (by decide) (pl' := [some (.ref 0), some (.int a), some (.int b), some (.int c), some (.ref 104), some (.ref y)]) rfl ?_
  refine pw_iconst (x := 1) d_Law_corner_17 (by decide) ?_
  refine pw_ireturn d_Law_corner_18 rfl hf.2.2.1 hf.2.2.2 ?_
  exact ⟨rfl, hF⟩
set_option maxRecDepth 20000 in
set_option maxHeartbeats 2000000 in
theorem gw_beside {G : zG} {h : zH} {fs : List Value} {R' : Room} {P' : Bool} {F : Int32 → zH → Prop} {a b : Int32} (hf : zfit M_WP_beside R' (zroom 8 1 6) 0 0) (hw : h[0]? = some (.inr (5, fs))) {fl : Nat → Int64} (ho : zOu h fl) (hb : PW G M_WP_beside R' P' (fun r h' => ∃ t : Int32, r = .inl (some (.int t)) ∧ F t h') 0 (zentry 3 [.ref 0, .int a, .int b]) [] h 0 0) (hk : ∀ t h', F t h' → zOu h' fl) : PW G M_Law_beside (zroom 8 1 6) false (fun r h2 => ∃ (t : Int32) (h1 : zH), r = .inl (some (.int 0)) ∧ F t h1 ∧ h2 = h1.set 104 (.inl (2, 1, .inr (.inl (vp_updL fl 0 t.toInt64))))) 0 (zentry 5 [.ref 0, .int a, .int b, .ref 104]) [] h 0 0 := by
  show PW G M_Law_beside (zroom 8 1 6) false _ 0 [some (.ref 0), some (.int a), some (.int b), some (.ref 104), none] [] h 0 0
  refine pw_aload_n d_Law_beside_0 rfl rfl ?_
  refine pw_iconst (x := 0) d_Law_beside_1 (by decide) ?_
  refine pw_aload_n d_Law_beside_2 rfl rfl ?_
  refine pw_iload_n d_Law_beside_3 rfl rfl ?_
  refine pw_iload_n d_Law_beside_4 rfl rfl ?_
  refine pw_callV (R' := R') (P' := P') [.int a, .int b] (fun q => nomatch q) d_Law_beside_5 lk_Law_38 hw rfl rfl (zac rfl) (Nat.le_of_ble_eq_true rfl) hf (Nat.le_of_ble_eq_true rfl) hb (fun r h' q => by obtain ⟨t, e, -⟩ := q; exact ⟨_, e⟩) (fun v h1 q => ?_)
  obtain ⟨t, e, hF⟩ := q
  cases e
  have hk1 := hk t h1 hF
  refine pw_i2l d_Law_beside_8 ?_
  refine pw_lastore (h2 := h1.set 104 (.inl (2, 1, .inr (.inl (vp_updL fl 0 t.toInt64))))) rfl d_Law_beside_9 hk1 rfl zin0 rfl ?_
  refine pw_goto 17 d_Law_beside_10 (by decide) ?_
  refine pw_iconst (x := 0) d_Law_beside_17 (by decide) ?_
  refine pw_ireturn d_Law_beside_18 rfl hf.2.2.1 hf.2.2.2 ?_
  exact ⟨t, h1, rfl, hF, rfl⟩
set_option maxRecDepth 20000 in
set_option maxHeartbeats 2000000 in
theorem gt_beside1 {G : zG} {h : zH} {fs : List Value} {R' : Room} {P' : Bool} {Q' : zO → zH → Prop} {F : zH → Prop} {a b : Int32} (hf : zfit M_WP_beside R' (zroom 8 1 6) 0 0) (hw : h[0]? = some (.inr (5, fs))) (hb : PW G M_WP_beside R' P' Q' 0 (zentry 3 [.ref 0, .int a, .int b]) [] h 0 0) (hthr : ∀ r h', Q' r h' → (∃ y, r = .inr (9, y) ∧ h'[y]? = some (.inr (9, []))) ∧ F h') : PW G M_Law_beside (zroom 8 1 6) false (fun r h2 => r = .inl (some (.int 1)) ∧ F h2) 0 (zentry 5 [.ref 0, .int a, .int b, .ref 104]) [] h 0 0 := by
  show PW G M_Law_beside (zroom 8 1 6) false _ 0 [some (.ref 0), some (.int a), some (.int b), some (.ref 104), none] [] h 0 0
  refine pw_aload_n d_Law_beside_0 rfl rfl ?_
  refine pw_iconst (x := 0) d_Law_beside_1 (by decide) ?_
  refine pw_aload_n d_Law_beside_2 rfl rfl ?_
  refine pw_iload_n d_Law_beside_3 rfl rfl ?_
  refine pw_iload_n d_Law_beside_4 rfl rfl ?_
  refine pw_catch1 (cx := 9) (R' := R') (P' := P') [.int a, .int b] (fun q => nomatch q) d_Law_beside_5 lk_Law_38 hw rfl rfl (zac rfl) (Nat.le_of_ble_eq_true rfl) hf (Nat.le_of_ble_eq_true rfl) rfl (by decide) (by decide) rfl cl_Law_21 ca_21 hb (fun r h' q => (hthr r h' q).1) (fun y h1 q => ?_)
  have hF := (hthr _ _ q).2
  refine pw_astore d_Law_beside_13 (by decide) (pl' := [some (.ref 0), some (.int a), some (.int b), some (.ref 104), some (.ref y)]) rfl ?_
  refine pw_iconst (x := 1) d_Law_beside_15 (by decide) ?_
  refine pw_ireturn d_Law_beside_16 rfl hf.2.2.1 hf.2.2.2 ?_
  exact ⟨rfl, hF⟩
set_option maxRecDepth 20000 in
set_option maxHeartbeats 2000000 in
theorem gw_goes {G : zG} {h : zH} {fs : List Value} {R' : Room} {P' : Bool} {F : Int32 → zH → Prop} {a b : Int32} (hf : zfit M_WP_goes R' (zroom 8 1 6) 0 0) (hw : h[0]? = some (.inr (5, fs))) {fl : Nat → Int64} (ho : zOu h fl) (hb : PW G M_WP_goes R' P' (fun r h' => ∃ t : Int32, r = .inl (some (.int t)) ∧ F t h') 0 (zentry 3 [.ref 0, .int a, .int b]) [] h 0 0) (hk : ∀ t h', F t h' → zOu h' fl) : PW G M_Law_goes (zroom 8 1 6) false (fun r h2 => ∃ (t : Int32) (h1 : zH), r = .inl (some (.int 0)) ∧ F t h1 ∧ h2 = h1.set 104 (.inl (2, 1, .inr (.inl (vp_updL fl 0 (if t = 0 then 0 else 1)))))) 0 (zentry 5 [.ref 0, .int a, .int b, .ref 104]) [] h 0 0 := by
  show PW G M_Law_goes (zroom 8 1 6) false _ 0 [some (.ref 0), some (.int a), some (.int b), some (.ref 104), none] [] h 0 0
  refine pw_aload_n d_Law_goes_0 rfl rfl ?_
  refine pw_iconst (x := 0) d_Law_goes_1 (by decide) ?_
  refine pw_aload_n d_Law_goes_2 rfl rfl ?_
  refine pw_iload_n d_Law_goes_3 rfl rfl ?_
  refine pw_iload_n d_Law_goes_4 rfl rfl ?_
  refine pw_callV (R' := R') (P' := P') [.int a, .int b] (fun q => nomatch q) d_Law_goes_5 lk_Law_41 hw rfl rfl (zac rfl) (Nat.le_of_ble_eq_true rfl) hf (Nat.le_of_ble_eq_true rfl) hb (fun r h' q => by obtain ⟨t, e, -⟩ := q; exact ⟨_, e⟩) (fun v h1 q => ?_)
  obtain ⟨t, e, hF⟩ := q
  cases e
  have hk1 := hk t h1 hF
  refine pw_if_eq 15 d_Law_goes_8 (by decide) (fun q => ?_) (fun q => ?_)
  · refine pw_lconst (x := 0) d_Law_goes_15 (by decide) ?_
    refine pw_lastore (h2 := h1.set 104 (.inl (2, 1, .inr (.inl (vp_updL fl 0 0))))) rfl d_Law_goes_16 hk1 rfl zin0 rfl ?_
    refine pw_goto 24 d_Law_goes_17 (by decide) ?_
    refine pw_iconst (x := 0) d_Law_goes_24 (by decide) ?_
    refine pw_ireturn d_Law_goes_25 rfl hf.2.2.1 hf.2.2.2 ?_
    exact ⟨t, h1, rfl, hF, by rw [if_pos q]⟩
  · refine pw_lconst (x := 1) d_Law_goes_11 (by decide) ?_
    refine pw_goto 16 d_Law_goes_12 (by decide) ?_
    refine pw_lastore (h2 := h1.set 104 (.inl (2, 1, .inr (.inl (vp_updL fl 0 1))))) rfl d_Law_goes_16 hk1 rfl zin0 rfl ?_
    refine pw_goto 24 d_Law_goes_17 (by decide) ?_
    refine pw_iconst (x := 0) d_Law_goes_24 (by decide) ?_
    refine pw_ireturn d_Law_goes_25 rfl hf.2.2.1 hf.2.2.2 ?_
    exact ⟨t, h1, rfl, hF, by rw [if_neg q]⟩
set_option maxRecDepth 20000 in
set_option maxHeartbeats 2000000 in
theorem gt_goes1 {G : zG} {h : zH} {fs : List Value} {R' : Room} {P' : Bool} {Q' : zO → zH → Prop} {F : zH → Prop} {a b : Int32} (hf : zfit M_WP_goes R' (zroom 8 1 6) 0 0) (hw : h[0]? = some (.inr (5, fs))) (hb : PW G M_WP_goes R' P' Q' 0 (zentry 3 [.ref 0, .int a, .int b]) [] h 0 0) (hthr : ∀ r h', Q' r h' → (∃ y, r = .inr (9, y) ∧ h'[y]? = some (.inr (9, []))) ∧ F h') : PW G M_Law_goes (zroom 8 1 6) false (fun r h2 => r = .inl (some (.int 1)) ∧ F h2) 0 (zentry 5 [.ref 0, .int a, .int b, .ref 104]) [] h 0 0 := by
  show PW G M_Law_goes (zroom 8 1 6) false _ 0 [some (.ref 0), some (.int a), some (.int b), some (.ref 104), none] [] h 0 0
  refine pw_aload_n d_Law_goes_0 rfl rfl ?_
  refine pw_iconst (x := 0) d_Law_goes_1 (by decide) ?_
  refine pw_aload_n d_Law_goes_2 rfl rfl ?_
  refine pw_iload_n d_Law_goes_3 rfl rfl ?_
  refine pw_iload_n d_Law_goes_4 rfl rfl ?_
  refine pw_catch1 (cx := 9) (R' := R') (P' := P') [.int a, .int b] (fun q => nomatch q) d_Law_goes_5 lk_Law_41 hw rfl rfl (zac rfl) (Nat.le_of_ble_eq_true rfl) hf (Nat.le_of_ble_eq_true rfl) rfl (by decide) (by decide) rfl cl_Law_21 ca_21 hb (fun r h' q => (hthr r h' q).1) (fun y h1 q => ?_)
  have hF := (hthr _ _ q).2
  refine pw_astore d_Law_goes_20 (by decide) (pl' := [some (.ref 0), some (.int a), some (.int b), some (.ref 104), some (.ref y)]) rfl ?_
  refine pw_iconst (x := 1) d_Law_goes_22 (by decide) ?_
  refine pw_ireturn d_Law_goes_23 rfl hf.2.2.1 hf.2.2.2 ?_
  exact ⟨rfl, hF⟩
set_option maxRecDepth 20000 in
set_option maxHeartbeats 2000000 in
theorem gw_take {G : zG} {h : zH} {fs : List Value} {R' : Room} {P' : Bool} {F : Int32 → zH → Prop} {a : Int32} (hf : zfit M_WP_take R' (zroom 8 1 6) 0 0) (hw : h[0]? = some (.inr (5, fs))) {fl : Nat → Int64} (ho : zOu h fl) (hb : PW G M_WP_take R' P' (fun r h' => ∃ t : Int32, r = .inl (some (.int t)) ∧ F t h') 0 (zentry 3 [.ref 0, .int a]) [] h 0 0) (hk : ∀ t h', F t h' → zOu h' fl) : PW G M_Law_take (zroom 8 1 6) false (fun r h2 => ∃ (t : Int32) (h1 : zH), r = .inl (some (.int 0)) ∧ F t h1 ∧ h2 = h1.set 104 (.inl (2, 1, .inr (.inl (vp_updL fl 0 t.toInt64))))) 0 (zentry 4 [.ref 0, .int a, .ref 104]) [] h 0 0 := by
  show PW G M_Law_take (zroom 8 1 6) false _ 0 [some (.ref 0), some (.int a), some (.ref 104), none] [] h 0 0
  refine pw_aload_n d_Law_take_0 rfl rfl ?_
  refine pw_iconst (x := 0) d_Law_take_1 (by decide) ?_
  refine pw_aload_n d_Law_take_2 rfl rfl ?_
  refine pw_iload_n d_Law_take_3 rfl rfl ?_
  refine pw_callV (R' := R') (P' := P') [.int a] (fun q => nomatch q) d_Law_take_4 lk_Law_45 hw rfl rfl (zac rfl) (Nat.le_of_ble_eq_true rfl) hf (Nat.le_of_ble_eq_true rfl) hb (fun r h' q => by obtain ⟨t, e, -⟩ := q; exact ⟨_, e⟩) (fun v h1 q => ?_)
  obtain ⟨t, e, hF⟩ := q
  cases e
  have hk1 := hk t h1 hF
  refine pw_i2l d_Law_take_7 ?_
  refine pw_lastore (h2 := h1.set 104 (.inl (2, 1, .inr (.inl (vp_updL fl 0 t.toInt64))))) rfl d_Law_take_8 hk1 rfl zin0 rfl ?_
  refine pw_goto 15 d_Law_take_9 (by decide) ?_
  refine pw_iconst (x := 0) d_Law_take_15 (by decide) ?_
  refine pw_ireturn d_Law_take_16 rfl hf.2.2.1 hf.2.2.2 ?_
  exact ⟨t, h1, rfl, hF, rfl⟩
set_option maxRecDepth 20000 in
set_option maxHeartbeats 2000000 in
theorem gt_take1 {G : zG} {h : zH} {fs : List Value} {R' : Room} {P' : Bool} {Q' : zO → zH → Prop} {F : zH → Prop} {a : Int32} (hf : zfit M_WP_take R' (zroom 8 1 6) 0 0) (hw : h[0]? = some (.inr (5, fs))) (hb : PW G M_WP_take R' P' Q' 0 (zentry 3 [.ref 0, .int a]) [] h 0 0) (hthr : ∀ r h', Q' r h' → (∃ y, r = .inr (9, y) ∧ h'[y]? = some (.inr (9, []))) ∧ F h') : PW G M_Law_take (zroom 8 1 6) false (fun r h2 => r = .inl (some (.int 1)) ∧ F h2) 0 (zentry 4 [.ref 0, .int a, .ref 104]) [] h 0 0 := by
  show PW G M_Law_take (zroom 8 1 6) false _ 0 [some (.ref 0), some (.int a), some (.ref 104), none] [] h 0 0
  refine pw_aload_n d_Law_take_0 rfl rfl ?_
  refine pw_iconst (x := 0) d_Law_take_1 (by decide) ?_
  refine pw_aload_n d_Law_take_2 rfl rfl ?_
  refine pw_iload_n d_Law_take_3 rfl rfl ?_
  refine pw_catch1 (cx := 9) (R' := R') (P' := P') [.int a] (fun q => nomatch q) d_Law_take_4 lk_Law_45 hw rfl rfl (zac rfl) (Nat.le_of_ble_eq_true rfl) hf (Nat.le_of_ble_eq_true rfl) rfl (by decide) (by decide) rfl cl_Law_21 ca_21 hb (fun r h' q => (hthr r h' q).1) (fun y h1 q => ?_)
  have hF := (hthr _ _ q).2
  refine pw_astore_n d_Law_take_12 rfl (by decide) (pl' := [some (.ref 0), some (.int a), some (.ref 104), some (.ref y)]) rfl ?_
  refine pw_iconst (x := 1) d_Law_take_13 (by decide) ?_
  refine pw_ireturn d_Law_take_14 rfl hf.2.2.1 hf.2.2.2 ?_
  exact ⟨rfl, hF⟩
set_option maxRecDepth 20000 in
set_option maxHeartbeats 2000000 in
theorem gw_taken {G : zG} {h : zH} {fs : List Value} {R' : Room} {P' : Bool} {F : Int32 → zH → Prop} {a b : Int32} (hf : zfit M_WP_taken R' (zroom 8 1 6) 0 0) (hw : h[0]? = some (.inr (5, fs))) {fl : Nat → Int64} (ho : zOu h fl) (hb : PW G M_WP_taken R' P' (fun r h' => ∃ t : Int32, r = .inl (some (.int t)) ∧ F t h') 0 (zentry 3 [.ref 0, .int a, .int b]) [] h 0 0) (hk : ∀ t h', F t h' → zOu h' fl) : PW G M_Law_taken (zroom 8 1 6) false (fun r h2 => ∃ (t : Int32) (h1 : zH), r = .inl (some (.int 0)) ∧ F t h1 ∧ h2 = h1.set 104 (.inl (2, 1, .inr (.inl (vp_updL fl 0 t.toInt64))))) 0 (zentry 5 [.ref 0, .int a, .int b, .ref 104]) [] h 0 0 := by
  show PW G M_Law_taken (zroom 8 1 6) false _ 0 [some (.ref 0), some (.int a), some (.int b), some (.ref 104), none] [] h 0 0
  refine pw_aload_n d_Law_taken_0 rfl rfl ?_
  refine pw_iconst (x := 0) d_Law_taken_1 (by decide) ?_
  refine pw_aload_n d_Law_taken_2 rfl rfl ?_
  refine pw_iload_n d_Law_taken_3 rfl rfl ?_
  refine pw_iload_n d_Law_taken_4 rfl rfl ?_
  refine pw_callV (R' := R') (P' := P') [.int a, .int b] (fun q => nomatch q) d_Law_taken_5 lk_Law_49 hw rfl rfl (zac rfl) (Nat.le_of_ble_eq_true rfl) hf (Nat.le_of_ble_eq_true rfl) hb (fun r h' q => by obtain ⟨t, e, -⟩ := q; exact ⟨_, e⟩) (fun v h1 q => ?_)
  obtain ⟨t, e, hF⟩ := q
  cases e
  have hk1 := hk t h1 hF
  refine pw_i2l d_Law_taken_8 ?_
  refine pw_lastore (h2 := h1.set 104 (.inl (2, 1, .inr (.inl (vp_updL fl 0 t.toInt64))))) rfl d_Law_taken_9 hk1 rfl zin0 rfl ?_
  refine pw_goto 17 d_Law_taken_10 (by decide) ?_
  refine pw_iconst (x := 0) d_Law_taken_17 (by decide) ?_
  refine pw_ireturn d_Law_taken_18 rfl hf.2.2.1 hf.2.2.2 ?_
  exact ⟨t, h1, rfl, hF, rfl⟩
set_option maxRecDepth 20000 in
set_option maxHeartbeats 2000000 in
theorem gt_taken1 {G : zG} {h : zH} {fs : List Value} {R' : Room} {P' : Bool} {Q' : zO → zH → Prop} {F : zH → Prop} {a b : Int32} (hf : zfit M_WP_taken R' (zroom 8 1 6) 0 0) (hw : h[0]? = some (.inr (5, fs))) (hb : PW G M_WP_taken R' P' Q' 0 (zentry 3 [.ref 0, .int a, .int b]) [] h 0 0) (hthr : ∀ r h', Q' r h' → (∃ y, r = .inr (9, y) ∧ h'[y]? = some (.inr (9, []))) ∧ F h') : PW G M_Law_taken (zroom 8 1 6) false (fun r h2 => r = .inl (some (.int 1)) ∧ F h2) 0 (zentry 5 [.ref 0, .int a, .int b, .ref 104]) [] h 0 0 := by
  show PW G M_Law_taken (zroom 8 1 6) false _ 0 [some (.ref 0), some (.int a), some (.int b), some (.ref 104), none] [] h 0 0
  refine pw_aload_n d_Law_taken_0 rfl rfl ?_
  refine pw_iconst (x := 0) d_Law_taken_1 (by decide) ?_
  refine pw_aload_n d_Law_taken_2 rfl rfl ?_
  refine pw_iload_n d_Law_taken_3 rfl rfl ?_
  refine pw_iload_n d_Law_taken_4 rfl rfl ?_
  refine pw_catch1 (cx := 9) (R' := R') (P' := P') [.int a, .int b] (fun q => nomatch q) d_Law_taken_5 lk_Law_49 hw rfl rfl (zac rfl) (Nat.le_of_ble_eq_true rfl) hf (Nat.le_of_ble_eq_true rfl) rfl (by decide) (by decide) rfl cl_Law_21 ca_21 hb (fun r h' q => (hthr r h' q).1) (fun y h1 q => ?_)
  have hF := (hthr _ _ q).2
  refine pw_astore d_Law_taken_13 (by decide) (pl' := [some (.ref 0), some (.int a), some (.int b), some (.ref 104), some (.ref y)]) rfl ?_
  refine pw_iconst (x := 1) d_Law_taken_15 (by decide) ?_
  refine pw_ireturn d_Law_taken_16 rfl hf.2.2.1 hf.2.2.2 ?_
  exact ⟨rfl, hF⟩
set_option maxRecDepth 20000 in
set_option maxHeartbeats 2000000 in
theorem gw_mode {G : zG} {h : zH} {fs : List Value} {R' : Room} {P' : Bool} {F : Int32 → zH → Prop} {a : Int32} (hf : zfit M_WP_mode R' (zroom 8 1 6) 0 0) (hw : h[0]? = some (.inr (5, fs))) {fl : Nat → Int64} (ho : zOu h fl) (hb : PW G M_WP_mode R' P' (fun r h' => ∃ t : Int32, r = .inl (some (.int t)) ∧ F t h') 0 (zentry 2 [.ref 0, .int a]) [] h 0 0) (hk : ∀ t h', F t h' → zOu h' fl) : PW G M_Law_mode (zroom 8 1 6) false (fun r h2 => ∃ (t : Int32) (h1 : zH), r = .inl (some (.int 0)) ∧ F t h1 ∧ h2 = h1.set 104 (.inl (2, 1, .inr (.inl (vp_updL fl 0 t.toInt64))))) 0 (zentry 4 [.ref 0, .int a, .ref 104]) [] h 0 0 := by
  show PW G M_Law_mode (zroom 8 1 6) false _ 0 [some (.ref 0), some (.int a), some (.ref 104), none] [] h 0 0
  refine pw_aload_n d_Law_mode_0 rfl rfl ?_
  refine pw_iconst (x := 0) d_Law_mode_1 (by decide) ?_
  refine pw_aload_n d_Law_mode_2 rfl rfl ?_
  refine pw_iload_n d_Law_mode_3 rfl rfl ?_
  refine pw_callV (R' := R') (P' := P') [.int a] (fun q => nomatch q) d_Law_mode_4 lk_Law_52 hw rfl rfl (zac rfl) (Nat.le_of_ble_eq_true rfl) hf (Nat.le_of_ble_eq_true rfl) hb (fun r h' q => by obtain ⟨t, e, -⟩ := q; exact ⟨_, e⟩) (fun v h1 q => ?_)
  obtain ⟨t, e, hF⟩ := q
  cases e
  have hk1 := hk t h1 hF
  refine pw_i2l d_Law_mode_7 ?_
  refine pw_lastore (h2 := h1.set 104 (.inl (2, 1, .inr (.inl (vp_updL fl 0 t.toInt64))))) rfl d_Law_mode_8 hk1 rfl zin0 rfl ?_
  refine pw_goto 15 d_Law_mode_9 (by decide) ?_
  refine pw_iconst (x := 0) d_Law_mode_15 (by decide) ?_
  refine pw_ireturn d_Law_mode_16 rfl hf.2.2.1 hf.2.2.2 ?_
  exact ⟨t, h1, rfl, hF, rfl⟩
set_option maxRecDepth 20000 in
set_option maxHeartbeats 2000000 in
theorem gt_mode1 {G : zG} {h : zH} {fs : List Value} {R' : Room} {P' : Bool} {Q' : zO → zH → Prop} {F : zH → Prop} {a : Int32} (hf : zfit M_WP_mode R' (zroom 8 1 6) 0 0) (hw : h[0]? = some (.inr (5, fs))) (hb : PW G M_WP_mode R' P' Q' 0 (zentry 2 [.ref 0, .int a]) [] h 0 0) (hthr : ∀ r h', Q' r h' → (∃ y, r = .inr (9, y) ∧ h'[y]? = some (.inr (9, []))) ∧ F h') : PW G M_Law_mode (zroom 8 1 6) false (fun r h2 => r = .inl (some (.int 1)) ∧ F h2) 0 (zentry 4 [.ref 0, .int a, .ref 104]) [] h 0 0 := by
  show PW G M_Law_mode (zroom 8 1 6) false _ 0 [some (.ref 0), some (.int a), some (.ref 104), none] [] h 0 0
  refine pw_aload_n d_Law_mode_0 rfl rfl ?_
  refine pw_iconst (x := 0) d_Law_mode_1 (by decide) ?_
  refine pw_aload_n d_Law_mode_2 rfl rfl ?_
  refine pw_iload_n d_Law_mode_3 rfl rfl ?_
  refine pw_catch1 (cx := 9) (R' := R') (P' := P') [.int a] (fun q => nomatch q) d_Law_mode_4 lk_Law_52 hw rfl rfl (zac rfl) (Nat.le_of_ble_eq_true rfl) hf (Nat.le_of_ble_eq_true rfl) rfl (by decide) (by decide) rfl cl_Law_21 ca_21 hb (fun r h' q => (hthr r h' q).1) (fun y h1 q => ?_)
  have hF := (hthr _ _ q).2
  refine pw_astore_n d_Law_mode_12 rfl (by decide) (pl' := [some (.ref 0), some (.int a), some (.ref 104), some (.ref y)]) rfl ?_
  refine pw_iconst (x := 1) d_Law_mode_13 (by decide) ?_
  refine pw_ireturn d_Law_mode_14 rfl hf.2.2.1 hf.2.2.2 ?_
  exact ⟨rfl, hF⟩
set_option maxRecDepth 20000 in
set_option maxHeartbeats 2000000 in
theorem gw_told {G : zG} {h : zH} {fs : List Value} {R' : Room} {P' : Bool} {F : Int32 → zH → Prop} {a : Int32} (hf : zfit M_WP_told R' (zroom 8 1 6) 0 0) (hw : h[0]? = some (.inr (5, fs))) {fl : Nat → Int64} (ho : zOu h fl) (hb : PW G M_WP_told R' P' (fun r h' => ∃ t : Int32, r = .inl (some (.int t)) ∧ F t h') 0 (zentry 2 [.ref 0, .int a]) [] h 0 0) (hk : ∀ t h', F t h' → zOu h' fl) : PW G M_Law_told (zroom 8 1 6) false (fun r h2 => ∃ (t : Int32) (h1 : zH), r = .inl (some (.int 0)) ∧ F t h1 ∧ h2 = h1.set 104 (.inl (2, 1, .inr (.inl (vp_updL fl 0 t.toInt64))))) 0 (zentry 4 [.ref 0, .int a, .ref 104]) [] h 0 0 := by
  show PW G M_Law_told (zroom 8 1 6) false _ 0 [some (.ref 0), some (.int a), some (.ref 104), none] [] h 0 0
  refine pw_aload_n d_Law_told_0 rfl rfl ?_
  refine pw_iconst (x := 0) d_Law_told_1 (by decide) ?_
  refine pw_aload_n d_Law_told_2 rfl rfl ?_
  refine pw_iload_n d_Law_told_3 rfl rfl ?_
  refine pw_callV (R' := R') (P' := P') [.int a] (fun q => nomatch q) d_Law_told_4 lk_Law_55 hw rfl rfl (zac rfl) (Nat.le_of_ble_eq_true rfl) hf (Nat.le_of_ble_eq_true rfl) hb (fun r h' q => by obtain ⟨t, e, -⟩ := q; exact ⟨_, e⟩) (fun v h1 q => ?_)
  obtain ⟨t, e, hF⟩ := q
  cases e
  have hk1 := hk t h1 hF
  refine pw_i2l d_Law_told_7 ?_
  refine pw_lastore (h2 := h1.set 104 (.inl (2, 1, .inr (.inl (vp_updL fl 0 t.toInt64))))) rfl d_Law_told_8 hk1 rfl zin0 rfl ?_
  refine pw_goto 15 d_Law_told_9 (by decide) ?_
  refine pw_iconst (x := 0) d_Law_told_15 (by decide) ?_
  refine pw_ireturn d_Law_told_16 rfl hf.2.2.1 hf.2.2.2 ?_
  exact ⟨t, h1, rfl, hF, rfl⟩
set_option maxRecDepth 20000 in
set_option maxHeartbeats 2000000 in
theorem gt_told1 {G : zG} {h : zH} {fs : List Value} {R' : Room} {P' : Bool} {Q' : zO → zH → Prop} {F : zH → Prop} {a : Int32} (hf : zfit M_WP_told R' (zroom 8 1 6) 0 0) (hw : h[0]? = some (.inr (5, fs))) (hb : PW G M_WP_told R' P' Q' 0 (zentry 2 [.ref 0, .int a]) [] h 0 0) (hthr : ∀ r h', Q' r h' → (∃ y, r = .inr (9, y) ∧ h'[y]? = some (.inr (9, []))) ∧ F h') : PW G M_Law_told (zroom 8 1 6) false (fun r h2 => r = .inl (some (.int 1)) ∧ F h2) 0 (zentry 4 [.ref 0, .int a, .ref 104]) [] h 0 0 := by
  show PW G M_Law_told (zroom 8 1 6) false _ 0 [some (.ref 0), some (.int a), some (.ref 104), none] [] h 0 0
  refine pw_aload_n d_Law_told_0 rfl rfl ?_
  refine pw_iconst (x := 0) d_Law_told_1 (by decide) ?_
  refine pw_aload_n d_Law_told_2 rfl rfl ?_
  refine pw_iload_n d_Law_told_3 rfl rfl ?_
  refine pw_catch1 (cx := 9) (R' := R') (P' := P') [.int a] (fun q => nomatch q) d_Law_told_4 lk_Law_55 hw rfl rfl (zac rfl) (Nat.le_of_ble_eq_true rfl) hf (Nat.le_of_ble_eq_true rfl) rfl (by decide) (by decide) rfl cl_Law_21 ca_21 hb (fun r h' q => (hthr r h' q).1) (fun y h1 q => ?_)
  have hF := (hthr _ _ q).2
  refine pw_astore_n d_Law_told_12 rfl (by decide) (pl' := [some (.ref 0), some (.int a), some (.ref 104), some (.ref y)]) rfl ?_
  refine pw_iconst (x := 1) d_Law_told_13 (by decide) ?_
  refine pw_ireturn d_Law_told_14 rfl hf.2.2.1 hf.2.2.2 ?_
  exact ⟨rfl, hF⟩
