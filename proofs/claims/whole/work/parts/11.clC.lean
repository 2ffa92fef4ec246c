/-- the points with a joint more -/
noncomputable def zJS (kn sx sy sz : Int32) (A B C D : Nat → Int32) (jc : Nat) (S : zPS) (a b c d : Int32) : zPS := zout (kn ||| (1 <<< (nI jc &&& 31))) sx sy sz (upd A jc a) (upd B jc b) (upd C jc c) (upd D jc d) kn jc 12 0 (ztl (upd A jc a) (upd B jc b) (upd C jc c) (upd D jc d) jc S S.1)
/-- the blocks then -/
noncomputable def zJB (kn sx sy sz : Int32) (A B C D : Nat → Int32) (jc : Nat) (S : zPS) (a b c d : Int32) (B0 : zBS) : zBS := zbl (kn ||| (1 <<< (nI jc &&& 31))) (zJS kn sx sy sz A B C D jc S a b c d).2.2.2.2.2.1 (zJS kn sx sy sz A B C D jc S a b c d).2.2.2.2.2.2 (zJS kn sx sy sz A B C D jc S a b c d).1 (2 ^ (jc + 1)) B0 64
theorem cJ {h h1 : zH} {tc dc : Nat} {op : Int32} {tk tb ty : Nat → Int32} {dx dy dz : Nat → Int32} {p1 p2 p3 : Int32} {w : Nat → Prop} (hz : zsw w h h1) (hw9 : ∀ j, w j → 34 ≤ j ∧ j < 76) (hw : zWp h tc dc op tk tb ty) (ho : (∃ (F : Int32) (ix iy iz ux uy uz : Nat → Int32) (l1 l2 l3 : Int32), zHo h F ix iy iz ux uy uz l1 l2 l3)) (hdr : zDr h dx dy dz p1 p2 p3) : zWp h1 tc dc op tk tb ty ∧ (∃ (F : Int32) (ix iy iz ux uy uz : Nat → Int32) (l1 l2 l3 : Int32), zHo h1 F ix iy iz ux uy uz l1 l2 l3) ∧ zDr h1 dx dy dz p1 p2 p3 := by
  have k : ∀ {j : Nat} {c : zE}, (j < 34 ∨ 76 ≤ j) → h[j]? = some c → h1[j]? = some c := fun {j} {c} hj hc => by rw [hz.2 j (fun q => by have := hw9 j q; omega)]; exact hc
  refine ⟨⟨k (by omega) hw.1, k (by omega) hw.2.1, k (by omega) hw.2.2.1, k (by omega) hw.2.2.2⟩, ?_, ⟨k (by omega) hdr.1, fun j hj => k (by omega) (hdr.2.1 j hj), k (by omega) hdr.2.2⟩⟩
  obtain ⟨F, ix, iy, iz, ux, uy, uz, l1, l2, l3, ho⟩ := ho
  exact ⟨F, ix, iy, iz, ux, uy, uz, l1, l2, l3, k (by omega) ho.1, k (by omega) ho.2.1, k (by omega) ho.2.2.1, k (by omega) ho.2.2.2.1, fun j hj => k (by omega) (ho.2.2.2.2.1 j hj), fun j hj => k (by omega) (ho.2.2.2.2.2 j hj)⟩
theorem zsm_sw {S : List Nat} {h h' : zH} (hz : zsm S h h') : zsw (fun j => j ∈ S) h h' := ⟨hz.1, fun j hj => hz.2 j hj⟩
set_option maxRecDepth 20000 in
set_option maxHeartbeats 2000000 in
theorem r_joint {G : zG} {h : zH} {tc dc : Nat} {op : Int32} {tk tb ty : Nat → Int32} {jc bc : Nat} {sx sy sz kn : Int32} {sd fc cc nu pb so : Nat → Int32} {A B C D : Nat → Int32} {S : zPS} {dx dy dz : Nat → Int32} {p1 p2 p3 : Int32} (hC : cAll h tc dc op tk tb ty jc bc sx sy sz kn sd fc cc nu pb so A B C D S dx dy dz p1 p2 p3) {a b c d : Int32} (hjt : ((-6 ≤ a ∧ a ≤ 6) ∧ (-6 ≤ b ∧ b ≤ 6) ∧ (-6 ≤ c ∧ c ≤ 6) ∧ (-100 ≤ d ∧ d ≤ 100) ∧ ((if a * sx < 0 then a * sx else 0) + (if b * sy < 0 then b * sy else 0) + (if c * sz < 0 then c * sz else 0) < d ∧ d < (if 0 < a * sx then a * sx else 0) + (if 0 < b * sy then b * sy else 0) + (if 0 < c * sz then c * sz else 0)))) (hnx : ¬ ∃ p, p < jc ∧ A p * b = B p * a ∧ A p * c = C p * a ∧ B p * c = C p * b ∧ A p * d = D p * a ∧ B p * d = D p * b ∧ C p * d = D p * c) (hjc : jc < 6) (hbd : S.1 + zco kn 12 0 ≤ 220) (hfin : (zJS kn sx sy sz A B C D jc S a b c d).1 ≤ 220) : PW G M_WP_joint (zroom 6 0 0) false (fun r h' => ∃ t : Int32, r = .inl (some (.int t)) ∧ zsm zKP h h' ∧ t = nI jc ∧ cAll h' 0 dc op (zcl 64 tk) tb ty (jc + 1) ((zJB kn sx sy sz A B C D jc S a b c d (0, sd, fc, cc, nu)).1) sx sy sz ((kn ||| (1 <<< (nI jc &&& 31)))) ((zJB kn sx sy sz A B C D jc S a b c d (0, sd, fc, cc, nu)).2.1) ((zJB kn sx sy sz A B C D jc S a b c d (0, sd, fc, cc, nu)).2.2.1) ((zJB kn sx sy sz A B C D jc S a b c d (0, sd, fc, cc, nu)).2.2.2.1) ((zJB kn sx sy sz A B C D jc S a b c d (0, sd, fc, cc, nu)).2.2.2.2) (upd pb jc (nI S.1)) so ((upd A jc a)) ((upd B jc b)) ((upd C jc c)) ((upd D jc d)) ((zJS kn sx sy sz A B C D jc S a b c d)) dx dy dz p1 p2 p3) 0 (zentry 5 [.ref 0, .int (a), .int (b), .int (c), .int (d)]) [] h 0 0 := by
  show PW G M_WP_joint (zroom 6 0 0) false _ 0 [some (.ref 0), some (.int (a)), some (.int (b)), some (.int (c)), some (.int (d))] [] h 0 0
  obtain ⟨hw, hr, hpl, hp, hcr, ho, hdr⟩ := hC
  refine pw_aload_n d_WP_joint_0 rfl rfl ?_
  refine pw_iload_n d_WP_joint_1 rfl rfl ?_
  refine pw_iload_n d_WP_joint_2 rfl rfl ?_
  refine pw_iload_n d_WP_joint_3 rfl rfl ?_
  refine pw_iload d_WP_joint_4 rfl ?_
  refine pw_callV1 (R' := (zroom 2 0 0)) (h2 := h) [.int (a), .int (b), .int (c), .int (d)] (fun q => nomatch q) d_WP_joint_6 lk_WP_64 hw.1 rfl rfl rfl (c_isJoint hw hr) ?_
  refine pw_if_eq 27 d_WP_joint_9 (by decide) (fun q => absurd q (fun z => z0 z hjt)) (fun _ => ?_)
  refine pw_aload_n d_WP_joint_12 rfl rfl ?_
  refine pw_get d_WP_joint_13 fl_WP_57 hw.1 rfl ?_
  refine pw_iload_n d_WP_joint_16 rfl rfl ?_
  refine pw_iload_n d_WP_joint_17 rfl rfl ?_
  refine pw_iload_n d_WP_joint_18 rfl rfl ?_
  refine pw_iload d_WP_joint_19 rfl ?_
  refine pw_callVt (R' := (zroom 1 0 0)) [.int (a), .int (b), .int (c), .int (d)] (fun q => nomatch q) d_WP_joint_21 lk_WP_68 hr.1 rfl rfl rfl (c_hasJoint hr (by omega) hpl) (fun t ht => ?_)
  refine pw_if_eq 37 d_WP_joint_24 (by decide) (fun q_h => ?_) (fun q_h => ?_)
  · refine pw_aload_n d_WP_joint_37 rfl rfl ?_
    refine pw_get d_WP_joint_38 fl_WP_57 hw.1 rfl ?_
    refine pw_get d_WP_joint_41 fl_WP_78 hr.1 rfl ?_
    refine pw_bipush (x := 6) d_WP_joint_44 (by decide) ?_
    refine pw_icmp_lt 59 d_WP_joint_46 (by decide) (fun _ => ?_) (fun q => absurd (nI_lt (b := 6) hjc (by decide)) q)
    refine pw_aload_n d_WP_joint_59 rfl rfl ?_
    refine pw_callVu (R' := (zroom 0 0 0)) [] (fun q => nomatch q) d_WP_joint_60 lk_WP_86 hw.1 rfl rfl rfl (c_putAllBack hw) (fun h1 hh => ?_)
    obtain ⟨hr1, hpl1, hp1, hcr1, ho1, hdr1⟩ := cWS hh.2 hr hpl hp hcr ho hdr
    refine pw_aload_n d_WP_joint_63 rfl rfl ?_
    refine pw_get d_WP_joint_64 fl_WP_57 hh.1.1 rfl ?_
    refine pw_iload_n d_WP_joint_67 rfl rfl ?_
    refine pw_iload_n d_WP_joint_68 rfl rfl ?_
    refine pw_iload_n d_WP_joint_69 rfl rfl ?_
    refine pw_iload d_WP_joint_70 rfl ?_
    refine pw_callVu (R' := (zroom 5 0 0)) [.int (a), .int (b), .int (c), .int (d)] (fun q => nomatch q) d_WP_joint_72 lk_WP_89 hr1.1 rfl rfl rfl (c_addJoint hp1 hr1 hjc hpl1 hcr1 hbd hfin) (fun h2 hg => ?_)
    obtain ⟨hg1, hg2, hg3, hg4, hg5⟩ := hg
    obtain ⟨hw2, ho2, hdr2⟩ := cJ hg5 (fun j q => by omega) hh.1 ho1 hdr1
    refine pw_aload_n d_WP_joint_75 rfl rfl ?_
    refine pw_get d_WP_joint_76 fl_WP_57 hw2.1 rfl ?_
    refine pw_get d_WP_joint_79 fl_WP_78 hg2.1 rfl ?_
    refine pw_iconst (x := 1) d_WP_joint_82 (by decide) ?_
    refine pw_isub d_WP_joint_83 ?_
    refine pw_ireturn d_WP_joint_84 rfl (by decide) (by decide) ?_
    exact ⟨_, rfl, zsm_tr (zsm_kp hh.2 (by decide)) (zsw_kp hg5 (fun j q => by omega)) (fun _ q => q), nI_pred jc, hw2, hg2, hg3, hg1, hg4, ho2, hdr2⟩
  · rcases ht with ⟨-, h1⟩ | ⟨e, -⟩
    · exact absurd h1 hnx
    · exact absurd e q_h
set_option maxRecDepth 20000 in
set_option maxHeartbeats 2000000 in
theorem t_jointA {G : zG} {h : zH} {tc dc : Nat} {op : Int32} {tk tb ty : Nat → Int32} {jc bc : Nat} {sx sy sz kn : Int32} {sd fc cc nu pb so : Nat → Int32} {A B C D : Nat → Int32} {S : zPS} {dx dy dz : Nat → Int32} {p1 p2 p3 : Int32} (hC : cAll h tc dc op tk tb ty jc bc sx sy sz kn sd fc cc nu pb so A B C D S dx dy dz p1 p2 p3) {a b c d : Int32} (hjc : jc ≤ 6) (hno : ¬ (((-6 ≤ a ∧ a ≤ 6) ∧ (-6 ≤ b ∧ b ≤ 6) ∧ (-6 ≤ c ∧ c ≤ 6) ∧ (-100 ≤ d ∧ d ≤ 100) ∧ ((if a * sx < 0 then a * sx else 0) + (if b * sy < 0 then b * sy else 0) + (if c * sz < 0 then c * sz else 0) < d ∧ d < (if 0 < a * sx then a * sx else 0) + (if 0 < b * sy then b * sy else 0) + (if 0 < c * sz then c * sz else 0))) ∧ ¬ ∃ p, p < jc ∧ A p * b = B p * a ∧ A p * c = C p * a ∧ B p * c = C p * b ∧ A p * d = D p * a ∧ B p * d = D p * b ∧ C p * d = D p * c)) : PW G M_WP_joint (zroom 6 1 6) true (fun r h' => r = .inr (7, h.length) ∧ h' = h ++ [.inr (7, [])]) 0 (zentry 5 [.ref 0, .int (a), .int (b), .int (c), .int (d)]) [] h 0 0 := by
  show PW G M_WP_joint (zroom 6 1 6) true _ 0 [some (.ref 0), some (.int (a)), some (.int (b)), some (.int (c)), some (.int (d))] [] h 0 0
  obtain ⟨hw, hr, hpl, hp, hcr, ho, hdr⟩ := hC
  refine pw_aload_n d_WP_joint_0 rfl rfl ?_
  refine pw_iload_n d_WP_joint_1 rfl rfl ?_
  refine pw_iload_n d_WP_joint_2 rfl rfl ?_
  refine pw_iload_n d_WP_joint_3 rfl rfl ?_
  refine pw_iload d_WP_joint_4 rfl ?_
  refine pw_callV1 (R' := (zroom 2 0 0)) (h2 := h) [.int (a), .int (b), .int (c), .int (d)] (fun _ => rfl) d_WP_joint_6 lk_WP_64 hw.1 rfl rfl rfl (c_isJoint hw hr) ?_
  refine pw_if_eq 27 d_WP_joint_9 (by decide) (fun q_j => ?_) (fun q_j => ?_)
  · exact pw_throw (tx := "no plane that cuts the box, or a joint already") (names := xn) rfl d_WP_joint_27 d_WP_joint_30 d_WP_joint_31 d_WP_joint_33 d_WP_joint_36 xc_IAE xl_IAE rfl (by decide +kernel) xa_IAE rfl (by decide) (by decide) (by decide) (by decide) ⟨rfl, rfl⟩
  · refine pw_aload_n d_WP_joint_12 rfl rfl ?_
    refine pw_get d_WP_joint_13 fl_WP_57 hw.1 rfl ?_
    refine pw_iload_n d_WP_joint_16 rfl rfl ?_
    refine pw_iload_n d_WP_joint_17 rfl rfl ?_
    refine pw_iload_n d_WP_joint_18 rfl rfl ?_
    refine pw_iload d_WP_joint_19 rfl ?_
    refine pw_callVt (R' := (zroom 1 0 0)) [.int (a), .int (b), .int (c), .int (d)] (fun _ => rfl) d_WP_joint_21 lk_WP_68 hr.1 rfl rfl rfl (c_hasJoint hr (by omega) hpl) (fun t ht => ?_)
    refine pw_if_eq 37 d_WP_joint_24 (by decide) (fun q_h => ?_) (fun q_h => ?_)
    · refine absurd ⟨z1 q_j, ?_⟩ hno
      rcases ht with ⟨e, -⟩ | ⟨-, h1⟩
      · exact absurd (e.symm.trans q_h) (by decide)
      · exact h1
    · exact pw_throw (tx := "no plane that cuts the box, or a joint already") (names := xn) rfl d_WP_joint_27 d_WP_joint_30 d_WP_joint_31 d_WP_joint_33 d_WP_joint_36 xc_IAE xl_IAE rfl (by decide +kernel) xa_IAE rfl (by decide) (by decide) (by decide) (by decide) ⟨rfl, rfl⟩
set_option maxRecDepth 20000 in
set_option maxHeartbeats 2000000 in
theorem t_jointS {G : zG} {h : zH} {tc dc : Nat} {op : Int32} {tk tb ty : Nat → Int32} {jc bc : Nat} {sx sy sz kn : Int32} {sd fc cc nu pb so : Nat → Int32} {A B C D : Nat → Int32} {S : zPS} {dx dy dz : Nat → Int32} {p1 p2 p3 : Int32} (hC : cAll h tc dc op tk tb ty jc bc sx sy sz kn sd fc cc nu pb so A B C D S dx dy dz p1 p2 p3) {a b c d : Int32} (hjt : ((-6 ≤ a ∧ a ≤ 6) ∧ (-6 ≤ b ∧ b ≤ 6) ∧ (-6 ≤ c ∧ c ≤ 6) ∧ (-100 ≤ d ∧ d ≤ 100) ∧ ((if a * sx < 0 then a * sx else 0) + (if b * sy < 0 then b * sy else 0) + (if c * sz < 0 then c * sz else 0) < d ∧ d < (if 0 < a * sx then a * sx else 0) + (if 0 < b * sy then b * sy else 0) + (if 0 < c * sz then c * sz else 0)))) (hnx : ¬ ∃ p, p < jc ∧ A p * b = B p * a ∧ A p * c = C p * a ∧ B p * c = C p * b ∧ A p * d = D p * a ∧ B p * d = D p * b ∧ C p * d = D p * c) (hjc : jc = 6) : PW G M_WP_joint (zroom 6 1 6) true (fun r h' => r = .inr (8, h.length) ∧ h' = h ++ [.inr (8, [])]) 0 (zentry 5 [.ref 0, .int (a), .int (b), .int (c), .int (d)]) [] h 0 0 := by
  show PW G M_WP_joint (zroom 6 1 6) true _ 0 [some (.ref 0), some (.int (a)), some (.int (b)), some (.int (c)), some (.int (d))] [] h 0 0
  obtain ⟨hw, hr, hpl, hp, hcr, ho, hdr⟩ := hC
  refine pw_aload_n d_WP_joint_0 rfl rfl ?_
  refine pw_iload_n d_WP_joint_1 rfl rfl ?_
  refine pw_iload_n d_WP_joint_2 rfl rfl ?_
  refine pw_iload_n d_WP_joint_3 rfl rfl ?_
  refine pw_iload d_WP_joint_4 rfl ?_
  refine pw_callV1 (R' := (zroom 2 0 0)) (h2 := h) [.int (a), .int (b), .int (c), .int (d)] (fun _ => rfl) d_WP_joint_6 lk_WP_64 hw.1 rfl rfl rfl (c_isJoint hw hr) ?_
  refine pw_if_eq 27 d_WP_joint_9 (by decide) (fun q => absurd q (fun z => z0 z hjt)) (fun _ => ?_)
  refine pw_aload_n d_WP_joint_12 rfl rfl ?_
  refine pw_get d_WP_joint_13 fl_WP_57 hw.1 rfl ?_
  refine pw_iload_n d_WP_joint_16 rfl rfl ?_
  refine pw_iload_n d_WP_joint_17 rfl rfl ?_
  refine pw_iload_n d_WP_joint_18 rfl rfl ?_
  refine pw_iload d_WP_joint_19 rfl ?_
  refine pw_callVt (R' := (zroom 1 0 0)) [.int (a), .int (b), .int (c), .int (d)] (fun _ => rfl) d_WP_joint_21 lk_WP_68 hr.1 rfl rfl rfl (c_hasJoint hr (by omega) hpl) (fun t ht => ?_)
  refine pw_if_eq 37 d_WP_joint_24 (by decide) (fun q_h => ?_) (fun q_h => ?_)
  · refine pw_aload_n d_WP_joint_37 rfl rfl ?_
    refine pw_get d_WP_joint_38 fl_WP_57 hw.1 rfl ?_
    refine pw_get d_WP_joint_41 fl_WP_78 hr.1 rfl ?_
    refine pw_bipush (x := 6) d_WP_joint_44 (by decide) ?_
    refine pw_icmp_lt 59 d_WP_joint_46 (by decide) (fun q => absurd q (by subst hjc; decide)) (fun _ => ?_)
    exact pw_throw (tx := "there are 6 joints") (names := xn) rfl d_WP_joint_49 d_WP_joint_52 d_WP_joint_53 d_WP_joint_55 d_WP_joint_58 xc_ISE xl_ISE rfl (by decide +kernel) xa_ISE rfl (by decide) (by decide) (by decide) (by decide) ⟨rfl, rfl⟩
  · rcases ht with ⟨-, h1⟩ | ⟨e, -⟩
    · exact absurd h1 hnx
    · exact absurd e q_h
set_option maxRecDepth 20000 in
set_option maxHeartbeats 2000000 in
theorem r_unjoint0 {G : zG} {h : zH} {tc dc : Nat} {op : Int32} {tk tb ty : Nat → Int32} {jc bc : Nat} {sx sy sz kn : Int32} {sd fc cc nu pb so : Nat → Int32} {A B C D : Nat → Int32} {S : zPS} {dx dy dz : Nat → Int32} {p1 p2 p3 : Int32} (hC : cAll h tc dc op tk tb ty jc bc sx sy sz kn sd fc cc nu pb so A B C D S dx dy dz p1 p2 p3) (hj0 : jc = 0) : PW G M_WP_unjoint (zroom 0 0 0) true (fun r h' => ∃ t : Int32, r = .inl (some (.int t)) ∧ zsm zKP h h' ∧ t = -1 ∧ cAll h' tc dc op tk tb ty jc bc sx sy sz kn sd fc cc nu pb so A B C D S dx dy dz p1 p2 p3) 0 (zentry 1 [.ref 0]) [] h 0 0 := by
  show PW G M_WP_unjoint (zroom 0 0 0) true _ 0 [some (.ref 0)] [] h 0 0
  obtain ⟨hw, hr, hpl, hp, hcr, ho, hdr⟩ := hC
  refine pw_aload_n d_WP_unjoint_0 rfl rfl ?_
  refine pw_get d_WP_unjoint_1 fl_WP_57 hw.1 rfl ?_
  refine pw_get d_WP_unjoint_4 fl_WP_78 hr.1 rfl ?_
  refine pw_if_ne 12 d_WP_unjoint_7 (by decide) (fun q => absurd q (fun z => z (by rw [hj0]; rfl))) (fun _ => ?_)
  refine pw_iconst (x := (-1)) d_WP_unjoint_10 (by decide) ?_
  refine pw_ireturn d_WP_unjoint_11 rfl (by decide) (by decide) ?_
  exact ⟨_, rfl, zsm_rf, rfl, ⟨hw, hr, hpl, hp, hcr, ho, hdr⟩⟩
/-- the points with a joint less -/
def zUS (S : zPS) (j c2 : Nat) : zPS := (c2, S.2.1, S.2.2.1, S.2.2.2.1, S.2.2.2.2.1, zmk c2 ((1 <<< (nI j &&& 31)) ^^^ -1) S.2.2.2.2.2.1, zmk c2 ((1 <<< (nI j &&& 31)) ^^^ -1) S.2.2.2.2.2.2)
def zUB (kn : Int32) (S : zPS) (j c2 : Nat) (B0 : zBS) : zBS := zbl (kn &&& ((1 <<< (nI j &&& 31)) ^^^ -1)) (zUS S j c2).2.2.2.2.2.1 (zUS S j c2).2.2.2.2.2.2 c2 (2 ^ j) B0 64
theorem zPl_k {S9 : List Nat} {h h1 : zH} {A B C D : Nat → Int32} (hz : zsm S9 h h1) (hS : ∀ j, j = 35 ∨ 52 ≤ j → j ∉ S9) (hpl : zPl h A B C D) : zPl h1 A B C D := ⟨zsm_at hz (hS _ (Or.inl rfl)) hpl.1, fun j hj => zsm_at hz (hS _ (by omega)) (hpl.2.1 j hj), fun j hj => zsm_at hz (hS _ (by omega)) (hpl.2.2 j hj)⟩
theorem zCr_k {S9 : List Nat} {h h1 : zH} (hz : zsm S9 h h1) (hS : ∀ j, 49 ≤ j → j ∉ S9) (hcr : zCr h) : zCr h1 := by
  obtain ⟨⟨a1, a2, a3, e1⟩, ⟨b1, b2, b3, e2⟩, ⟨c1, c2, c3, e3⟩⟩ := hcr
  exact ⟨⟨a1, a2, a3, zsm_at hz (hS _ (by decide)) e1⟩, ⟨b1, b2, b3, zsm_at hz (hS _ (by decide)) e2⟩, ⟨c1, c2, c3, zsm_at hz (hS _ (by decide)) e3⟩⟩
set_option maxRecDepth 20000 in
set_option maxHeartbeats 2000000 in
theorem r_unjoint {G : zG} {h : zH} {tc dc : Nat} {op : Int32} {tk tb ty : Nat → Int32} {j bc : Nat} {sx sy sz kn : Int32} {sd fc cc nu pb so : Nat → Int32} {A B C D : Nat → Int32} {S : zPS} {dx dy dz : Nat → Int32} {p1 p2 p3 : Int32} (hC : cAll h tc dc op tk tb ty (j + 1) bc sx sy sz kn sd fc cc nu pb so A B C D S dx dy dz p1 p2 p3) (hj6 : j < 6) {c2 : Nat} (hpb : pb j = nI c2) (hc2 : c2 ≤ 220) : PW G M_WP_unjoint (zroom 4 0 0) false (fun r h' => ∃ t : Int32, r = .inl (some (.int t)) ∧ zsm zKP h h' ∧ t = nI j ∧ cAll h' 0 dc op (zcl 64 tk) tb ty j ((zUB kn S j c2 (0, sd, fc, cc, nu)).1) sx sy sz (kn &&& ((1 <<< (nI j &&& 31)) ^^^ -1)) ((zUB kn S j c2 (0, sd, fc, cc, nu)).2.1) ((zUB kn S j c2 (0, sd, fc, cc, nu)).2.2.1) ((zUB kn S j c2 (0, sd, fc, cc, nu)).2.2.2.1) ((zUB kn S j c2 (0, sd, fc, cc, nu)).2.2.2.2) pb so A B C D (zUS S j c2) dx dy dz p1 p2 p3) 0 (zentry 1 [.ref 0]) [] h 0 0 := by
  show PW G M_WP_unjoint (zroom 4 0 0) false _ 0 [some (.ref 0)] [] h 0 0
  obtain ⟨hw, hr, hpl, hp, hcr, ho, hdr⟩ := hC
  refine pw_aload_n d_WP_unjoint_0 rfl rfl ?_
  refine pw_get d_WP_unjoint_1 fl_WP_57 hw.1 rfl ?_
  refine pw_get d_WP_unjoint_4 fl_WP_78 hr.1 rfl ?_
  refine pw_if_ne 12 d_WP_unjoint_7 (by decide) (fun _ => ?_) (fun q => absurd (fun z => absurd z (znz (by omega) (by omega))) (fun z => z q))
  refine pw_aload_n d_WP_unjoint_12 rfl rfl ?_
  refine pw_callVu (R' := (zroom 0 0 0)) [] (fun q => nomatch q) d_WP_unjoint_13 lk_WP_86 hw.1 rfl rfl rfl (c_putAllBack hw) (fun h1 hh => ?_)
  obtain ⟨hr1, hpl1, hp1, hcr1, ho1, hdr1⟩ := cWS hh.2 hr hpl hp hcr ho hdr
  refine pw_aload_n d_WP_unjoint_16 rfl rfl ?_
  refine pw_get d_WP_unjoint_17 fl_WP_57 hh.1.1 rfl ?_
  refine pw_callVu (R' := (zroom 3 0 0)) [] (fun q => nomatch q) d_WP_unjoint_20 lk_WP_93 hr1.1 rfl rfl rfl (c_dropJoint hp1 hr1 (show j < 6 by omega) hpb hc2) (fun h2 hg => ?_)
  obtain ⟨hg1, hg2, hg5⟩ := hg
  obtain ⟨hw2, ho2, hdr2⟩ := cJ (zsm_sw hg5) (fun j q => by simp only [List.mem_cons, List.not_mem_nil, or_false] at q; omega) hh.1 ho1 hdr1
  refine pw_aload_n d_WP_unjoint_23 rfl rfl ?_
  refine pw_get d_WP_unjoint_24 fl_WP_57 hw2.1 rfl ?_
  refine pw_get d_WP_unjoint_27 fl_WP_78 hg2.1 rfl ?_
  refine pw_ireturn d_WP_unjoint_30 rfl (by decide) (by decide) ?_
  exact ⟨_, rfl, zsm_tr (zsm_kp hh.2 (by decide)) (zsm_kp hg5 (by decide)) (fun _ q => q), rfl, hw2, hg2, zPl_k hg5 (fun j hj => by simp only [List.mem_cons, List.not_mem_nil, or_false]; omega) hpl1, hg1, zCr_k hg5 (fun j hj => by simp only [List.mem_cons, List.not_mem_nil, or_false]; omega) hcr1, ho2, hdr2⟩
