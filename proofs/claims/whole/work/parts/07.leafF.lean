set_option maxRecDepth 20000 in
set_option maxHeartbeats 2000000 in
theorem c_addPoint {G : zG} {h : zH} {c : Nat} {x y z q a b : Nat → Int32} (hp : zPt h c x y z q a b) (hc : c < 220) {jc bc : Nat} {sx sy sz kn : Int32} {sd fc cc nu pb so : Nat → Int32} (hr : zRk h jc bc sx sy sz kn sd fc cc nu pb so) {A B C D : Nat → Int32} (hpl : zPl h A B C D) {u1 u2 u3 u4 : Int32} : PW G M_Rock_addPoint (zroom 2 0 0) false (fun r h' => r = .inl none ∧ ((¬ (0 ≤ u1 ∧ u1 ≤ sx * u4 ∧ 0 ≤ u2 ∧ u2 ≤ sy * u4 ∧ 0 ≤ u3 ∧ u3 ≤ sz * u4) ∨ (zgcd 64 (zgcd 64 u1 u2) (zgcd 64 u3 u4)) = 0 ∨ (∃ p, p < c ∧ x p = u1 / (zgcd 64 (zgcd 64 u1 u2) (zgcd 64 u3 u4)) ∧ y p = u2 / (zgcd 64 (zgcd 64 u1 u2) (zgcd 64 u3 u4)) ∧ z p = u3 / (zgcd 64 (zgcd 64 u1 u2) (zgcd 64 u3 u4)) ∧ q p = u4 / (zgcd 64 (zgcd 64 u1 u2) (zgcd 64 u3 u4)))) → h' = h) ∧ ((0 ≤ u1 ∧ u1 ≤ sx * u4 ∧ 0 ≤ u2 ∧ u2 ≤ sy * u4 ∧ 0 ≤ u3 ∧ u3 ≤ sz * u4) ∧ ¬ (zgcd 64 (zgcd 64 u1 u2) (zgcd 64 u3 u4)) = 0 ∧ ¬ (∃ p, p < c ∧ x p = u1 / (zgcd 64 (zgcd 64 u1 u2) (zgcd 64 u3 u4)) ∧ y p = u2 / (zgcd 64 (zgcd 64 u1 u2) (zgcd 64 u3 u4)) ∧ z p = u3 / (zgcd 64 (zgcd 64 u1 u2) (zgcd 64 u3 u4)) ∧ q p = u4 / (zgcd 64 (zgcd 64 u1 u2) (zgcd 64 u3 u4))) → zPt h' (c + 1) (upd x c (u1 / (zgcd 64 (zgcd 64 u1 u2) (zgcd 64 u3 u4)))) (upd y c (u2 / (zgcd 64 (zgcd 64 u1 u2) (zgcd 64 u3 u4)))) (upd z c (u3 / (zgcd 64 (zgcd 64 u1 u2) (zgcd 64 u3 u4)))) (upd q c (u4 / (zgcd 64 (zgcd 64 u1 u2) (zgcd 64 u3 u4)))) (upd a c (zab kn A B C D (u1 / (zgcd 64 (zgcd 64 u1 u2) (zgcd 64 u3 u4))) (u2 / (zgcd 64 (zgcd 64 u1 u2) (zgcd 64 u3 u4))) (u3 / (zgcd 64 (zgcd 64 u1 u2) (zgcd 64 u3 u4))) (u4 / (zgcd 64 (zgcd 64 u1 u2) (zgcd 64 u3 u4))) 12).1) (upd b c (zab kn A B C D (u1 / (zgcd 64 (zgcd 64 u1 u2) (zgcd 64 u3 u4))) (u2 / (zgcd 64 (zgcd 64 u1 u2) (zgcd 64 u3 u4))) (u3 / (zgcd 64 (zgcd 64 u1 u2) (zgcd 64 u3 u4))) (u4 / (zgcd 64 (zgcd 64 u1 u2) (zgcd 64 u3 u4))) 12).2) ∧ zsm [36, 37, 38, 39, 40, 41, 42] h h')) 0 (zentry 7 [.ref 34, .int (u1), .int (u2), .int (u3), .int (u4)]) [] h 0 0 := by
  show PW G M_Rock_addPoint (zroom 2 0 0) false _ 0 [some (.ref 34), some (.int (u1)), some (.int (u2)), some (.int (u3)), some (.int (u4)), none, none] [] h 0 0
  refine pw_aload_n d_Rock_addPoint_0 rfl rfl ?_
  refine pw_iload_n d_Rock_addPoint_1 rfl rfl ?_
  refine pw_iload_n d_Rock_addPoint_2 rfl rfl ?_
  refine pw_iload_n d_Rock_addPoint_3 rfl rfl ?_
  refine pw_iload d_Rock_addPoint_4 rfl ?_
  refine pw_callV1 (R' := (zroom 0 0 0)) (h2 := h) [.int (u1), .int (u2), .int (u3), .int (u4)] (fun q => nomatch q) d_Rock_addPoint_6 lk_Rock_161 hr.1 rfl rfl rfl (c_isInBox hr.1) ?_
  refine pw_if_ne 13 d_Rock_addPoint_9 (by decide) (fun q_i => ?_) (fun q_i => ?_)
  · refine pw_iload_n d_Rock_addPoint_13 rfl rfl ?_
    refine pw_iload_n d_Rock_addPoint_14 rfl rfl ?_
    refine pw_callS1 (R' := (zroom 0 0 0)) (h2 := h) [.int (u1), .int (u2)] (fun q => nomatch q) d_Rock_addPoint_15 lk_Rock_164 rfl rfl (c_commonDivisor rfl) ?_
    refine pw_iload_n d_Rock_addPoint_18 rfl rfl ?_
    refine pw_iload d_Rock_addPoint_19 rfl ?_
    refine pw_callS1 (R' := (zroom 0 0 0)) (h2 := h) [.int (u3), .int (u4)] (fun q => nomatch q) d_Rock_addPoint_21 lk_Rock_164 rfl rfl (c_commonDivisor rfl) ?_
    refine pw_callS1 (R' := (zroom 0 0 0)) (h2 := h) [.int ((zgcd 64 u1 u2)), .int ((zgcd 64 u3 u4))] (fun q => nomatch q) d_Rock_addPoint_24 lk_Rock_164 rfl rfl (c_commonDivisor rfl) ?_
    refine pw_istore d_Rock_addPoint_27 (by decide) (pl' := [some (.ref 34), some (.int (u1)), some (.int (u2)), some (.int (u3)), some (.int (u4)), some (.int ((zgcd 64 (zgcd 64 u1 u2) (zgcd 64 u3 u4)))), none]) rfl ?_
    refine pw_iload d_Rock_addPoint_29 rfl ?_
    refine pw_if_eq 61 d_Rock_addPoint_31 (by decide) (fun q_g => ?_) (fun q_g => ?_)
    · refine pw_return d_Rock_addPoint_61 rfl (by decide) (by decide) ?_
      exact ⟨rfl, fun _ => rfl, fun hn => absurd q_g hn.2.1⟩
    · refine pw_aload_n d_Rock_addPoint_34 rfl rfl ?_
      refine pw_get d_Rock_addPoint_35 fl_Rock_20 hr.1 rfl ?_
      refine pw_iload_n d_Rock_addPoint_38 rfl rfl ?_
      refine pw_iload d_Rock_addPoint_39 rfl ?_
      refine pw_idiv d_Rock_addPoint_41 q_g ?_
      refine pw_iload_n d_Rock_addPoint_42 rfl rfl ?_
      refine pw_iload d_Rock_addPoint_43 rfl ?_
      refine pw_idiv d_Rock_addPoint_45 q_g ?_
      refine pw_iload_n d_Rock_addPoint_46 rfl rfl ?_
      refine pw_iload d_Rock_addPoint_47 rfl ?_
      refine pw_idiv d_Rock_addPoint_49 q_g ?_
      refine pw_iload d_Rock_addPoint_50 rfl ?_
      refine pw_iload d_Rock_addPoint_52 rfl ?_
      refine pw_idiv d_Rock_addPoint_54 q_g ?_
      refine pw_callVt (R' := (zroom 0 0 0)) [.int ((u1 / (zgcd 64 (zgcd 64 u1 u2) (zgcd 64 u3 u4)))), .int ((u2 / (zgcd 64 (zgcd 64 u1 u2) (zgcd 64 u3 u4)))), .int ((u3 / (zgcd 64 (zgcd 64 u1 u2) (zgcd 64 u3 u4)))), .int ((u4 / (zgcd 64 (zgcd 64 u1 u2) (zgcd 64 u3 u4))))] (fun q => nomatch q) d_Rock_addPoint_55 lk_Rock_167 hp.1 rfl rfl rfl (c_has hp (Nat.le_of_lt hc)) (fun t ht => ?_)
      refine pw_if_eq 62 d_Rock_addPoint_58 (by decide) (fun q_h => ?_) (fun q_h => ?_)
      · refine pw_aload_n d_Rock_addPoint_62 rfl rfl ?_
        refine pw_get d_Rock_addPoint_63 fl_Rock_20 hr.1 rfl ?_
        refine pw_iload_n d_Rock_addPoint_66 rfl rfl ?_
        refine pw_iload d_Rock_addPoint_67 rfl ?_
        refine pw_idiv d_Rock_addPoint_69 q_g ?_
        refine pw_iload_n d_Rock_addPoint_70 rfl rfl ?_
        refine pw_iload d_Rock_addPoint_71 rfl ?_
        refine pw_idiv d_Rock_addPoint_73 q_g ?_
        refine pw_iload_n d_Rock_addPoint_74 rfl rfl ?_
        refine pw_iload d_Rock_addPoint_75 rfl ?_
        refine pw_idiv d_Rock_addPoint_77 q_g ?_
        refine pw_iload d_Rock_addPoint_78 rfl ?_
        refine pw_iload d_Rock_addPoint_80 rfl ?_
        refine pw_idiv d_Rock_addPoint_82 q_g ?_
        refine pw_callVu (R' := (zroom 0 0 0)) [.int ((u1 / (zgcd 64 (zgcd 64 u1 u2) (zgcd 64 u3 u4)))), .int ((u2 / (zgcd 64 (zgcd 64 u1 u2) (zgcd 64 u3 u4)))), .int ((u3 / (zgcd 64 (zgcd 64 u1 u2) (zgcd 64 u3 u4)))), .int ((u4 / (zgcd 64 (zgcd 64 u1 u2) (zgcd 64 u3 u4))))] (fun q => nomatch q) d_Rock_addPoint_83 lk_Rock_170 hp.1 rfl rfl rfl (c_Points_add hp hc) (fun h1 hh => ?_)
        refine pw_iconst (x := 0) d_Rock_addPoint_86 (by decide) ?_
        refine pw_istore d_Rock_addPoint_87 (by decide) (pl' := [some (.ref 34), some (.int (u1)), some (.int (u2)), some (.int (u3)), some (.int (u4)), some (.int ((zgcd 64 (zgcd 64 u1 u2) (zgcd 64 u3 u4)))), some (.int (0))]) rfl ?_
        have hex : ¬ (∃ p, p < c ∧ x p = u1 / (zgcd 64 (zgcd 64 u1 u2) (zgcd 64 u3 u4)) ∧ y p = u2 / (zgcd 64 (zgcd 64 u1 u2) (zgcd 64 u3 u4)) ∧ z p = u3 / (zgcd 64 (zgcd 64 u1 u2) (zgcd 64 u3 u4)) ∧ q p = u4 / (zgcd 64 (zgcd 64 u1 u2) (zgcd 64 u3 u4))) := by rcases ht with ⟨e, -⟩ | ⟨-, e⟩; exact absurd (e.symm.trans q_h) (by decide); exact e
        refine l_addPoint (px := u1 / (zgcd 64 (zgcd 64 u1 u2) (zgcd 64 u3 u4))) (py := u2 / (zgcd 64 (zgcd 64 u1 u2) (zgcd 64 u3 u4))) (pz := u3 / (zgcd 64 (zgcd 64 u1 u2) (zgcd 64 u3 u4))) (pq := u4 / (zgcd 64 (zgcd 64 u1 u2) (zgcd 64 u3 u4))) hc hr hpl (fun h2 a1 a2 => ⟨rfl, fun hn => ?_, fun _ => ⟨a1, a2⟩⟩) 13 0 h1 (by decide) (by decide) hh.1 hh.2
        rcases hn with hn | hn | hn
        · exact absurd (z1 q_i) hn
        · exact absurd hn q_g
        · exact absurd hn hex
      · refine pw_return d_Rock_addPoint_61 rfl (by decide) (by decide) ?_
        exact ⟨rfl, fun _ => rfl, fun hn => absurd (by rcases ht with ⟨-, e⟩ | ⟨e, -⟩; exact e; exact absurd e q_h) hn.2.2⟩
  · refine pw_return d_Rock_addPoint_12 rfl (by decide) (by decide) ?_
    exact ⟨rfl, fun _ => rfl, fun hn => absurd hn.1 (z0 q_i)⟩
