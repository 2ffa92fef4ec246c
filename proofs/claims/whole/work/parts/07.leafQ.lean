/-- the line of two faces, turned along the pull -/
def zLn (g1 g2 g3 k1 k2 k3 : Int32) : Int32 × Int32 × Int32 := if g1 * k1 + g2 * k2 + g3 * k3 < 0 then (k1 * (-1), k2 * (-1), k3 * (-1)) else (k1, k2, k3)
/-- what slidesAlong asks, with a line -/
def zTl (fc : Int32) (ix iy iz sx sy sz : Nat → Int32) (g1 g2 g3 : Int32) (f j : Nat) (L : Int32 × Int32 × Int32) : Prop := 0 < g1 * L.1 + g2 * L.2.1 + g3 * L.2.2 ∧ (¬ (L.1 = 0 ∧ L.2.1 = 0 ∧ L.2.2 = 0) ∧ ∀ e, e < 12 → (fc >>> (nI e &&& 31)) &&& 1 = 1 → ¬ (L.1 * ix e + L.2.1 * iy e + L.2.2 * iz e < 0)) ∧ sx f * ix j + sy f * iy j + sz f * iz j < 0 ∧ sx j * ix f + sy j * iy f + sz j * iz f < 0
def zTw (fc : Int32) (ix iy iz sx sy sz : Nat → Int32) (g1 g2 g3 : Int32) (f j : Nat) : Prop := zTl fc ix iy iz sx sy sz g1 g2 g3 f j (zLn g1 g2 g3 (iy f * iz j - iz f * iy j) (iz f * ix j - ix f * iz j) (ix f * iy j - iy f * ix j))
set_option maxRecDepth 20000 in
set_option maxHeartbeats 2000000 in
theorem c_slidesAlong {G : zG} {h : zH} {fc : Int32} {ix iy iz sx sy sz : Nat → Int32} {l1 l2 l3 : Int32} (ho : zHo h fc ix iy iz sx sy sz l1 l2 l3) {g1 g2 g3 : Int32} (hwa : h[30]? = some (.inr (0, [.int g1, .int g2, .int g3]))) {f j : Nat} (hf : f < 12) (hj : j < 12) : PW G M_Hold_slidesAlong (zroom 2 0 0) false (fun r h' => ∃ t : Int32, r = .inl (some (.int t)) ∧ (∃ l1 l2 l3, zHo h' fc ix iy iz sx sy sz l1 l2 l3) ∧ zsm zHS h h' ∧ ((t = 1 ∧ zTw fc ix iy iz sx sy sz g1 g2 g3 f j) ∨ (t = 0 ∧ ¬ zTw fc ix iy iz sx sy sz g1 g2 g3 f j))) 0 (zentry 4 [.ref 1, .int (nI f), .int (nI j), .ref 30]) [] h 0 0 := by
  show PW G M_Hold_slidesAlong (zroom 2 0 0) false _ 0 [some (.ref 1), some (.int (nI f)), some (.int (nI j)), some (.ref 30)] [] h 0 0
  refine pw_aload_n d_Hold_slidesAlong_0 rfl rfl ?_
  refine pw_get d_Hold_slidesAlong_1 fl_Hold_21 ho.1 rfl ?_
  refine pw_aload_n d_Hold_slidesAlong_4 rfl rfl ?_
  refine pw_get d_Hold_slidesAlong_5 fl_Hold_11 ho.1 rfl ?_
  refine pw_iload_n d_Hold_slidesAlong_8 rfl rfl ?_
  refine pw_aald (y := 5 + 2 * f) d_Hold_slidesAlong_9 ho.2.1 rfl rfl hf (by decide) (zInw_at hf) ?_
  refine pw_aload_n d_Hold_slidesAlong_10 rfl rfl ?_
  refine pw_get d_Hold_slidesAlong_11 fl_Hold_11 ho.1 rfl ?_
  refine pw_iload_n d_Hold_slidesAlong_14 rfl rfl ?_
  refine pw_aald (y := 5 + 2 * j) d_Hold_slidesAlong_15 ho.2.1 rfl rfl hj (by decide) (zInw_at hj) ?_
  obtain ⟨h_1, eh_1⟩ : ∃ x_9, x_9 = List.set h (4) (.inr (0, [.int (iy f * iz j - iz f * iy j), .int (iz f * ix j - ix f * iz j), .int (ix f * iy j - iy f * ix j)])) := ⟨_, rfl⟩
  refine pw_callV0 (R' := (zroom 1 0 0)) (h2 := h_1) [.ref (5 + 2 * f), .ref (5 + 2 * j)] (fun q => nomatch q) d_Hold_slidesAlong_16 lk_Hold_63 ho.2.2.2.1 rfl rfl rfl (c_Arrow_setCross ho.2.2.2.1 (ho.2.2.2.2.1 f hf) (ho.2.2.2.2.1 j hj) eh_1) ?_
  refine pw_aload_n d_Hold_slidesAlong_19 rfl rfl ?_
  refine pw_aload_n d_Hold_slidesAlong_20 rfl rfl ?_
  refine pw_get d_Hold_slidesAlong_21 fl_Hold_21 (zg_ne eh_1 (by decide) ho.1) rfl ?_
  refine pw_callV1 (R' := (zroom 0 0 0)) (h2 := h_1) [.ref 4] (fun q => nomatch q) d_Hold_slidesAlong_24 lk_Hold_41 (zg_ne eh_1 (by decide) hwa) rfl rfl rfl (c_Arrow_times (zg_ne eh_1 (by decide) hwa) (zg_eq eh_1 ho.2.2.2.1)) ?_
  refine pw_if_ge 42 d_Hold_slidesAlong_27 (by decide) (fun q_n => ?_) (fun q_n => ?_)
  · refine pw_aload_n d_Hold_slidesAlong_42 rfl rfl ?_
    refine pw_aload_n d_Hold_slidesAlong_43 rfl rfl ?_
    refine pw_get d_Hold_slidesAlong_44 fl_Hold_21 (zg_ne eh_1 (by decide) ho.1) rfl ?_
    refine pw_callV1 (R' := (zroom 0 0 0)) (h2 := h_1) [.ref 4] (fun q => nomatch q) d_Hold_slidesAlong_47 lk_Hold_41 (zg_ne eh_1 (by decide) hwa) rfl rfl rfl (c_Arrow_times (zg_ne eh_1 (by decide) hwa) (zg_eq eh_1 ho.2.2.2.1)) ?_
    refine pw_if_le 104 d_Hold_slidesAlong_50 (by decide) (fun q_p => ?_) (fun q_p => ?_)
    · refine pw_iconst (x := 0) d_Hold_slidesAlong_104 (by decide) ?_
      refine pw_zreturn d_Hold_slidesAlong_105 rfl (by decide) (by decide) (by decide) ?_
      have eL : zLn g1 g2 g3 (iy f * iz j - iz f * iy j) (iz f * ix j - ix f * iz j) (ix f * iy j - iy f * ix j) = (iy f * iz j - iz f * iy j, iz f * ix j - ix f * iz j, ix f * iy j - iy f * ix j) := if_neg (zlt.mpr q_n)
      refine ⟨0, rfl, ⟨_, _, _, (zHo_li ho eh_1)⟩, (zsm_st zsm_rf eh_1 (by decide)), Or.inr ⟨rfl, ?_⟩⟩
      unfold zTw
      rw [eL]
      intro z
      exact absurd z.1 (zlt.mpr q_p)
    · refine pw_aload_n d_Hold_slidesAlong_53 rfl rfl ?_
      refine pw_aload_n d_Hold_slidesAlong_54 rfl rfl ?_
      refine pw_get d_Hold_slidesAlong_55 fl_Hold_21 (zg_ne eh_1 (by decide) ho.1) rfl ?_
      refine pw_callVt (R' := (zroom 1 0 0)) [.ref 4] (fun q => nomatch q) d_Hold_slidesAlong_58 lk_Hold_45 (zg_ne eh_1 (by decide) ho.1) rfl rfl rfl (c_lets (zHo_li ho eh_1) (zg_eq eh_1 ho.2.2.2.1)) (fun t ht => ?_)
      refine pw_if_eq 104 d_Hold_slidesAlong_61 (by decide) (fun q_t => ?_) (fun q_t => ?_)
      · refine pw_iconst (x := 0) d_Hold_slidesAlong_104 (by decide) ?_
        refine pw_zreturn d_Hold_slidesAlong_105 rfl (by decide) (by decide) (by decide) ?_
        have eL : zLn g1 g2 g3 (iy f * iz j - iz f * iy j) (iz f * ix j - ix f * iz j) (ix f * iy j - iy f * ix j) = (iy f * iz j - iz f * iy j, iz f * ix j - ix f * iz j, ix f * iy j - iy f * ix j) := if_neg (zlt.mpr q_n)
        refine ⟨0, rfl, ⟨_, _, _, (zHo_li ho eh_1)⟩, (zsm_st zsm_rf eh_1 (by decide)), Or.inr ⟨rfl, ?_⟩⟩
        unfold zTw
        rw [eL]
        intro z
        exact by rcases ht with ⟨e, -⟩ | ⟨-, h2⟩; exact absurd (e.symm.trans q_t) (by decide); exact h2 z.2.1
      · refine pw_aload_n d_Hold_slidesAlong_64 rfl rfl ?_
        refine pw_get d_Hold_slidesAlong_65 fl_Hold_17 (zg_ne eh_1 (by decide) ho.1) rfl ?_
        refine pw_iload_n d_Hold_slidesAlong_68 rfl rfl ?_
        refine pw_aald (y := 6 + 2 * f) d_Hold_slidesAlong_69 (zg_ne eh_1 (by decide) ho.2.2.1) rfl rfl hf (by decide) (zSld_at hf) ?_
        refine pw_aload_n d_Hold_slidesAlong_70 rfl rfl ?_
        refine pw_get d_Hold_slidesAlong_71 fl_Hold_11 (zg_ne eh_1 (by decide) ho.1) rfl ?_
        refine pw_iload_n d_Hold_slidesAlong_74 rfl rfl ?_
        refine pw_aald (y := 5 + 2 * j) d_Hold_slidesAlong_75 (zg_ne eh_1 (by decide) ho.2.1) rfl rfl hj (by decide) (zInw_at hj) ?_
        refine pw_callV1 (R' := (zroom 0 0 0)) (h2 := h_1) [.ref (5 + 2 * j)] (fun q => nomatch q) d_Hold_slidesAlong_76 lk_Hold_41 (zg_ne eh_1 (by omega) (ho.2.2.2.2.2 f hf)) rfl rfl rfl (c_Arrow_times (zg_ne eh_1 (by omega) (ho.2.2.2.2.2 f hf)) (zg_ne eh_1 (by omega) (ho.2.2.2.2.1 j hj))) ?_
        refine pw_if_ge 104 d_Hold_slidesAlong_79 (by decide) (fun q_1 => ?_) (fun q_1 => ?_)
        · refine pw_iconst (x := 0) d_Hold_slidesAlong_104 (by decide) ?_
          refine pw_zreturn d_Hold_slidesAlong_105 rfl (by decide) (by decide) (by decide) ?_
          have eL : zLn g1 g2 g3 (iy f * iz j - iz f * iy j) (iz f * ix j - ix f * iz j) (ix f * iy j - iy f * ix j) = (iy f * iz j - iz f * iy j, iz f * ix j - ix f * iz j, ix f * iy j - iy f * ix j) := if_neg (zlt.mpr q_n)
          refine ⟨0, rfl, ⟨_, _, _, (zHo_li ho eh_1)⟩, (zsm_st zsm_rf eh_1 (by decide)), Or.inr ⟨rfl, ?_⟩⟩
          unfold zTw
          rw [eL]
          intro z
          exact absurd z.2.2.1 (zlt.mpr q_1)
        · refine pw_aload_n d_Hold_slidesAlong_82 rfl rfl ?_
          refine pw_get d_Hold_slidesAlong_83 fl_Hold_17 (zg_ne eh_1 (by decide) ho.1) rfl ?_
          refine pw_iload_n d_Hold_slidesAlong_86 rfl rfl ?_
          refine pw_aald (y := 6 + 2 * j) d_Hold_slidesAlong_87 (zg_ne eh_1 (by decide) ho.2.2.1) rfl rfl hj (by decide) (zSld_at hj) ?_
          refine pw_aload_n d_Hold_slidesAlong_88 rfl rfl ?_
          refine pw_get d_Hold_slidesAlong_89 fl_Hold_11 (zg_ne eh_1 (by decide) ho.1) rfl ?_
          refine pw_iload_n d_Hold_slidesAlong_92 rfl rfl ?_
          refine pw_aald (y := 5 + 2 * f) d_Hold_slidesAlong_93 (zg_ne eh_1 (by decide) ho.2.1) rfl rfl hf (by decide) (zInw_at hf) ?_
          refine pw_callV1 (R' := (zroom 0 0 0)) (h2 := h_1) [.ref (5 + 2 * f)] (fun q => nomatch q) d_Hold_slidesAlong_94 lk_Hold_41 (zg_ne eh_1 (by omega) (ho.2.2.2.2.2 j hj)) rfl rfl rfl (c_Arrow_times (zg_ne eh_1 (by omega) (ho.2.2.2.2.2 j hj)) (zg_ne eh_1 (by omega) (ho.2.2.2.2.1 f hf))) ?_
          refine pw_if_ge 104 d_Hold_slidesAlong_97 (by decide) (fun q_2 => ?_) (fun q_2 => ?_)
          · refine pw_iconst (x := 0) d_Hold_slidesAlong_104 (by decide) ?_
            refine pw_zreturn d_Hold_slidesAlong_105 rfl (by decide) (by decide) (by decide) ?_
            have eL : zLn g1 g2 g3 (iy f * iz j - iz f * iy j) (iz f * ix j - ix f * iz j) (ix f * iy j - iy f * ix j) = (iy f * iz j - iz f * iy j, iz f * ix j - ix f * iz j, ix f * iy j - iy f * ix j) := if_neg (zlt.mpr q_n)
            refine ⟨0, rfl, ⟨_, _, _, (zHo_li ho eh_1)⟩, (zsm_st zsm_rf eh_1 (by decide)), Or.inr ⟨rfl, ?_⟩⟩
            unfold zTw
            rw [eL]
            intro z
            exact absurd z.2.2.2 (zlt.mpr q_2)
          · refine pw_iconst (x := 1) d_Hold_slidesAlong_100 (by decide) ?_
            refine pw_goto 105 d_Hold_slidesAlong_101 (by decide) ?_
            refine pw_zreturn d_Hold_slidesAlong_105 rfl (by decide) (by decide) (by decide) ?_
            have eL : zLn g1 g2 g3 (iy f * iz j - iz f * iy j) (iz f * ix j - ix f * iz j) (ix f * iy j - iy f * ix j) = (iy f * iz j - iz f * iy j, iz f * ix j - ix f * iz j, ix f * iy j - iy f * ix j) := if_neg (zlt.mpr q_n)
            refine ⟨1, rfl, ⟨_, _, _, (zHo_li ho eh_1)⟩, (zsm_st zsm_rf eh_1 (by decide)), Or.inl ⟨rfl, ?_⟩⟩
            unfold zTw
            rw [eL]
            refine ⟨zle.mp q_p, ?_, zle.mp q_1, zle.mp q_2⟩
            rcases ht with ⟨-, h1⟩ | ⟨e, -⟩
            · exact h1
            · exact absurd e q_t
  · refine pw_aload_n d_Hold_slidesAlong_30 rfl rfl ?_
    refine pw_get d_Hold_slidesAlong_31 fl_Hold_21 (zg_ne eh_1 (by decide) ho.1) rfl ?_
    refine pw_aload_n d_Hold_slidesAlong_34 rfl rfl ?_
    refine pw_get d_Hold_slidesAlong_35 fl_Hold_21 (zg_ne eh_1 (by decide) ho.1) rfl ?_
    refine pw_iconst (x := (-1)) d_Hold_slidesAlong_38 (by decide) ?_
    obtain ⟨h_2, eh_2⟩ : ∃ x_9, x_9 = List.set h_1 (4) (.inr (0, [.int ((iy f * iz j - iz f * iy j) * (-1)), .int ((iz f * ix j - ix f * iz j) * (-1)), .int ((ix f * iy j - iy f * ix j) * (-1))])) := ⟨_, rfl⟩
    refine pw_callV0 (R' := (zroom 1 0 0)) (h2 := h_2) [.ref 4, .int ((-1))] (fun q => nomatch q) d_Hold_slidesAlong_39 lk_Hold_29 (zg_eq eh_1 ho.2.2.2.1) rfl rfl rfl (c_Arrow_setScaled (zg_eq eh_1 ho.2.2.2.1) (zg_eq eh_1 ho.2.2.2.1) eh_2) ?_
    refine pw_aload_n d_Hold_slidesAlong_42 rfl rfl ?_
    refine pw_aload_n d_Hold_slidesAlong_43 rfl rfl ?_
    refine pw_get d_Hold_slidesAlong_44 fl_Hold_21 (zg_ne eh_2 (by decide) (zg_ne eh_1 (by decide) ho.1)) rfl ?_
    refine pw_callV1 (R' := (zroom 0 0 0)) (h2 := h_2) [.ref 4] (fun q => nomatch q) d_Hold_slidesAlong_47 lk_Hold_41 (zg_ne eh_2 (by decide) (zg_ne eh_1 (by decide) hwa)) rfl rfl rfl (c_Arrow_times (zg_ne eh_2 (by decide) (zg_ne eh_1 (by decide) hwa)) (zg_eq eh_2 (zg_eq eh_1 ho.2.2.2.1))) ?_
    refine pw_if_le 104 d_Hold_slidesAlong_50 (by decide) (fun q_p => ?_) (fun q_p => ?_)
    · refine pw_iconst (x := 0) d_Hold_slidesAlong_104 (by decide) ?_
      refine pw_zreturn d_Hold_slidesAlong_105 rfl (by decide) (by decide) (by decide) ?_
      have eL : zLn g1 g2 g3 (iy f * iz j - iz f * iy j) (iz f * ix j - ix f * iz j) (ix f * iy j - iy f * ix j) = ((iy f * iz j - iz f * iy j) * (-1), (iz f * ix j - ix f * iz j) * (-1), (ix f * iy j - iy f * ix j) * (-1)) := if_pos (zle.mp q_n)
      refine ⟨0, rfl, ⟨_, _, _, (zHo_li (zHo_li ho eh_1) eh_2)⟩, (zsm_st (zsm_st zsm_rf eh_1 (by decide)) eh_2 (by decide)), Or.inr ⟨rfl, ?_⟩⟩
      unfold zTw
      rw [eL]
      intro z
      exact absurd z.1 (zlt.mpr q_p)
    · refine pw_aload_n d_Hold_slidesAlong_53 rfl rfl ?_
      refine pw_aload_n d_Hold_slidesAlong_54 rfl rfl ?_
      refine pw_get d_Hold_slidesAlong_55 fl_Hold_21 (zg_ne eh_2 (by decide) (zg_ne eh_1 (by decide) ho.1)) rfl ?_
      refine pw_callVt (R' := (zroom 1 0 0)) [.ref 4] (fun q => nomatch q) d_Hold_slidesAlong_58 lk_Hold_45 (zg_ne eh_2 (by decide) (zg_ne eh_1 (by decide) ho.1)) rfl rfl rfl (c_lets (zHo_li (zHo_li ho eh_1) eh_2) (zg_eq eh_2 (zg_eq eh_1 ho.2.2.2.1))) (fun t ht => ?_)
      refine pw_if_eq 104 d_Hold_slidesAlong_61 (by decide) (fun q_t => ?_) (fun q_t => ?_)
      · refine pw_iconst (x := 0) d_Hold_slidesAlong_104 (by decide) ?_
        refine pw_zreturn d_Hold_slidesAlong_105 rfl (by decide) (by decide) (by decide) ?_
        have eL : zLn g1 g2 g3 (iy f * iz j - iz f * iy j) (iz f * ix j - ix f * iz j) (ix f * iy j - iy f * ix j) = ((iy f * iz j - iz f * iy j) * (-1), (iz f * ix j - ix f * iz j) * (-1), (ix f * iy j - iy f * ix j) * (-1)) := if_pos (zle.mp q_n)
        refine ⟨0, rfl, ⟨_, _, _, (zHo_li (zHo_li ho eh_1) eh_2)⟩, (zsm_st (zsm_st zsm_rf eh_1 (by decide)) eh_2 (by decide)), Or.inr ⟨rfl, ?_⟩⟩
        unfold zTw
        rw [eL]
        intro z
        exact by rcases ht with ⟨e, -⟩ | ⟨-, h2⟩; exact absurd (e.symm.trans q_t) (by decide); exact h2 z.2.1
      · refine pw_aload_n d_Hold_slidesAlong_64 rfl rfl ?_
        refine pw_get d_Hold_slidesAlong_65 fl_Hold_17 (zg_ne eh_2 (by decide) (zg_ne eh_1 (by decide) ho.1)) rfl ?_
        refine pw_iload_n d_Hold_slidesAlong_68 rfl rfl ?_
        refine pw_aald (y := 6 + 2 * f) d_Hold_slidesAlong_69 (zg_ne eh_2 (by decide) (zg_ne eh_1 (by decide) ho.2.2.1)) rfl rfl hf (by decide) (zSld_at hf) ?_
        refine pw_aload_n d_Hold_slidesAlong_70 rfl rfl ?_
        refine pw_get d_Hold_slidesAlong_71 fl_Hold_11 (zg_ne eh_2 (by decide) (zg_ne eh_1 (by decide) ho.1)) rfl ?_
        refine pw_iload_n d_Hold_slidesAlong_74 rfl rfl ?_
        refine pw_aald (y := 5 + 2 * j) d_Hold_slidesAlong_75 (zg_ne eh_2 (by decide) (zg_ne eh_1 (by decide) ho.2.1)) rfl rfl hj (by decide) (zInw_at hj) ?_
        refine pw_callV1 (R' := (zroom 0 0 0)) (h2 := h_2) [.ref (5 + 2 * j)] (fun q => nomatch q) d_Hold_slidesAlong_76 lk_Hold_41 (zg_ne eh_2 (by omega) (zg_ne eh_1 (by omega) (ho.2.2.2.2.2 f hf))) rfl rfl rfl (c_Arrow_times (zg_ne eh_2 (by omega) (zg_ne eh_1 (by omega) (ho.2.2.2.2.2 f hf))) (zg_ne eh_2 (by omega) (zg_ne eh_1 (by omega) (ho.2.2.2.2.1 j hj)))) ?_
        refine pw_if_ge 104 d_Hold_slidesAlong_79 (by decide) (fun q_1 => ?_) (fun q_1 => ?_)
        · refine pw_iconst (x := 0) d_Hold_slidesAlong_104 (by decide) ?_
          refine pw_zreturn d_Hold_slidesAlong_105 rfl (by decide) (by decide) (by decide) ?_
          have eL : zLn g1 g2 g3 (iy f * iz j - iz f * iy j) (iz f * ix j - ix f * iz j) (ix f * iy j - iy f * ix j) = ((iy f * iz j - iz f * iy j) * (-1), (iz f * ix j - ix f * iz j) * (-1), (ix f * iy j - iy f * ix j) * (-1)) := if_pos (zle.mp q_n)
          refine ⟨0, rfl, ⟨_, _, _, (zHo_li (zHo_li ho eh_1) eh_2)⟩, (zsm_st (zsm_st zsm_rf eh_1 (by decide)) eh_2 (by decide)), Or.inr ⟨rfl, ?_⟩⟩
          unfold zTw
          rw [eL]
          intro z
          exact absurd z.2.2.1 (zlt.mpr q_1)
        · refine pw_aload_n d_Hold_slidesAlong_82 rfl rfl ?_
          refine pw_get d_Hold_slidesAlong_83 fl_Hold_17 (zg_ne eh_2 (by decide) (zg_ne eh_1 (by decide) ho.1)) rfl ?_
          refine pw_iload_n d_Hold_slidesAlong_86 rfl rfl ?_
          refine pw_aald (y := 6 + 2 * j) d_Hold_slidesAlong_87 (zg_ne eh_2 (by decide) (zg_ne eh_1 (by decide) ho.2.2.1)) rfl rfl hj (by decide) (zSld_at hj) ?_
          refine pw_aload_n d_Hold_slidesAlong_88 rfl rfl ?_
          refine pw_get d_Hold_slidesAlong_89 fl_Hold_11 (zg_ne eh_2 (by decide) (zg_ne eh_1 (by decide) ho.1)) rfl ?_
          refine pw_iload_n d_Hold_slidesAlong_92 rfl rfl ?_
          refine pw_aald (y := 5 + 2 * f) d_Hold_slidesAlong_93 (zg_ne eh_2 (by decide) (zg_ne eh_1 (by decide) ho.2.1)) rfl rfl hf (by decide) (zInw_at hf) ?_
          refine pw_callV1 (R' := (zroom 0 0 0)) (h2 := h_2) [.ref (5 + 2 * f)] (fun q => nomatch q) d_Hold_slidesAlong_94 lk_Hold_41 (zg_ne eh_2 (by omega) (zg_ne eh_1 (by omega) (ho.2.2.2.2.2 j hj))) rfl rfl rfl (c_Arrow_times (zg_ne eh_2 (by omega) (zg_ne eh_1 (by omega) (ho.2.2.2.2.2 j hj))) (zg_ne eh_2 (by omega) (zg_ne eh_1 (by omega) (ho.2.2.2.2.1 f hf)))) ?_
          refine pw_if_ge 104 d_Hold_slidesAlong_97 (by decide) (fun q_2 => ?_) (fun q_2 => ?_)
          · refine pw_iconst (x := 0) d_Hold_slidesAlong_104 (by decide) ?_
            refine pw_zreturn d_Hold_slidesAlong_105 rfl (by decide) (by decide) (by decide) ?_
            have eL : zLn g1 g2 g3 (iy f * iz j - iz f * iy j) (iz f * ix j - ix f * iz j) (ix f * iy j - iy f * ix j) = ((iy f * iz j - iz f * iy j) * (-1), (iz f * ix j - ix f * iz j) * (-1), (ix f * iy j - iy f * ix j) * (-1)) := if_pos (zle.mp q_n)
            refine ⟨0, rfl, ⟨_, _, _, (zHo_li (zHo_li ho eh_1) eh_2)⟩, (zsm_st (zsm_st zsm_rf eh_1 (by decide)) eh_2 (by decide)), Or.inr ⟨rfl, ?_⟩⟩
            unfold zTw
            rw [eL]
            intro z
            exact absurd z.2.2.2 (zlt.mpr q_2)
          · refine pw_iconst (x := 1) d_Hold_slidesAlong_100 (by decide) ?_
            refine pw_goto 105 d_Hold_slidesAlong_101 (by decide) ?_
            refine pw_zreturn d_Hold_slidesAlong_105 rfl (by decide) (by decide) (by decide) ?_
            have eL : zLn g1 g2 g3 (iy f * iz j - iz f * iy j) (iz f * ix j - ix f * iz j) (ix f * iy j - iy f * ix j) = ((iy f * iz j - iz f * iy j) * (-1), (iz f * ix j - ix f * iz j) * (-1), (ix f * iy j - iy f * ix j) * (-1)) := if_pos (zle.mp q_n)
            refine ⟨1, rfl, ⟨_, _, _, (zHo_li (zHo_li ho eh_1) eh_2)⟩, (zsm_st (zsm_st zsm_rf eh_1 (by decide)) eh_2 (by decide)), Or.inl ⟨rfl, ?_⟩⟩
            unfold zTw
            rw [eL]
            refine ⟨zle.mp q_p, ?_, zle.mp q_1, zle.mp q_2⟩
            rcases ht with ⟨-, h1⟩ | ⟨e, -⟩
            · exact h1
            · exact absurd e q_t
