/-- the points as a tuple: how many, x, y, z, q, above, below -/
abbrev zPS : Type := Nat × (Nat → Int32) × (Nat → Int32) × (Nat → Int32) × (Nat → Int32) × (Nat → Int32) × (Nat → Int32)
def zPp (h : zH) (S : zPS) : Prop := zPt h S.1 S.2.1 S.2.2.1 S.2.2.2.1 S.2.2.2.2.1 S.2.2.2.2.2.1 S.2.2.2.2.2.2
/-- addPoint on the tuple -/
noncomputable def zadp (kn sx sy sz : Int32) (A B C D : Nat → Int32) (u1 u2 u3 u4 : Int32) (S : zPS) : zPS := @ite zPS ((0 ≤ u1 ∧ u1 ≤ sx * u4 ∧ 0 ≤ u2 ∧ u2 ≤ sy * u4 ∧ 0 ≤ u3 ∧ u3 ≤ sz * u4) ∧ ¬ (zgcd 64 (zgcd 64 u1 u2) (zgcd 64 u3 u4)) = 0 ∧ ¬ (∃ p, p < S.1 ∧ S.2.1 p = u1 / (zgcd 64 (zgcd 64 u1 u2) (zgcd 64 u3 u4)) ∧ S.2.2.1 p = u2 / (zgcd 64 (zgcd 64 u1 u2) (zgcd 64 u3 u4)) ∧ S.2.2.2.1 p = u3 / (zgcd 64 (zgcd 64 u1 u2) (zgcd 64 u3 u4)) ∧ S.2.2.2.2.1 p = u4 / (zgcd 64 (zgcd 64 u1 u2) (zgcd 64 u3 u4)))) (Classical.propDecidable _) (S.1 + 1, upd S.2.1 S.1 (u1 / (zgcd 64 (zgcd 64 u1 u2) (zgcd 64 u3 u4))), upd S.2.2.1 S.1 (u2 / (zgcd 64 (zgcd 64 u1 u2) (zgcd 64 u3 u4))), upd S.2.2.2.1 S.1 (u3 / (zgcd 64 (zgcd 64 u1 u2) (zgcd 64 u3 u4))), upd S.2.2.2.2.1 S.1 (u4 / (zgcd 64 (zgcd 64 u1 u2) (zgcd 64 u3 u4))), upd S.2.2.2.2.2.1 S.1 (zab kn A B C D (u1 / (zgcd 64 (zgcd 64 u1 u2) (zgcd 64 u3 u4))) (u2 / (zgcd 64 (zgcd 64 u1 u2) (zgcd 64 u3 u4))) (u3 / (zgcd 64 (zgcd 64 u1 u2) (zgcd 64 u3 u4))) (u4 / (zgcd 64 (zgcd 64 u1 u2) (zgcd 64 u3 u4))) 12).1, upd S.2.2.2.2.2.2 S.1 (zab kn A B C D (u1 / (zgcd 64 (zgcd 64 u1 u2) (zgcd 64 u3 u4))) (u2 / (zgcd 64 (zgcd 64 u1 u2) (zgcd 64 u3 u4))) (u3 / (zgcd 64 (zgcd 64 u1 u2) (zgcd 64 u3 u4))) (u4 / (zgcd 64 (zgcd 64 u1 u2) (zgcd 64 u3 u4))) 12).2) S
/-- three planes meet, on the tuple -/
noncomputable def zmt (kn sx sy sz : Int32) (A B C D : Nat → Int32) (f g i : Nat) (S : zPS) : zPS :=
  if A f * (B g * C i - C g * B i) + B f * (C g * A i - A g * C i) + C f * (A g * B i - B g * A i) = 0 then S else
  zadp kn sx sy sz A B C D
    ((if 0 < A f * (B g * C i - C g * B i) + B f * (C g * A i - A g * C i) + C f * (A g * B i - B g * A i) then 1 else -1) * (D f * (B g * C i - C g * B i) + D g * (B i * C f - C i * B f) + D i * (B f * C g - C f * B g)))
    ((if 0 < A f * (B g * C i - C g * B i) + B f * (C g * A i - A g * C i) + C f * (A g * B i - B g * A i) then 1 else -1) * (D f * (C g * A i - A g * C i) + D g * (C i * A f - A i * C f) + D i * (C f * A g - A f * C g)))
    ((if 0 < A f * (B g * C i - C g * B i) + B f * (C g * A i - A g * C i) + C f * (A g * B i - B g * A i) then 1 else -1) * (D f * (A g * B i - B g * A i) + D g * (A i * B f - B i * A f) + D i * (A f * B g - B f * A g)))
    ((if 0 < A f * (B g * C i - C g * B i) + B f * (C g * A i - A g * C i) + C f * (A g * B i - B g * A i) then 1 else -1) * (A f * (B g * C i - C g * B i) + B f * (C g * A i - A g * C i) + C f * (A g * B i - B g * A i))) S
set_option maxRecDepth 20000 in
set_option maxHeartbeats 2000000 in
theorem c_addPt {G : zG} {h : zH} {S : zPS} (hp : zPp h S) (hS : S.1 < 220) {jc bc : Nat} {sx sy sz kn : Int32} {sd fc cc nu pb so : Nat → Int32} (hr : zRk h jc bc sx sy sz kn sd fc cc nu pb so) {A B C D : Nat → Int32} (hpl : zPl h A B C D) {u1 u2 u3 u4 : Int32} : PW G M_Rock_addPoint (zroom 2 0 0) false (fun r h' => r = .inl none ∧ zPp h' (zadp kn sx sy sz A B C D u1 u2 u3 u4 S) ∧ zsm [36, 37, 38, 39, 40, 41, 42] h h') 0 (zentry 7 [.ref 34, .int u1, .int u2, .int u3, .int u4]) [] h 0 0 := by
  refine pw_mono ?_ (c_addPoint hp hS hr hpl)
  rintro r h' ⟨e1, e2, e3⟩
  refine ⟨e1, ?_⟩
  unfold zadp
  by_cases hc : ((0 ≤ u1 ∧ u1 ≤ sx * u4 ∧ 0 ≤ u2 ∧ u2 ≤ sy * u4 ∧ 0 ≤ u3 ∧ u3 ≤ sz * u4) ∧ ¬ (zgcd 64 (zgcd 64 u1 u2) (zgcd 64 u3 u4)) = 0 ∧ ¬ (∃ p, p < S.1 ∧ S.2.1 p = u1 / (zgcd 64 (zgcd 64 u1 u2) (zgcd 64 u3 u4)) ∧ S.2.2.1 p = u2 / (zgcd 64 (zgcd 64 u1 u2) (zgcd 64 u3 u4)) ∧ S.2.2.2.1 p = u3 / (zgcd 64 (zgcd 64 u1 u2) (zgcd 64 u3 u4)) ∧ S.2.2.2.2.1 p = u4 / (zgcd 64 (zgcd 64 u1 u2) (zgcd 64 u3 u4))))
  · rw [if_pos hc]
    exact e3 hc
  · rw [if_neg hc]
    have e4 : h' = h := e2 (by
      by_cases h1 : (0 ≤ u1 ∧ u1 ≤ sx * u4 ∧ 0 ≤ u2 ∧ u2 ≤ sy * u4 ∧ 0 ≤ u3 ∧ u3 ≤ sz * u4)
      · by_cases h2 : (zgcd 64 (zgcd 64 u1 u2) (zgcd 64 u3 u4)) = 0
        · exact Or.inr (Or.inl h2)
        · refine Or.inr (Or.inr ?_)
          by_cases h3 : (∃ p, p < S.1 ∧ S.2.1 p = u1 / (zgcd 64 (zgcd 64 u1 u2) (zgcd 64 u3 u4)) ∧ S.2.2.1 p = u2 / (zgcd 64 (zgcd 64 u1 u2) (zgcd 64 u3 u4)) ∧ S.2.2.2.1 p = u3 / (zgcd 64 (zgcd 64 u1 u2) (zgcd 64 u3 u4)) ∧ S.2.2.2.2.1 p = u4 / (zgcd 64 (zgcd 64 u1 u2) (zgcd 64 u3 u4)))
          · exact h3
          · exact absurd ⟨h1, h2, h3⟩ hc
      · exact Or.inl h1)
    subst e4
    exact ⟨hp, zsm_rf⟩
theorem zCS_no : ∀ j, 36 ≤ j → j ≤ 42 → j ∉ [49, 50, 51] := by intro j h1 h2; simp only [List.mem_cons, List.not_mem_nil, or_false]; omega
theorem zCS_n2 : ∀ j, j < 49 → j ∉ [49, 50, 51] := by intro j h1; simp only [List.mem_cons, List.not_mem_nil, or_false]; omega
theorem zCS_n3 : ∀ j, j < 49 ∨ 51 < j → j ∉ [49, 50, 51] := by intro j h1; simp only [List.mem_cons, List.not_mem_nil, or_false]; omega
theorem zRk_s3 {S : List Nat} {h0 h : zH} {jc bc : Nat} {sx sy sz kn : Int32} {sd fc cc nu pb so : Nat → Int32} (hz : zsm S h0 h) (hS : ∀ j, j < 49 → j ∉ S) (hr : zRk h0 jc bc sx sy sz kn sd fc cc nu pb so) : zRk h jc bc sx sy sz kn sd fc cc nu pb so :=
  ⟨zsm_at hz (hS _ (by omega)) hr.1, zsm_at hz (hS _ (by omega)) hr.2.1, zsm_at hz (hS _ (by omega)) hr.2.2.1, zsm_at hz (hS _ (by omega)) hr.2.2.2.1, zsm_at hz (hS _ (by omega)) hr.2.2.2.2.1, zsm_at hz (hS _ (by omega)) hr.2.2.2.2.2.1, zsm_at hz (hS _ (by omega)) hr.2.2.2.2.2.2⟩
theorem zPl_s3 {S : List Nat} {h0 h : zH} {A B C D : Nat → Int32} (hz : zsm S h0 h) (hS : ∀ j, j < 49 ∨ 51 < j → j ∉ S) (hpl : zPl h0 A B C D) : zPl h A B C D :=
  ⟨zsm_at hz (hS _ (by omega)) hpl.1, fun j hj => zsm_at hz (hS _ (by omega)) (hpl.2.1 j hj), fun j hj => zsm_at hz (hS _ (by omega)) (hpl.2.2 j hj)⟩
/-- the three crosses, whatever they hold -/
def zCr (h : zH) : Prop := (∃ a b c, zAr h 49 a b c) ∧ (∃ a b c, zAr h 50 a b c) ∧ ∃ a b c, zAr h 51 a b c
set_option maxRecDepth 20000 in
set_option maxHeartbeats 2000000 in
theorem c_meet {G : zG} {h : zH} {S : zPS} (hp : zPp h S) (hS : S.1 < 220) {jc bc : Nat} {sx sy sz kn : Int32} {sd fc cc nu pb so : Nat → Int32} (hr : zRk h jc bc sx sy sz kn sd fc cc nu pb so) {A B C D : Nat → Int32} (hpl : zPl h A B C D) {f g i : Nat} (hf : f < 12) (hg : g < 12) (hi : i < 12) {e1 e2 e3 k1 k2 k3 m1 m2 m3 : Int32} (h49 : zAr h 49 e1 e2 e3) (h50 : zAr h 50 k1 k2 k3) (h51 : zAr h 51 m1 m2 m3) : PW G M_Rock_meet (zroom 3 0 0) false (fun r h' => r = .inl none ∧ zPp h' (zmt kn sx sy sz A B C D f g i S) ∧ zCr h' ∧ zsm [36, 37, 38, 39, 40, 41, 42, 49, 50, 51] h h') 0 (zentry 9 [.ref 34, .ref (52 + 2 * f), .ref (52 + 2 * g), .ref (52 + 2 * i)]) [] h 0 0 := by
  show PW G M_Rock_meet (zroom 3 0 0) false _ 0 [some (.ref 34), some (.ref (52 + 2 * f)), some (.ref (52 + 2 * g)), some (.ref (52 + 2 * i)), none, none, none, none, none] [] h 0 0
  refine pw_aload_n d_Rock_meet_0 rfl rfl ?_
  refine pw_get d_Rock_meet_1 fl_Rock_53 hr.1 rfl ?_
  refine pw_aload_n d_Rock_meet_4 rfl rfl ?_
  refine pw_get d_Rock_meet_5 fl_Rock_135 (hpl.2.1 g hg) rfl ?_
  refine pw_aload_n d_Rock_meet_8 rfl rfl ?_
  refine pw_get d_Rock_meet_9 fl_Rock_135 (hpl.2.1 i hi) rfl ?_
  obtain ⟨h_1, eh_1⟩ : ∃ x_9, x_9 = List.set h (49) (.inr (0, [.int ((B g * C i - C g * B i)), .int ((C g * A i - A g * C i)), .int ((A g * B i - B g * A i))])) := ⟨_, rfl⟩
  refine pw_callV0 (R' := (zroom 1 0 0)) (h2 := h_1) [.ref (53 + 2 * g), .ref (53 + 2 * i)] (fun q => nomatch q) d_Rock_meet_12 lk_Rock_138 h49 rfl rfl rfl (c_Arrow_setCross h49 (hpl.2.2 g hg) (hpl.2.2 i hi) eh_1) ?_
  refine pw_aload_n d_Rock_meet_15 rfl rfl ?_
  refine pw_get d_Rock_meet_16 fl_Rock_57 (zg_ne eh_1 (by decide) hr.1) rfl ?_
  refine pw_aload_n d_Rock_meet_19 rfl rfl ?_
  refine pw_get d_Rock_meet_20 fl_Rock_135 (zg_ne eh_1 (by omega) (hpl.2.1 i hi)) rfl ?_
  refine pw_aload_n d_Rock_meet_23 rfl rfl ?_
  refine pw_get d_Rock_meet_24 fl_Rock_135 (zg_ne eh_1 (by omega) (hpl.2.1 f hf)) rfl ?_
  obtain ⟨h_2, eh_2⟩ : ∃ x_9, x_9 = List.set h_1 (50) (.inr (0, [.int ((B i * C f - C i * B f)), .int ((C i * A f - A i * C f)), .int ((A i * B f - B i * A f))])) := ⟨_, rfl⟩
  refine pw_callV0 (R' := (zroom 1 0 0)) (h2 := h_2) [.ref (53 + 2 * i), .ref (53 + 2 * f)] (fun q => nomatch q) d_Rock_meet_27 lk_Rock_138 (zg_ne eh_1 (by decide) h50) rfl rfl rfl (c_Arrow_setCross (zg_ne eh_1 (by decide) h50) (zg_ne eh_1 (by omega) (hpl.2.2 i hi)) (zg_ne eh_1 (by omega) (hpl.2.2 f hf)) eh_2) ?_
  refine pw_aload_n d_Rock_meet_30 rfl rfl ?_
  refine pw_get d_Rock_meet_31 fl_Rock_60 (zg_ne eh_2 (by decide) (zg_ne eh_1 (by decide) hr.1)) rfl ?_
  refine pw_aload_n d_Rock_meet_34 rfl rfl ?_
  refine pw_get d_Rock_meet_35 fl_Rock_135 (zg_ne eh_2 (by omega) (zg_ne eh_1 (by omega) (hpl.2.1 f hf))) rfl ?_
  refine pw_aload_n d_Rock_meet_38 rfl rfl ?_
  refine pw_get d_Rock_meet_39 fl_Rock_135 (zg_ne eh_2 (by omega) (zg_ne eh_1 (by omega) (hpl.2.1 g hg))) rfl ?_
  obtain ⟨h_3, eh_3⟩ : ∃ x_9, x_9 = List.set h_2 (51) (.inr (0, [.int ((B f * C g - C f * B g)), .int ((C f * A g - A f * C g)), .int ((A f * B g - B f * A g))])) := ⟨_, rfl⟩
  refine pw_callV0 (R' := (zroom 1 0 0)) (h2 := h_3) [.ref (53 + 2 * f), .ref (53 + 2 * g)] (fun q => nomatch q) d_Rock_meet_42 lk_Rock_138 (zg_ne eh_2 (by decide) (zg_ne eh_1 (by decide) h51)) rfl rfl rfl (c_Arrow_setCross (zg_ne eh_2 (by decide) (zg_ne eh_1 (by decide) h51)) (zg_ne eh_2 (by omega) (zg_ne eh_1 (by omega) (hpl.2.2 f hf))) (zg_ne eh_2 (by omega) (zg_ne eh_1 (by omega) (hpl.2.2 g hg))) eh_3) ?_
  refine pw_aload_n d_Rock_meet_45 rfl rfl ?_
  refine pw_get d_Rock_meet_46 fl_Rock_135 (zg_ne eh_3 (by omega) (zg_ne eh_2 (by omega) (zg_ne eh_1 (by omega) (hpl.2.1 f hf)))) rfl ?_
  refine pw_aload_n d_Rock_meet_49 rfl rfl ?_
  refine pw_get d_Rock_meet_50 fl_Rock_53 (zg_ne eh_3 (by decide) (zg_ne eh_2 (by decide) (zg_ne eh_1 (by decide) hr.1))) rfl ?_
  refine pw_callV1 (R' := (zroom 0 0 0)) (h2 := h_3) [.ref 49] (fun q => nomatch q) d_Rock_meet_53 lk_Rock_142 (zg_ne eh_3 (by omega) (zg_ne eh_2 (by omega) (zg_ne eh_1 (by omega) (hpl.2.2 f hf)))) rfl rfl rfl (c_Arrow_times (zg_ne eh_3 (by omega) (zg_ne eh_2 (by omega) (zg_ne eh_1 (by omega) (hpl.2.2 f hf)))) (zg_ne eh_3 (by decide) (zg_ne eh_2 (by decide) (zg_eq eh_1 h49)))) ?_
  refine pw_istore d_Rock_meet_56 (by decide) (pl' := [some (.ref 34), some (.ref (52 + 2 * f)), some (.ref (52 + 2 * g)), some (.ref (52 + 2 * i)), some (.int ((A f * ((B g * C i - C g * B i)) + B f * ((C g * A i - A g * C i)) + C f * ((A g * B i - B g * A i))))), none, none, none, none]) rfl ?_
  refine pw_iload d_Rock_meet_58 rfl ?_
  refine pw_if_ne 64 d_Rock_meet_60 (by decide) (fun q_z => ?_) (fun q_z => ?_)
  · refine pw_iload d_Rock_meet_64 rfl ?_
    refine pw_if_le 73 d_Rock_meet_66 (by decide) (fun q_s => ?_) (fun q_s => ?_)
    · refine pw_iconst (x := (-1)) d_Rock_meet_73 (by decide) ?_
      refine pw_istore d_Rock_meet_74 (by decide) (pl' := [some (.ref 34), some (.ref (52 + 2 * f)), some (.ref (52 + 2 * g)), some (.ref (52 + 2 * i)), some (.int ((A f * ((B g * C i - C g * B i)) + B f * ((C g * A i - A g * C i)) + C f * ((A g * B i - B g * A i))))), some (.int ((-1))), none, none, none]) rfl ?_
      refine pw_aload_n d_Rock_meet_76 rfl rfl ?_
      refine pw_get d_Rock_meet_77 fl_Rock_146 (zg_ne eh_3 (by omega) (zg_ne eh_2 (by omega) (zg_ne eh_1 (by omega) (hpl.2.1 f hf)))) rfl ?_
      refine pw_aload_n d_Rock_meet_80 rfl rfl ?_
      refine pw_get d_Rock_meet_81 fl_Rock_53 (zg_ne eh_3 (by decide) (zg_ne eh_2 (by decide) (zg_ne eh_1 (by decide) hr.1))) rfl ?_
      refine pw_get d_Rock_meet_84 fl_Rock_149 (zg_ne eh_3 (by decide) (zg_ne eh_2 (by decide) (zg_eq eh_1 h49))) rfl ?_
      refine pw_imul d_Rock_meet_87 ?_
      refine pw_aload_n d_Rock_meet_88 rfl rfl ?_
      refine pw_get d_Rock_meet_89 fl_Rock_146 (zg_ne eh_3 (by omega) (zg_ne eh_2 (by omega) (zg_ne eh_1 (by omega) (hpl.2.1 g hg)))) rfl ?_
      refine pw_aload_n d_Rock_meet_92 rfl rfl ?_
      refine pw_get d_Rock_meet_93 fl_Rock_57 (zg_ne eh_3 (by decide) (zg_ne eh_2 (by decide) (zg_ne eh_1 (by decide) hr.1))) rfl ?_
      refine pw_get d_Rock_meet_96 fl_Rock_149 (zg_ne eh_3 (by decide) (zg_eq eh_2 (zg_ne eh_1 (by decide) h50))) rfl ?_
      refine pw_imul d_Rock_meet_99 ?_
      refine pw_iadd d_Rock_meet_100 ?_
      refine pw_aload_n d_Rock_meet_101 rfl rfl ?_
      refine pw_get d_Rock_meet_102 fl_Rock_146 (zg_ne eh_3 (by omega) (zg_ne eh_2 (by omega) (zg_ne eh_1 (by omega) (hpl.2.1 i hi)))) rfl ?_
      refine pw_aload_n d_Rock_meet_105 rfl rfl ?_
      refine pw_get d_Rock_meet_106 fl_Rock_60 (zg_ne eh_3 (by decide) (zg_ne eh_2 (by decide) (zg_ne eh_1 (by decide) hr.1))) rfl ?_
      refine pw_get d_Rock_meet_109 fl_Rock_149 (zg_eq eh_3 (zg_ne eh_2 (by decide) (zg_ne eh_1 (by decide) h51))) rfl ?_
      refine pw_imul d_Rock_meet_112 ?_
      refine pw_iadd d_Rock_meet_113 ?_
      refine pw_istore d_Rock_meet_114 (by decide) (pl' := [some (.ref 34), some (.ref (52 + 2 * f)), some (.ref (52 + 2 * g)), some (.ref (52 + 2 * i)), some (.int ((A f * ((B g * C i - C g * B i)) + B f * ((C g * A i - A g * C i)) + C f * ((A g * B i - B g * A i))))), some (.int ((-1))), some (.int ((((D f * (B g * C i - C g * B i)) + (D g * (B i * C f - C i * B f))) + (D i * (B f * C g - C f * B g))))), none, none]) rfl ?_
      refine pw_aload_n d_Rock_meet_116 rfl rfl ?_
      refine pw_get d_Rock_meet_117 fl_Rock_146 (zg_ne eh_3 (by omega) (zg_ne eh_2 (by omega) (zg_ne eh_1 (by omega) (hpl.2.1 f hf)))) rfl ?_
      refine pw_aload_n d_Rock_meet_120 rfl rfl ?_
      refine pw_get d_Rock_meet_121 fl_Rock_53 (zg_ne eh_3 (by decide) (zg_ne eh_2 (by decide) (zg_ne eh_1 (by decide) hr.1))) rfl ?_
      refine pw_get d_Rock_meet_124 fl_Rock_152 (zg_ne eh_3 (by decide) (zg_ne eh_2 (by decide) (zg_eq eh_1 h49))) rfl ?_
      refine pw_imul d_Rock_meet_127 ?_
      refine pw_aload_n d_Rock_meet_128 rfl rfl ?_
      refine pw_get d_Rock_meet_129 fl_Rock_146 (zg_ne eh_3 (by omega) (zg_ne eh_2 (by omega) (zg_ne eh_1 (by omega) (hpl.2.1 g hg)))) rfl ?_
      refine pw_aload_n d_Rock_meet_132 rfl rfl ?_
      refine pw_get d_Rock_meet_133 fl_Rock_57 (zg_ne eh_3 (by decide) (zg_ne eh_2 (by decide) (zg_ne eh_1 (by decide) hr.1))) rfl ?_
      refine pw_get d_Rock_meet_136 fl_Rock_152 (zg_ne eh_3 (by decide) (zg_eq eh_2 (zg_ne eh_1 (by decide) h50))) rfl ?_
      refine pw_imul d_Rock_meet_139 ?_
      refine pw_iadd d_Rock_meet_140 ?_
      refine pw_aload_n d_Rock_meet_141 rfl rfl ?_
      refine pw_get d_Rock_meet_142 fl_Rock_146 (zg_ne eh_3 (by omega) (zg_ne eh_2 (by omega) (zg_ne eh_1 (by omega) (hpl.2.1 i hi)))) rfl ?_
      refine pw_aload_n d_Rock_meet_145 rfl rfl ?_
      refine pw_get d_Rock_meet_146 fl_Rock_60 (zg_ne eh_3 (by decide) (zg_ne eh_2 (by decide) (zg_ne eh_1 (by decide) hr.1))) rfl ?_
      refine pw_get d_Rock_meet_149 fl_Rock_152 (zg_eq eh_3 (zg_ne eh_2 (by decide) (zg_ne eh_1 (by decide) h51))) rfl ?_
      refine pw_imul d_Rock_meet_152 ?_
      refine pw_iadd d_Rock_meet_153 ?_
      refine pw_istore d_Rock_meet_154 (by decide) (pl' := [some (.ref 34), some (.ref (52 + 2 * f)), some (.ref (52 + 2 * g)), some (.ref (52 + 2 * i)), some (.int ((A f * ((B g * C i - C g * B i)) + B f * ((C g * A i - A g * C i)) + C f * ((A g * B i - B g * A i))))), some (.int ((-1))), some (.int ((((D f * (B g * C i - C g * B i)) + (D g * (B i * C f - C i * B f))) + (D i * (B f * C g - C f * B g))))), some (.int ((((D f * (C g * A i - A g * C i)) + (D g * (C i * A f - A i * C f))) + (D i * (C f * A g - A f * C g))))), none]) rfl ?_
      refine pw_aload_n d_Rock_meet_156 rfl rfl ?_
      refine pw_get d_Rock_meet_157 fl_Rock_146 (zg_ne eh_3 (by omega) (zg_ne eh_2 (by omega) (zg_ne eh_1 (by omega) (hpl.2.1 f hf)))) rfl ?_
      refine pw_aload_n d_Rock_meet_160 rfl rfl ?_
      refine pw_get d_Rock_meet_161 fl_Rock_53 (zg_ne eh_3 (by decide) (zg_ne eh_2 (by decide) (zg_ne eh_1 (by decide) hr.1))) rfl ?_
      refine pw_get d_Rock_meet_164 fl_Rock_155 (zg_ne eh_3 (by decide) (zg_ne eh_2 (by decide) (zg_eq eh_1 h49))) rfl ?_
      refine pw_imul d_Rock_meet_167 ?_
      refine pw_aload_n d_Rock_meet_168 rfl rfl ?_
      refine pw_get d_Rock_meet_169 fl_Rock_146 (zg_ne eh_3 (by omega) (zg_ne eh_2 (by omega) (zg_ne eh_1 (by omega) (hpl.2.1 g hg)))) rfl ?_
      refine pw_aload_n d_Rock_meet_172 rfl rfl ?_
      refine pw_get d_Rock_meet_173 fl_Rock_57 (zg_ne eh_3 (by decide) (zg_ne eh_2 (by decide) (zg_ne eh_1 (by decide) hr.1))) rfl ?_
      refine pw_get d_Rock_meet_176 fl_Rock_155 (zg_ne eh_3 (by decide) (zg_eq eh_2 (zg_ne eh_1 (by decide) h50))) rfl ?_
      refine pw_imul d_Rock_meet_179 ?_
      refine pw_iadd d_Rock_meet_180 ?_
      refine pw_aload_n d_Rock_meet_181 rfl rfl ?_
      refine pw_get d_Rock_meet_182 fl_Rock_146 (zg_ne eh_3 (by omega) (zg_ne eh_2 (by omega) (zg_ne eh_1 (by omega) (hpl.2.1 i hi)))) rfl ?_
      refine pw_aload_n d_Rock_meet_185 rfl rfl ?_
      refine pw_get d_Rock_meet_186 fl_Rock_60 (zg_ne eh_3 (by decide) (zg_ne eh_2 (by decide) (zg_ne eh_1 (by decide) hr.1))) rfl ?_
      refine pw_get d_Rock_meet_189 fl_Rock_155 (zg_eq eh_3 (zg_ne eh_2 (by decide) (zg_ne eh_1 (by decide) h51))) rfl ?_
      refine pw_imul d_Rock_meet_192 ?_
      refine pw_iadd d_Rock_meet_193 ?_
      refine pw_istore d_Rock_meet_194 (by decide) (pl' := [some (.ref 34), some (.ref (52 + 2 * f)), some (.ref (52 + 2 * g)), some (.ref (52 + 2 * i)), some (.int ((A f * ((B g * C i - C g * B i)) + B f * ((C g * A i - A g * C i)) + C f * ((A g * B i - B g * A i))))), some (.int ((-1))), some (.int ((((D f * (B g * C i - C g * B i)) + (D g * (B i * C f - C i * B f))) + (D i * (B f * C g - C f * B g))))), some (.int ((((D f * (C g * A i - A g * C i)) + (D g * (C i * A f - A i * C f))) + (D i * (C f * A g - A f * C g))))), some (.int ((((D f * (A g * B i - B g * A i)) + (D g * (A i * B f - B i * A f))) + (D i * (A f * B g - B f * A g)))))]) rfl ?_
      refine pw_aload_n d_Rock_meet_196 rfl rfl ?_
      refine pw_iload d_Rock_meet_197 rfl ?_
      refine pw_iload d_Rock_meet_199 rfl ?_
      refine pw_imul d_Rock_meet_201 ?_
      refine pw_iload d_Rock_meet_202 rfl ?_
      refine pw_iload d_Rock_meet_204 rfl ?_
      refine pw_imul d_Rock_meet_206 ?_
      refine pw_iload d_Rock_meet_207 rfl ?_
      refine pw_iload d_Rock_meet_209 rfl ?_
      refine pw_imul d_Rock_meet_211 ?_
      refine pw_iload d_Rock_meet_212 rfl ?_
      refine pw_iload d_Rock_meet_214 rfl ?_
      refine pw_imul d_Rock_meet_216 ?_
      have hz : zsm [49, 50, 51] h h_3 := (zsm_st (zsm_st (zsm_st zsm_rf eh_1 (by decide)) eh_2 (by decide)) eh_3 (by decide))
      refine pw_callVu (R' := (zroom 2 0 0)) [.int (((-1) * (((D f * (B g * C i - C g * B i)) + (D g * (B i * C f - C i * B f))) + (D i * (B f * C g - C f * B g))))), .int (((-1) * (((D f * (C g * A i - A g * C i)) + (D g * (C i * A f - A i * C f))) + (D i * (C f * A g - A f * C g))))), .int (((-1) * (((D f * (A g * B i - B g * A i)) + (D g * (A i * B f - B i * A f))) + (D i * (A f * B g - B f * A g))))), .int (((-1) * (A f * ((B g * C i - C g * B i)) + B f * ((C g * A i - A g * C i)) + C f * ((A g * B i - B g * A i)))))] (fun q => nomatch q) d_Rock_meet_217 lk_Rock_158 (zg_ne eh_3 (by decide) (zg_ne eh_2 (by decide) (zg_ne eh_1 (by decide) hr.1))) rfl rfl rfl (c_addPt (zPt_sm hz zCS_no hp) hS (zRk_s3 hz zCS_n2 hr) (zPl_s3 hz zCS_n3 hpl)) (fun h9 hh => ?_)
      refine pw_return d_Rock_meet_220 rfl (by decide) (by decide) ?_
      refine ⟨rfl, ?_, ?_, zsm_tr (zsm_tr zsm_rf hz (by decide)) hh.2 (by decide)⟩
      · unfold zmt
        rw [if_neg q_z, if_neg (zlt.mpr q_s)]
        exact hh.1
      · exact ⟨⟨_, _, _, zsm_at hh.2 (by decide) (zg_ne eh_3 (by decide) (zg_ne eh_2 (by decide) (zg_eq eh_1 h49)))⟩, ⟨_, _, _, zsm_at hh.2 (by decide) (zg_ne eh_3 (by decide) (zg_eq eh_2 (zg_ne eh_1 (by decide) h50)))⟩, ⟨_, _, _, zsm_at hh.2 (by decide) (zg_eq eh_3 (zg_ne eh_2 (by decide) (zg_ne eh_1 (by decide) h51)))⟩⟩
    · refine pw_iconst (x := 1) d_Rock_meet_69 (by decide) ?_
      refine pw_goto 74 d_Rock_meet_70 (by decide) ?_
      refine pw_istore d_Rock_meet_74 (by decide) (pl' := [some (.ref 34), some (.ref (52 + 2 * f)), some (.ref (52 + 2 * g)), some (.ref (52 + 2 * i)), some (.int ((A f * ((B g * C i - C g * B i)) + B f * ((C g * A i - A g * C i)) + C f * ((A g * B i - B g * A i))))), some (.int (1)), none, none, none]) rfl ?_
      refine pw_aload_n d_Rock_meet_76 rfl rfl ?_
      refine pw_get d_Rock_meet_77 fl_Rock_146 (zg_ne eh_3 (by omega) (zg_ne eh_2 (by omega) (zg_ne eh_1 (by omega) (hpl.2.1 f hf)))) rfl ?_
      refine pw_aload_n d_Rock_meet_80 rfl rfl ?_
      refine pw_get d_Rock_meet_81 fl_Rock_53 (zg_ne eh_3 (by decide) (zg_ne eh_2 (by decide) (zg_ne eh_1 (by decide) hr.1))) rfl ?_
      refine pw_get d_Rock_meet_84 fl_Rock_149 (zg_ne eh_3 (by decide) (zg_ne eh_2 (by decide) (zg_eq eh_1 h49))) rfl ?_
      refine pw_imul d_Rock_meet_87 ?_
      refine pw_aload_n d_Rock_meet_88 rfl rfl ?_
      refine pw_get d_Rock_meet_89 fl_Rock_146 (zg_ne eh_3 (by omega) (zg_ne eh_2 (by omega) (zg_ne eh_1 (by omega) (hpl.2.1 g hg)))) rfl ?_
      refine pw_aload_n d_Rock_meet_92 rfl rfl ?_
      refine pw_get d_Rock_meet_93 fl_Rock_57 (zg_ne eh_3 (by decide) (zg_ne eh_2 (by decide) (zg_ne eh_1 (by decide) hr.1))) rfl ?_
      refine pw_get d_Rock_meet_96 fl_Rock_149 (zg_ne eh_3 (by decide) (zg_eq eh_2 (zg_ne eh_1 (by decide) h50))) rfl ?_
      refine pw_imul d_Rock_meet_99 ?_
      refine pw_iadd d_Rock_meet_100 ?_
      refine pw_aload_n d_Rock_meet_101 rfl rfl ?_
      refine pw_get d_Rock_meet_102 fl_Rock_146 (zg_ne eh_3 (by omega) (zg_ne eh_2 (by omega) (zg_ne eh_1 (by omega) (hpl.2.1 i hi)))) rfl ?_
      refine pw_aload_n d_Rock_meet_105 rfl rfl ?_
      refine pw_get d_Rock_meet_106 fl_Rock_60 (zg_ne eh_3 (by decide) (zg_ne eh_2 (by decide) (zg_ne eh_1 (by decide) hr.1))) rfl ?_
      refine pw_get d_Rock_meet_109 fl_Rock_149 (zg_eq eh_3 (zg_ne eh_2 (by decide) (zg_ne eh_1 (by decide) h51))) rfl ?_
      refine pw_imul d_Rock_meet_112 ?_
      refine pw_iadd d_Rock_meet_113 ?_
      refine pw_istore d_Rock_meet_114 (by decide) (pl' := [some (.ref 34), some (.ref (52 + 2 * f)), some (.ref (52 + 2 * g)), some (.ref (52 + 2 * i)), some (.int ((A f * ((B g * C i - C g * B i)) + B f * ((C g * A i - A g * C i)) + C f * ((A g * B i - B g * A i))))), some (.int (1)), some (.int ((((D f * (B g * C i - C g * B i)) + (D g * (B i * C f - C i * B f))) + (D i * (B f * C g - C f * B g))))), none, none]) rfl ?_
      refine pw_aload_n d_Rock_meet_116 rfl rfl ?_
      refine pw_get d_Rock_meet_117 fl_Rock_146 (zg_ne eh_3 (by omega) (zg_ne eh_2 (by omega) (zg_ne eh_1 (by omega) (hpl.2.1 f hf)))) rfl ?_
      refine pw_aload_n d_Rock_meet_120 rfl rfl ?_
      refine pw_get d_Rock_meet_121 fl_Rock_53 (zg_ne eh_3 (by decide) (zg_ne eh_2 (by decide) (zg_ne eh_1 (by decide) hr.1))) rfl ?_
      refine pw_get d_Rock_meet_124 fl_Rock_152 (zg_ne eh_3 (by decide) (zg_ne eh_2 (by decide) (zg_eq eh_1 h49))) rfl ?_
      refine pw_imul d_Rock_meet_127 ?_
      refine pw_aload_n d_Rock_meet_128 rfl rfl ?_
      refine pw_get d_Rock_meet_129 fl_Rock_146 (zg_ne eh_3 (by omega) (zg_ne eh_2 (by omega) (zg_ne eh_1 (by omega) (hpl.2.1 g hg)))) rfl ?_
      refine pw_aload_n d_Rock_meet_132 rfl rfl ?_
      refine pw_get d_Rock_meet_133 fl_Rock_57 (zg_ne eh_3 (by decide) (zg_ne eh_2 (by decide) (zg_ne eh_1 (by decide) hr.1))) rfl ?_
      refine pw_get d_Rock_meet_136 fl_Rock_152 (zg_ne eh_3 (by decide) (zg_eq eh_2 (zg_ne eh_1 (by decide) h50))) rfl ?_
      refine pw_imul d_Rock_meet_139 ?_
      refine pw_iadd d_Rock_meet_140 ?_
      refine pw_aload_n d_Rock_meet_141 rfl rfl ?_
      refine pw_get d_Rock_meet_142 fl_Rock_146 (zg_ne eh_3 (by omega) (zg_ne eh_2 (by omega) (zg_ne eh_1 (by omega) (hpl.2.1 i hi)))) rfl ?_
      refine pw_aload_n d_Rock_meet_145 rfl rfl ?_
      refine pw_get d_Rock_meet_146 fl_Rock_60 (zg_ne eh_3 (by decide) (zg_ne eh_2 (by decide) (zg_ne eh_1 (by decide) hr.1))) rfl ?_
      refine pw_get d_Rock_meet_149 fl_Rock_152 (zg_eq eh_3 (zg_ne eh_2 (by decide) (zg_ne eh_1 (by decide) h51))) rfl ?_
      refine pw_imul d_Rock_meet_152 ?_
      refine pw_iadd d_Rock_meet_153 ?_
      refine pw_istore d_Rock_meet_154 (by decide) (pl' := [some (.ref 34), some (.ref (52 + 2 * f)), some (.ref (52 + 2 * g)), some (.ref (52 + 2 * i)), some (.int ((A f * ((B g * C i - C g * B i)) + B f * ((C g * A i - A g * C i)) + C f * ((A g * B i - B g * A i))))), some (.int (1)), some (.int ((((D f * (B g * C i - C g * B i)) + (D g * (B i * C f - C i * B f))) + (D i * (B f * C g - C f * B g))))), some (.int ((((D f * (C g * A i - A g * C i)) + (D g * (C i * A f - A i * C f))) + (D i * (C f * A g - A f * C g))))), none]) rfl ?_
      refine pw_aload_n d_Rock_meet_156 rfl rfl ?_
      refine pw_get d_Rock_meet_157 fl_Rock_146 (zg_ne eh_3 (by omega) (zg_ne eh_2 (by omega) (zg_ne eh_1 (by omega) (hpl.2.1 f hf)))) rfl ?_
      refine pw_aload_n d_Rock_meet_160 rfl rfl ?_
      refine pw_get d_Rock_meet_161 fl_Rock_53 (zg_ne eh_3 (by decide) (zg_ne eh_2 (by decide) (zg_ne eh_1 (by decide) hr.1))) rfl ?_
      refine pw_get d_Rock_meet_164 fl_Rock_155 (zg_ne eh_3 (by decide) (zg_ne eh_2 (by decide) (zg_eq eh_1 h49))) rfl ?_
      refine pw_imul d_Rock_meet_167 ?_
      refine pw_aload_n d_Rock_meet_168 rfl rfl ?_
      refine pw_get d_Rock_meet_169 fl_Rock_146 (zg_ne eh_3 (by omega) (zg_ne eh_2 (by omega) (zg_ne eh_1 (by omega) (hpl.2.1 g hg)))) rfl ?_
      refine pw_aload_n d_Rock_meet_172 rfl rfl ?_
      refine pw_get d_Rock_meet_173 fl_Rock_57 (zg_ne eh_3 (by decide) (zg_ne eh_2 (by decide) (zg_ne eh_1 (by decide) hr.1))) rfl ?_
      refine pw_get d_Rock_meet_176 fl_Rock_155 (zg_ne eh_3 (by decide) (zg_eq eh_2 (zg_ne eh_1 (by decide) h50))) rfl ?_
      refine pw_imul d_Rock_meet_179 ?_
      refine pw_iadd d_Rock_meet_180 ?_
      refine pw_aload_n d_Rock_meet_181 rfl rfl ?_
      refine pw_get d_Rock_meet_182 fl_Rock_146 (zg_ne eh_3 (by omega) (zg_ne eh_2 (by omega) (zg_ne eh_1 (by omega) (hpl.2.1 i hi)))) rfl ?_
      refine pw_aload_n d_Rock_meet_185 rfl rfl ?_
      refine pw_get d_Rock_meet_186 fl_Rock_60 (zg_ne eh_3 (by decide) (zg_ne eh_2 (by decide) (zg_ne eh_1 (by decide) hr.1))) rfl ?_
      refine pw_get d_Rock_meet_189 fl_Rock_155 (zg_eq eh_3 (zg_ne eh_2 (by decide) (zg_ne eh_1 (by decide) h51))) rfl ?_
      refine pw_imul d_Rock_meet_192 ?_
      refine pw_iadd d_Rock_meet_193 ?_
      refine pw_istore d_Rock_meet_194 (by decide) (pl' := [some (.ref 34), some (.ref (52 + 2 * f)), some (.ref (52 + 2 * g)), some (.ref (52 + 2 * i)), some (.int ((A f * ((B g * C i - C g * B i)) + B f * ((C g * A i - A g * C i)) + C f * ((A g * B i - B g * A i))))), some (.int (1)), some (.int ((((D f * (B g * C i - C g * B i)) + (D g * (B i * C f - C i * B f))) + (D i * (B f * C g - C f * B g))))), some (.int ((((D f * (C g * A i - A g * C i)) + (D g * (C i * A f - A i * C f))) + (D i * (C f * A g - A f * C g))))), some (.int ((((D f * (A g * B i - B g * A i)) + (D g * (A i * B f - B i * A f))) + (D i * (A f * B g - B f * A g)))))]) rfl ?_
      refine pw_aload_n d_Rock_meet_196 rfl rfl ?_
      refine pw_iload d_Rock_meet_197 rfl ?_
      refine pw_iload d_Rock_meet_199 rfl ?_
      refine pw_imul d_Rock_meet_201 ?_
      refine pw_iload d_Rock_meet_202 rfl ?_
      refine pw_iload d_Rock_meet_204 rfl ?_
      refine pw_imul d_Rock_meet_206 ?_
      refine pw_iload d_Rock_meet_207 rfl ?_
      refine pw_iload d_Rock_meet_209 rfl ?_
      refine pw_imul d_Rock_meet_211 ?_
      refine pw_iload d_Rock_meet_212 rfl ?_
      refine pw_iload d_Rock_meet_214 rfl ?_
      refine pw_imul d_Rock_meet_216 ?_
      have hz : zsm [49, 50, 51] h h_3 := (zsm_st (zsm_st (zsm_st zsm_rf eh_1 (by decide)) eh_2 (by decide)) eh_3 (by decide))
      refine pw_callVu (R' := (zroom 2 0 0)) [.int ((1 * (((D f * (B g * C i - C g * B i)) + (D g * (B i * C f - C i * B f))) + (D i * (B f * C g - C f * B g))))), .int ((1 * (((D f * (C g * A i - A g * C i)) + (D g * (C i * A f - A i * C f))) + (D i * (C f * A g - A f * C g))))), .int ((1 * (((D f * (A g * B i - B g * A i)) + (D g * (A i * B f - B i * A f))) + (D i * (A f * B g - B f * A g))))), .int ((1 * (A f * ((B g * C i - C g * B i)) + B f * ((C g * A i - A g * C i)) + C f * ((A g * B i - B g * A i)))))] (fun q => nomatch q) d_Rock_meet_217 lk_Rock_158 (zg_ne eh_3 (by decide) (zg_ne eh_2 (by decide) (zg_ne eh_1 (by decide) hr.1))) rfl rfl rfl (c_addPt (zPt_sm hz zCS_no hp) hS (zRk_s3 hz zCS_n2 hr) (zPl_s3 hz zCS_n3 hpl)) (fun h9 hh => ?_)
      refine pw_return d_Rock_meet_220 rfl (by decide) (by decide) ?_
      refine ⟨rfl, ?_, ?_, zsm_tr (zsm_tr zsm_rf hz (by decide)) hh.2 (by decide)⟩
      · unfold zmt
        rw [if_neg q_z, if_pos (zle.mp q_s)]
        exact hh.1
      · exact ⟨⟨_, _, _, zsm_at hh.2 (by decide) (zg_ne eh_3 (by decide) (zg_ne eh_2 (by decide) (zg_eq eh_1 h49)))⟩, ⟨_, _, _, zsm_at hh.2 (by decide) (zg_ne eh_3 (by decide) (zg_eq eh_2 (zg_ne eh_1 (by decide) h50)))⟩, ⟨_, _, _, zsm_at hh.2 (by decide) (zg_eq eh_3 (zg_ne eh_2 (by decide) (zg_ne eh_1 (by decide) h51)))⟩⟩
  · refine pw_return d_Rock_meet_63 rfl (by decide) (by decide) ?_
    have hz : zsm [49, 50, 51] h h_3 := (zsm_st (zsm_st (zsm_st zsm_rf eh_1 (by decide)) eh_2 (by decide)) eh_3 (by decide))
    refine ⟨rfl, ?_, ?_, zsm_tr zsm_rf hz (by decide)⟩
    · unfold zmt
      rw [if_pos q_z]
      exact zPt_sm hz zCS_no hp
    · exact ⟨⟨_, _, _, (zg_ne eh_3 (by decide) (zg_ne eh_2 (by decide) (zg_eq eh_1 h49)))⟩, ⟨_, _, _, (zg_ne eh_3 (by decide) (zg_eq eh_2 (zg_ne eh_1 (by decide) h50)))⟩, ⟨_, _, _, (zg_eq eh_3 (zg_ne eh_2 (by decide) (zg_ne eh_1 (by decide) h51)))⟩⟩
