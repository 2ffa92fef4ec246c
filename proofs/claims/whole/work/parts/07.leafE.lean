set_option maxRecDepth 20000 in
set_option maxHeartbeats 2000000 in
theorem c_findBlocks {G : zG} {h : zH} {c : Nat} {x y z q a b : Nat → Int32} (hp : zPt h c x y z q a b) (hc : c ≤ 220) {jc bc : Nat} {sx sy sz kn : Int32} {sd fc cc nu pb so : Nat → Int32} (hr : zRk h jc bc sx sy sz kn sd fc cc nu pb so) (hjc : jc ≤ 6) : PW G M_Rock_findBlocks (zroom 2 0 0) false (fun r h' => r = .inl none ∧ zRb h' jc sx sy sz kn (zbl kn a b c (2 ^ jc) (0, sd, fc, cc, nu) 64) pb so ∧ zsm [34, 43, 44, 45, 46] h h') 0 (zentry 2 [.ref 34]) [] h 0 0 := by
  show PW G M_Rock_findBlocks (zroom 2 0 0) false _ 0 [some (.ref 34), none] [] h 0 0
  refine pw_aload_n d_Rock_findBlocks_0 rfl rfl ?_
  refine pw_iconst (x := 0) d_Rock_findBlocks_1 (by decide) ?_
  obtain ⟨h_1, eh_1⟩ : ∃ x_9, x_9 = List.set h (34) (.inr (4, [.ref 35, .ref 36, .ref 43, .ref 44, .ref 45, .ref 46, .int (nI jc), .int (0), .int (sx), .int (sy), .int (sz), .ref 47, .ref 48, .ref 49, .ref 50, .ref 51, .int (kn)])) := ⟨_, rfl⟩
  refine pw_put rfl d_Rock_findBlocks_2 (fp_Rock_41 _ _) hr.1 (Nat.le_of_ble_eq_true rfl) (fun _ => ⟨rfl, rfl⟩) eh_1.symm ?_
  refine pw_iconst (x := 0) d_Rock_findBlocks_5 (by decide) ?_
  refine pw_istore_n d_Rock_findBlocks_6 rfl (by decide) (pl' := [some (.ref 34), some (.int (0))]) rfl ?_
  exact l_findBlocks (S0 := (0, sd, fc, cc, nu)) hp hc hjc (fun h a1 a2 => ⟨rfl, a1, a2⟩) 65 0 _ (by decide) (by decide) ⟨(by rw [show nI (zbl kn a b c (2 ^ jc) (0, sd, fc, cc, nu) 0).1 = 0 from nI_0]; exact (zg_eq eh_1 hr.1)), (zg_ne eh_1 (by decide) hr.2.1), (zg_ne eh_1 (by decide) hr.2.2.1), (zg_ne eh_1 (by decide) hr.2.2.2.1), (zg_ne eh_1 (by decide) hr.2.2.2.2.1), (zg_ne eh_1 (by decide) hr.2.2.2.2.2.1), (zg_ne eh_1 (by decide) hr.2.2.2.2.2.2)⟩ (zsm_st zsm_rf eh_1 (by decide))
/-- the sides of a point at the planes known, below f: above, below -/
def zab (kn : Int32) (A B C D : Nat → Int32) (px py pz pq : Int32) : Nat → Int32 × Int32
  | 0 => (0, 0)
  | f + 1 => if (kn >>> (nI f &&& 31)) &&& 1 = 1 then (if 0 < (A f * px + B f * py + C f * pz - D f * pq) then (zab kn A B C D px py pz pq f).1 ||| (1 <<< (nI f &&& 31)) else (zab kn A B C D px py pz pq f).1, if (A f * px + B f * py + C f * pz - D f * pq) < 0 then (zab kn A B C D px py pz pq f).2 ||| (1 <<< (nI f &&& 31)) else (zab kn A B C D px py pz pq f).2) else zab kn A B C D px py pz pq f
theorem zup_if {p : Prop} [Decidable p] {a : Nat → Int32} {j : Nat} {v w : Int32} : (if p then upd (upd a j v) j w else upd a j v) = upd a j (if p then w else v) := by
  have e : upd (upd a j v) j w = upd a j w := by
    funext k
    simp only [upd]
    by_cases h : k = j <;> simp [h]
  by_cases hp : p
  · rw [if_pos hp, if_pos hp, e]
  · rw [if_neg hp, if_neg hp]
theorem zPS_no {j : Nat} (h : j < 36 ∨ 42 < j) : j ∉ [36, 37, 38, 39, 40, 41, 42] := by simp only [List.mem_cons, List.not_mem_nil, or_false]; omega
theorem zRk_s2 {S : List Nat} {h0 h : zH} {jc bc : Nat} {sx sy sz kn : Int32} {sd fc cc nu pb so : Nat → Int32} (hz : zsm S h0 h) (hS : ∀ j, (j < 36 ∨ 42 < j) → j ∉ S) (hr : zRk h0 jc bc sx sy sz kn sd fc cc nu pb so) : zRk h jc bc sx sy sz kn sd fc cc nu pb so :=
  ⟨zsm_at hz (hS _ (by omega)) hr.1, zsm_at hz (hS _ (by omega)) hr.2.1, zsm_at hz (hS _ (by omega)) hr.2.2.1, zsm_at hz (hS _ (by omega)) hr.2.2.2.1, zsm_at hz (hS _ (by omega)) hr.2.2.2.2.1, zsm_at hz (hS _ (by omega)) hr.2.2.2.2.2.1, zsm_at hz (hS _ (by omega)) hr.2.2.2.2.2.2⟩
theorem zPl_s2 {S : List Nat} {h0 h : zH} {A B C D : Nat → Int32} (hz : zsm S h0 h) (hS : ∀ j, (j < 36 ∨ 42 < j) → j ∉ S) (hpl : zPl h0 A B C D) : zPl h A B C D :=
  ⟨zsm_at hz (hS _ (by omega)) hpl.1, fun j hj => zsm_at hz (hS _ (by omega)) (hpl.2.1 j hj), fun j hj => zsm_at hz (hS _ (by omega)) (hpl.2.2 j hj)⟩
set_option maxRecDepth 20000 in
set_option maxHeartbeats 2000000 in
theorem l_addPoint {G : zG} {h0 : zH} {c : Nat} {x y z q a b : Nat → Int32} (hc : c < 220) {jc bc : Nat} {sx sy sz kn : Int32} {sd fc cc nu pb so : Nat → Int32} (hr0 : zRk h0 jc bc sx sy sz kn sd fc cc nu pb so) {A B C D : Nat → Int32} (hpl0 : zPl h0 A B C D) {px py pz pq u1 u2 u3 u4 g : Int32} {Q : zO → zH → Prop} (K : ∀ h, zPt h (c + 1) (upd x c px) (upd y c py) (upd z c pz) (upd q c pq) (upd a c (zab kn A B C D px py pz pq 12).1) (upd b c (zab kn A B C D px py pz pq 12).2) → zsm [36, 37, 38, 39, 40, 41, 42] h0 h → Q (.inl none) h) : ∀ (n i : Nat) (h : zH), 12 - i < n → i ≤ 12 → zPt h (c + 1) (upd x c px) (upd y c py) (upd z c pz) (upd q c pq) (upd a c (zab kn A B C D px py pz pq i).1) (upd b c (zab kn A B C D px py pz pq i).2) → zsm [36, 37, 38, 39, 40, 41, 42] h0 h → PW G M_Rock_addPoint (zroom 2 0 0) false Q 89 [some (.ref 34), some (.int u1), some (.int u2), some (.int u3), some (.int u4), some (.int g), some (.int (nI i))] [] h 0 0 := by
  intro n
  induction n with
  | zero => intro i h hn; exact absurd hn (Nat.not_lt_zero _)
  | succ n ih =>
    intro i h hn hi hp hz
    have hr := zRk_s2 hz (fun j h1 => zPS_no h1) hr0
    have hpl := zPl_s2 hz (fun j h1 => zPS_no h1) hpl0
    refine pw_iload d_Rock_addPoint_89 rfl ?_
    refine pw_bipush (x := 12) d_Rock_addPoint_91 (by decide) ?_
    refine pw_icmp_ge 139 d_Rock_addPoint_93 (by decide) (fun q_c => ?_) (fun q_c => ?_)
    · refine pw_return d_Rock_addPoint_139 rfl (by decide) (by decide) ?_
      have hic : i = 12 := by have := (nI_leI (a := 12) (b := i) (by decide) (by omega)).mp q_c; omega
      subst hic
      exact K h hp hz
    · have hic : i < 12 := by have := mt (nI_leI (a := 12) (b := i) (by decide) (by omega)).mpr q_c; omega
      refine pw_aload_n d_Rock_addPoint_96 rfl rfl ?_
      refine pw_get d_Rock_addPoint_97 fl_Rock_63 hr.1 rfl ?_
      refine pw_iload d_Rock_addPoint_100 rfl ?_
      refine pw_callS1 (R' := (zroom 0 0 0)) (h2 := h) [.int (kn), .int (nI i)] (fun q => nomatch q) d_Rock_addPoint_102 lk_Rock_107 rfl rfl c_hasBit ?_
      refine pw_if_eq 133 d_Rock_addPoint_105 (by decide) (fun q_b => ?_) (fun q_b => ?_)
      · refine pw_iinc (y := nI (i + 1)) d_Rock_addPoint_133 rfl (nI_1 i) (by decide) (pl' := [some (.ref 34), some (.int (u1)), some (.int (u2)), some (.int (u3)), some (.int (u4)), some (.int (g)), some (.int (nI (i + 1)))]) rfl ?_
        refine pw_goto 89 d_Rock_addPoint_136 (by decide) ?_
        refine ih (i + 1) h (by omega) (by omega) ?_ hz
        simp only [zab]
        rw [if_neg (z0 q_b)]
        exact hp
      · refine pw_aload_n d_Rock_addPoint_108 rfl rfl ?_
        refine pw_get d_Rock_addPoint_109 fl_Rock_20 hr.1 rfl ?_
        refine pw_aload_n d_Rock_addPoint_112 rfl rfl ?_
        refine pw_get d_Rock_addPoint_113 fl_Rock_20 hr.1 rfl ?_
        refine pw_get d_Rock_addPoint_116 fl_Rock_100 hp.1 rfl ?_
        refine pw_iconst (x := 1) d_Rock_addPoint_119 (by decide) ?_
        refine pw_isub d_Rock_addPoint_120 ?_
        refine pw_iload d_Rock_addPoint_121 rfl ?_
        refine pw_aload_n d_Rock_addPoint_123 rfl rfl ?_
        refine pw_get d_Rock_addPoint_124 fl_Rock_11 hr.1 rfl ?_
        refine pw_iload d_Rock_addPoint_127 rfl ?_
        refine pw_aald (y := 52 + 2 * i) d_Rock_addPoint_129 hpl.1 rfl rfl hic (by decide) (zPls_at hic) ?_
        refine pw_callVu (R' := (zroom 1 0 0)) [.int (nI c), .int (nI i), .ref (52 + 2 * i)] (fun q => nomatch q) d_Rock_addPoint_130 lk_Rock_127 hp.1 rfl (by rw [nI_pred]; rfl) rfl (c_tellSide hp hc (hpl.2.1 i hic) (hpl.2.2 i hic)) (fun h1 hh => ?_)
        refine pw_iinc (y := nI (i + 1)) d_Rock_addPoint_133 rfl (nI_1 i) (by decide) (pl' := [some (.ref 34), some (.int (u1)), some (.int (u2)), some (.int (u3)), some (.int (u4)), some (.int (g)), some (.int (nI (i + 1)))]) rfl ?_
        refine pw_goto 89 d_Rock_addPoint_136 (by decide) ?_
        refine ih (i + 1) h1 (by omega) (by omega) ?_ (zsm_tr hz hh.2 (fun _ q => q))
        have h2 := hh.1
        simp only [pk_us, zup_if] at h2
        simp only [zab]
        rw [if_pos (z1 q_b)]
        exact h2
