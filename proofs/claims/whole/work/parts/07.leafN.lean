theorem zsi_hi {x y z q : Nat → Int32} {p : Nat} (k : Nat) (s : Nat → Int32) (j : Nat) (h : k < j) : zsi x y z q p k s j = s j := by
  induction k generalizing s with
  | zero => exact pk_un (by omega)
  | succ k ih =>
    simp only [zsi]
    split
    · rw [ih _ (by omega), pk_un (by omega)]
    · exact pk_un (by omega)
theorem zsi_ok {x y z q : Nat → Int32} {p : Nat} (hpp : p < 220) (k : Nat) (s : Nat → Int32) (hs : ∀ i, i < k → ∃ r, r < 220 ∧ s i = nI r) : ∀ i, i < k + 1 → ∃ r, r < 220 ∧ zsi x y z q p k s i = nI r := by
  induction k generalizing s with
  | zero =>
    intro i hi
    have : i = 0 := by omega
    subst this
    exact ⟨p, hpp, pk_us⟩
  | succ k ih =>
    intro i hi
    simp only [zsi]
    split
    · by_cases h : i < k + 1
      · exact ih _ (fun j hj => by rw [pk_un (by omega)]; exact hs j (by omega)) i h
      · have : i = k + 1 := by omega
        subst this
        rw [zsi_hi _ _ _ (by omega), pk_us]
        exact hs k (by omega)
    · by_cases h : i = k + 1
      · subst h
        exact ⟨p, hpp, pk_us⟩
      · rw [pk_un h]
        exact hs i (by omega)
/-- the corners of a block, sorted: how many, which -/
def zcp (f : Int32) (x y z q a b so : Nat → Int32) : Nat → Nat × (Nat → Int32)
  | 0 => (0, so)
  | i + 1 => if a i &&& (f ^^^ -1) = 0 ∧ b i &&& f = 0 then ((zcp f x y z q a b so i).1 + 1, zsi x y z q i (zcp f x y z q a b so i).1 (zcp f x y z q a b so i).2) else zcp f x y z q a b so i
theorem zcp_ok (f : Int32) (x y z q a b so : Nat → Int32) (i : Nat) (hi : i ≤ 220) : (zcp f x y z q a b so i).1 ≤ i ∧ ∀ j, j < (zcp f x y z q a b so i).1 → ∃ r, r < 220 ∧ (zcp f x y z q a b so i).2 j = nI r := by
  induction i with
  | zero => exact ⟨Nat.le_refl _, fun j hj => absurd hj (Nat.not_lt_zero _)⟩
  | succ i ih =>
    obtain ⟨h1, h2⟩ := ih (by omega)
    simp only [zcp]
    split
    · exact ⟨Nat.succ_le_succ h1, zsi_ok (by omega) _ _ h2⟩
    · exact ⟨by omega, h2⟩
set_option maxRecDepth 20000 in
set_option maxHeartbeats 2000000 in
theorem c_sortIn {G : zG} {h : zH} {c : Nat} {x y z q a b : Nat → Int32} (hp : zPt h c x y z q a b) {jc bc : Nat} {sx sy sz kn : Int32} {sd fc cc nu pb so : Nat → Int32} (hr : zRk h jc bc sx sy sz kn sd fc cc nu pb so) {p k : Nat} (hpp : p < 220) (hk : k < 220) (hs : ∀ i, i < k → ∃ r, r < 220 ∧ so i = nI r) : PW G M_Rock_sortIn (zroom 2 0 0) false (fun r h' => r = .inl none ∧ zRk h' jc bc sx sy sz kn sd fc cc nu pb (zsi x y z q p k so) ∧ zsm [48] h h') 0 (zentry 4 [.ref 34, .int (nI p), .int (nI k)]) [] h 0 0 := by
  show PW G M_Rock_sortIn (zroom 2 0 0) false _ 0 [some (.ref 34), some (.int (nI p)), some (.int (nI k)), none] [] h 0 0
  refine pw_iload_n d_Rock_sortIn_0 rfl rfl ?_
  refine pw_istore_n d_Rock_sortIn_1 rfl (by decide) (pl' := [some (.ref 34), some (.int (nI p)), some (.int (nI k)), some (.int (nI k))]) rfl ?_
  exact l_sortIn hpp (fun h' b1 b2 => ⟨rfl, b1, b2⟩) k so h hs hk hr hp zsm_rf rfl
set_option maxRecDepth 20000 in
set_option maxHeartbeats 2000000 in
theorem l_cornerPoint {G : zG} {h0 : zH} {c : Nat} {x y z q a b : Nat → Int32} (hc : c ≤ 220) {jc bc : Nat} {sx sy sz kn f : Int32} {sd fc cc nu pb so : Nat → Int32} {k ii : Nat} (hii : ii < 220) : ∀ (n i : Nat) (h : zH), c - i < n → i ≤ c → zRk h jc bc sx sy sz kn sd fc cc nu pb (zcp f x y z q a b so i).2 → zPt h c x y z q a b → zsm [48] h0 h → PW G M_Rock_cornerPoint (zroom 3 0 0) false (fun r h' => r = .inl (some (.int ((zcp f x y z q a b so c).2 ii))) ∧ zRk h' jc bc sx sy sz kn sd fc cc nu pb (zcp f x y z q a b so c).2 ∧ zsm [48] h0 h') 17 [some (.ref 34), some (.int (nI k)), some (.int (nI ii)), some (.int f), some (.int (nI (zcp f x y z q a b so i).1)), some (.int (nI i))] [] h 0 0 := by
  intro n
  induction n with
  | zero => intro i h hn; exact absurd hn (Nat.not_lt_zero _)
  | succ n ih =>
    intro i h hn hi hr hp hz
    refine pw_iload d_Rock_cornerPoint_17 rfl ?_
    refine pw_aload_n d_Rock_cornerPoint_19 rfl rfl ?_
    refine pw_get d_Rock_cornerPoint_20 fl_Rock_20 hr.1 rfl ?_
    refine pw_get d_Rock_cornerPoint_23 fl_Rock_100 hp.1 rfl ?_
    refine pw_icmp_ge 59 d_Rock_cornerPoint_26 (by decide) (fun q_c => ?_) (fun q_c => ?_)
    · have hic : i = c := by have := (nI_leI (a := c) (b := i) (by omega) (by omega)).mp q_c; omega
      subst hic
      refine pw_aload_n d_Rock_cornerPoint_59 rfl rfl ?_
      refine pw_get d_Rock_cornerPoint_60 fl_Rock_47 hr.1 rfl ?_
      refine pw_iload_n d_Rock_cornerPoint_63 rfl rfl ?_
      refine pw_iald d_Rock_cornerPoint_64 hr.2.2.2.2.2.2 rfl rfl hii (by decide) ?_
      refine pw_ireturn d_Rock_cornerPoint_65 rfl (by decide) (by decide) ?_
      exact ⟨rfl, hr, hz⟩
    · have hic : i < c := by have := mt (nI_leI (a := c) (b := i) (by omega) (by omega)).mpr q_c; omega
      refine pw_aload_n d_Rock_cornerPoint_29 rfl rfl ?_
      refine pw_get d_Rock_cornerPoint_30 fl_Rock_20 hr.1 rfl ?_
      refine pw_iload d_Rock_cornerPoint_33 rfl ?_
      refine pw_iload_n d_Rock_cornerPoint_35 rfl rfl ?_
      refine pw_callV1 (R' := (zroom 0 0 0)) (h2 := h) [.int (nI i), .int (f)] (fun q => nomatch q) d_Rock_cornerPoint_36 lk_Rock_111 hp.1 rfl rfl rfl (c_touches hp (show i < 220 by omega)) ?_
      refine pw_if_eq 53 d_Rock_cornerPoint_39 (by decide) (fun q_b => ?_) (fun q_b => ?_)
      · refine pw_iinc (y := nI (i + 1)) d_Rock_cornerPoint_53 rfl (nI_1 i) (by decide) (pl' := [some (.ref 34), some (.int (nI k)), some (.int (nI ii)), some (.int (f)), some (.int (nI (zcp f x y z q a b so i).1)), some (.int (nI (i + 1)))]) rfl ?_
        refine pw_goto 17 d_Rock_cornerPoint_56 (by decide) ?_
        have e : (zcp f x y z q a b so (i + 1)) = (zcp f x y z q a b so i) := by simp only [zcp]; rw [if_neg (z0 q_b)]
        have h9 := ih (i + 1) h (by omega) (by omega) (by rw [e]; exact hr) hp hz
        rw [e] at h9
        exact h9
      · refine pw_aload_n d_Rock_cornerPoint_42 rfl rfl ?_
        refine pw_iload d_Rock_cornerPoint_43 rfl ?_
        refine pw_iload d_Rock_cornerPoint_45 rfl ?_
        have hok := zcp_ok f x y z q a b so i (by omega)
        refine pw_callVu (R' := (zroom 2 0 0)) [.int (nI i), .int (nI (zcp f x y z q a b so i).1)] (fun q => nomatch q) d_Rock_cornerPoint_47 lk_Rock_114 hr.1 rfl rfl rfl (c_sortIn hp hr (show i < 220 by omega) (by omega) hok.2) (fun h1 hh => ?_)
        refine pw_iinc (y := nI ((zcp f x y z q a b so i).1 + 1)) d_Rock_cornerPoint_50 rfl (nI_1 _) (by decide) (pl' := [some (.ref 34), some (.int (nI k)), some (.int (nI ii)), some (.int (f)), some (.int (nI ((zcp f x y z q a b so i).1 + 1))), some (.int (nI i))]) rfl ?_
        refine pw_iinc (y := nI (i + 1)) d_Rock_cornerPoint_53 rfl (nI_1 i) (by decide) (pl' := [some (.ref 34), some (.int (nI k)), some (.int (nI ii)), some (.int (f)), some (.int (nI ((zcp f x y z q a b so i).1 + 1))), some (.int (nI (i + 1)))]) rfl ?_
        refine pw_goto 17 d_Rock_cornerPoint_56 (by decide) ?_
        have e : (zcp f x y z q a b so (i + 1)) = ((zcp f x y z q a b so i).1 + 1, zsi x y z q i (zcp f x y z q a b so i).1 (zcp f x y z q a b so i).2) := by simp only [zcp]; rw [if_pos (z1 q_b)]
        have h9 := ih (i + 1) h1 (by omega) (by omega) (by rw [e]; exact hh.1) (zPt_sm hh.2 (fun j a1 a2 => by simp only [List.mem_singleton]; omega) hp) (zsm_tr hz hh.2 (fun _ q => q))
        rw [e] at h9
        exact h9
