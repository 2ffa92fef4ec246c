theorem zxor : ∀ s, s < 64 → ∀ f, f < 6 → nI s ^^^ (1 <<< (nI f &&& 31)) = nI (s ^^^ (1 <<< f)) ∧ s ^^^ (1 <<< f) < 64 := by decide +kernel
set_option maxRecDepth 20000 in
set_option maxHeartbeats 2000000 in
theorem c_neighbour {G : zG} {h : zH} {jc bc : Nat} {sx sy sz kn : Int32} {sd fc cc nu pb so : Nat → Int32} (hr : zRk h jc bc sx sy sz kn sd fc cc nu pb so) {k s f : Nat} (hk : k < 64) (hs : s < 64) (hf : f < 6) (hsd : sd k = nI s) : PW G M_Rock_neighbour (zroom 1 0 0) true (zr (some (.int (if (fc k >>> (nI f &&& 31)) &&& 1 = 1 then nu (s ^^^ (1 <<< f)) else -1))) h) 0 (zentry 3 [.ref 34, .int (nI k), .int (nI f)]) [] h 0 0 := by
  show PW G M_Rock_neighbour (zroom 1 0 0) true _ 0 [some (.ref 34), some (.int (nI k)), some (.int (nI f))] [] h 0 0
  refine pw_aload_n d_Rock_neighbour_0 rfl rfl ?_
  refine pw_get d_Rock_neighbour_1 fl_Rock_28 hr.1 rfl ?_
  refine pw_iload_n d_Rock_neighbour_4 rfl rfl ?_
  refine pw_iald d_Rock_neighbour_5 hr.2.2.1 rfl rfl hk (by decide) ?_
  refine pw_iload_n d_Rock_neighbour_6 rfl rfl ?_
  refine pw_callS1 (R' := (zroom 0 0 0)) (h2 := h) [.int (fc k), .int (nI f)] (fun _ => rfl) d_Rock_neighbour_7 lk_Rock_107 rfl rfl c_hasBit ?_
  refine pw_if_eq 31 d_Rock_neighbour_10 (by decide) (fun q_b => ?_) (fun q_b => ?_)
  · refine pw_iconst (x := (-1)) d_Rock_neighbour_31 (by decide) ?_
    refine pw_ireturn d_Rock_neighbour_32 rfl (by decide) (by decide) ?_
    exact ⟨by rw [if_neg (z0 q_b)], rfl⟩
  · refine pw_aload_n d_Rock_neighbour_13 rfl rfl ?_
    refine pw_get d_Rock_neighbour_14 fl_Rock_34 hr.1 rfl ?_
    refine pw_aload_n d_Rock_neighbour_17 rfl rfl ?_
    refine pw_get d_Rock_neighbour_18 fl_Rock_24 hr.1 rfl ?_
    refine pw_iload_n d_Rock_neighbour_21 rfl rfl ?_
    refine pw_iald d_Rock_neighbour_22 hr.2.1 rfl rfl hk (by decide) ?_
    refine pw_iconst (x := 1) d_Rock_neighbour_23 (by decide) ?_
    refine pw_iload_n d_Rock_neighbour_24 rfl rfl ?_
    refine pw_ishl d_Rock_neighbour_25 ?_
    refine pw_ixor d_Rock_neighbour_26 ?_
    refine pw_iald d_Rock_neighbour_27 hr.2.2.2.2.1 rfl (by rw [hsd]; exact (zxor s hs f hf).1) (zxor s hs f hf).2 (by decide) ?_
    refine pw_goto 32 d_Rock_neighbour_28 (by decide) ?_
    refine pw_ireturn d_Rock_neighbour_32 rfl (by decide) (by decide) ?_
    exact ⟨by rw [if_pos (z1 q_b)], rfl⟩
theorem zm1 {o : Nat} (h : o < 64) : ¬ nI o = -1 := by
  have := nI_pos (n := o) (by omega)
  intro e
  rw [e] at this
  exact absurd this (by decide)
set_option maxRecDepth 20000 in
set_option maxHeartbeats 2000000 in
theorem c_isFree {G : zG} {h : zH} {tc dc : Nat} {op : Int32} {tk tb ty : Nat → Int32} (hw : zWp h tc dc op tk tb ty) {jc bc : Nat} {sx sy sz kn : Int32} {sd fc cc nu pb so : Nat → Int32} (hr : zRk h jc bc sx sy sz kn sd fc cc nu pb so) (hnu : ∀ m, m < 64 → nu m = -1 ∨ ∃ o, o < 64 ∧ nu m = nI o) (htk : ∀ o, o < 64 → tk o = 0 ∨ tk o = 1) {k s f : Nat} (hk : k < 64) (hs : s < 64) (hf : f < 12) (hsd : sd k = nI s) : PW G M_WP_isFree (zroom 2 0 0) true (fun r h' => ∃ t : Int32, r = .inl (some (.int t)) ∧ h' = h ∧ ((t = 1 ∧ (if 6 ≤ f then (op >>> (nI f &&& 31)) &&& 1 = 1 else ((fc k >>> (nI f &&& 31)) &&& 1 = 1 ∧ ∃ o, o < 64 ∧ nu (s ^^^ (1 <<< f)) = nI o ∧ tk o = 1))) ∨ (t = 0 ∧ ¬ (if 6 ≤ f then (op >>> (nI f &&& 31)) &&& 1 = 1 else ((fc k >>> (nI f &&& 31)) &&& 1 = 1 ∧ ∃ o, o < 64 ∧ nu (s ^^^ (1 <<< f)) = nI o ∧ tk o = 1))))) 0 (zentry 4 [.ref 0, .int (nI k), .int (nI f)]) [] h 0 0 := by
  show PW G M_WP_isFree (zroom 2 0 0) true _ 0 [some (.ref 0), some (.int (nI k)), some (.int (nI f)), none] [] h 0 0
  refine pw_iload_n d_WP_isFree_0 rfl rfl ?_
  refine pw_bipush (x := 6) d_WP_isFree_1 (by decide) ?_
  refine pw_icmp_lt 15 d_WP_isFree_3 (by decide) (fun q_f => ?_) (fun q_f => ?_)
  · have hf6 : f < 6 := (nI_ltI (a := f) (b := 6) (by omega) (by decide)).mp q_f
    refine pw_aload_n d_WP_isFree_15 rfl rfl ?_
    refine pw_get d_WP_isFree_16 fl_WP_57 hw.1 rfl ?_
    refine pw_iload_n d_WP_isFree_19 rfl rfl ?_
    refine pw_iload_n d_WP_isFree_20 rfl rfl ?_
    refine pw_callV1 (R' := (zroom 1 0 0)) (h2 := h) [.int (nI k), .int (nI f)] (fun _ => rfl) d_WP_isFree_21 lk_WP_167 hr.1 rfl rfl rfl (c_neighbour hr hk hs hf6 hsd) ?_
    refine pw_istore_n d_WP_isFree_24 rfl (by decide) (pl' := [some (.ref 0), some (.int (nI k)), some (.int (nI f)), some (.int ((if (fc k >>> (nI f &&& 31)) &&& 1 = 1 then nu (s ^^^ (1 <<< f)) else -1)))]) rfl ?_
    refine pw_iload_n d_WP_isFree_25 rfl rfl ?_
    refine pw_iconst (x := (-1)) d_WP_isFree_26 (by decide) ?_
    refine pw_icmp_eq 43 d_WP_isFree_27 (by decide) (fun q_n => ?_) (fun q_n => ?_)
    · refine pw_iconst (x := 0) d_WP_isFree_43 (by decide) ?_
      refine pw_zreturn d_WP_isFree_44 rfl (by decide) (by decide) (by decide) ?_
      refine ⟨0, rfl, rfl, Or.inr ⟨rfl, ?_⟩⟩
      rw [if_neg (by omega)]
      rintro ⟨hb, o, ho, e1, -⟩
      rw [if_pos hb, e1] at q_n
      exact absurd q_n (zm1 ho)
    · have hb : (fc k >>> (nI f &&& 31)) &&& 1 = 1 := by
        by_cases hb : (fc k >>> (nI f &&& 31)) &&& 1 = 1
        · exact hb
        · rw [if_neg hb] at q_n; exact absurd rfl q_n
      rw [if_pos hb] at q_n
      obtain ⟨o, ho, eo⟩ := (hnu (s ^^^ (1 <<< f)) (zxor s hs f hf6).2).resolve_left q_n
      refine pw_aload_n d_WP_isFree_30 rfl rfl ?_
      refine pw_get d_WP_isFree_31 fl_WP_27 hw.1 rfl ?_
      refine pw_iload_n d_WP_isFree_34 rfl rfl ?_
      refine pw_zald d_WP_isFree_35 hw.2.1 rfl (by rw [if_pos hb]; exact eo) ho (by decide) ?_
      refine pw_if_eq 43 d_WP_isFree_36 (by decide) (fun q_t => ?_) (fun q_t => ?_)
      · refine pw_iconst (x := 0) d_WP_isFree_43 (by decide) ?_
        refine pw_zreturn d_WP_isFree_44 rfl (by decide) (by decide) (by decide) ?_
        refine ⟨0, rfl, rfl, Or.inr ⟨rfl, ?_⟩⟩
        rw [if_neg (by omega)]
        rintro ⟨-, o2, ho2, e1, e2⟩
        have : o2 = o := (nI_eq (by omega) (by omega)).mp (e1.symm.trans eo)
        subst this
        rw [q_t] at e2
        exact absurd e2 (by decide)
      · refine pw_iconst (x := 1) d_WP_isFree_39 (by decide) ?_
        refine pw_goto 44 d_WP_isFree_40 (by decide) ?_
        refine pw_zreturn d_WP_isFree_44 rfl (by decide) (by decide) (by decide) ?_
        refine ⟨1, rfl, rfl, Or.inl ⟨rfl, ?_⟩⟩
        rw [if_neg (by omega)]
        exact ⟨hb, o, ho, eo, (htk o ho).resolve_left q_t⟩
  · refine pw_aload_n d_WP_isFree_6 rfl rfl ?_
    refine pw_get d_WP_isFree_7 fl_WP_45 hw.1 rfl ?_
    refine pw_iload_n d_WP_isFree_10 rfl rfl ?_
    refine pw_callS1 (R' := (zroom 0 0 0)) (h2 := h) [.int (op), .int (nI f)] (fun _ => rfl) d_WP_isFree_11 lk_WP_101 rfl rfl c_hasBit ?_
    refine pw_zreturn d_WP_isFree_14 rfl (by split; exact Or.inr rfl; exact Or.inl rfl) (by decide) (by decide) ?_
    have h6 : 6 ≤ f := by have := mt (nI_ltI (a := f) (b := 6) (by omega) (by decide)).mpr q_f; omega
    by_cases hb : (op >>> (nI f &&& 31)) &&& 1 = 1
    · exact ⟨1, by rw [if_pos hb], rfl, Or.inl ⟨rfl, by rw [if_pos h6]; exact hb⟩⟩
    · exact ⟨0, by rw [if_neg hb], rfl, Or.inr ⟨rfl, by rw [if_pos h6]; exact hb⟩⟩
