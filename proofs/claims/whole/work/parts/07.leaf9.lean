theorem zHS_no {j : Nat} (h : j = 0 ∨ 28 < j) : j ∉ zHS := fun hm => by have := List.mem_range'_1.mp hm; omega
theorem zWp_sm {h0 h : zH} {tc dc : Nat} {op : Int32} {tk tb ty : Nat → Int32} (hz : zsm zHS h0 h) (hw : zWp h0 tc dc op tk tb ty) : zWp h tc dc op tk tb ty :=
  ⟨zsm_at hz (zHS_no (by omega)) hw.1, zsm_at hz (zHS_no (by omega)) hw.2.1, zsm_at hz (zHS_no (by omega)) hw.2.2.1, zsm_at hz (zHS_no (by omega)) hw.2.2.2⟩
theorem zRk_sm {h0 h : zH} {jc bc : Nat} {sx sy sz kn : Int32} {sd fc cc nu pb so : Nat → Int32} (hz : zsm zHS h0 h) (hr : zRk h0 jc bc sx sy sz kn sd fc cc nu pb so) : zRk h jc bc sx sy sz kn sd fc cc nu pb so :=
  ⟨zsm_at hz (zHS_no (by omega)) hr.1, zsm_at hz (zHS_no (by omega)) hr.2.1, zsm_at hz (zHS_no (by omega)) hr.2.2.1, zsm_at hz (zHS_no (by omega)) hr.2.2.2.1, zsm_at hz (zHS_no (by omega)) hr.2.2.2.2.1, zsm_at hz (zHS_no (by omega)) hr.2.2.2.2.2.1, zsm_at hz (zHS_no (by omega)) hr.2.2.2.2.2.2⟩
theorem zPl_sm {h0 h : zH} {A B C D : Nat → Int32} (hz : zsm zHS h0 h) (hpl : zPl h0 A B C D) : zPl h A B C D :=
  ⟨zsm_at hz (zHS_no (by omega)) hpl.1, fun j hj => zsm_at hz (zHS_no (by omega)) (hpl.2.1 j hj), fun j hj => zsm_at hz (zHS_no (by omega)) (hpl.2.2 j hj)⟩
set_option maxRecDepth 20000 in
set_option maxHeartbeats 2000000 in
theorem l_look {G : zG} {h0 : zH} {tc dc : Nat} {op : Int32} {tk tb ty : Nat → Int32} (hw0 : zWp h0 tc dc op tk tb ty) {jc bc : Nat} {sx sy sz kn : Int32} {sd fc cc nu pb so : Nat → Int32} (hr0 : zRk h0 jc bc sx sy sz kn sd fc cc nu pb so) {A B C D : Nat → Int32} (hpl0 : zPl h0 A B C D) (hnu : ∀ m, m < 64 → nu m = -1 ∨ ∃ o, o < 64 ∧ nu m = nI o) (htk : ∀ o, o < 64 → tk o = 0 ∨ tk o = 1) {k s : Nat} (hk : k < 64) (hs : s < 64) (hsd : sd k = nI s) {ux uy uz : Nat → Int32} {l1 l2 l3 : Int32} {Q : zO → zH → Prop} (K : ∀ (h : zH) (F : Int32) (ix iy iz : Nat → Int32), zHo h F ix iy iz ux uy uz l1 l2 l3 → zsm zHS h0 h → (∀ f, f < 12 → ((F >>> (nI f &&& 31)) &&& 1 = 1 ↔ ((fc k >>> (nI f &&& 31)) &&& 1 = 1 ∧ ¬ (if 6 ≤ f then (op >>> (nI f &&& 31)) &&& 1 = 1 else ((fc k >>> (nI f &&& 31)) &&& 1 = 1 ∧ ∃ o, o < 64 ∧ nu (s ^^^ (1 <<< f)) = nI o ∧ tk o = 1))))) → (∀ f, f < 12 → ((fc k >>> (nI f &&& 31)) &&& 1 = 1 ∧ ¬ (if 6 ≤ f then (op >>> (nI f &&& 31)) &&& 1 = 1 else ((fc k >>> (nI f &&& 31)) &&& 1 = 1 ∧ ∃ o, o < 64 ∧ nu (s ^^^ (1 <<< f)) = nI o ∧ tk o = 1))) → ix f = A f * (if (if ((sd k ||| 1344) >>> (nI f &&& 31)) &&& 1 = 1 then (1 : Int32) else 0) = 0 then (-1 : Int32) else 1) ∧ iy f = B f * (if (if ((sd k ||| 1344) >>> (nI f &&& 31)) &&& 1 = 1 then (1 : Int32) else 0) = 0 then (-1 : Int32) else 1) ∧ iz f = C f * (if (if ((sd k ||| 1344) >>> (nI f &&& 31)) &&& 1 = 1 then (1 : Int32) else 0) = 0 then (-1 : Int32) else 1)) → Q (.inl none) h) : ∀ (n i : Nat) (h : zH) (F : Int32) (ix iy iz : Nat → Int32), 12 - i < n → i ≤ 12 → zHo h F ix iy iz ux uy uz l1 l2 l3 → zsm zHS h0 h → (∀ f, f < 12 → ((F >>> (nI f &&& 31)) &&& 1 = 1 ↔ f < i ∧ ((fc k >>> (nI f &&& 31)) &&& 1 = 1 ∧ ¬ (if 6 ≤ f then (op >>> (nI f &&& 31)) &&& 1 = 1 else ((fc k >>> (nI f &&& 31)) &&& 1 = 1 ∧ ∃ o, o < 64 ∧ nu (s ^^^ (1 <<< f)) = nI o ∧ tk o = 1))))) → (∀ f, f < i → ((fc k >>> (nI f &&& 31)) &&& 1 = 1 ∧ ¬ (if 6 ≤ f then (op >>> (nI f &&& 31)) &&& 1 = 1 else ((fc k >>> (nI f &&& 31)) &&& 1 = 1 ∧ ∃ o, o < 64 ∧ nu (s ^^^ (1 <<< f)) = nI o ∧ tk o = 1))) → ix f = A f * (if (if ((sd k ||| 1344) >>> (nI f &&& 31)) &&& 1 = 1 then (1 : Int32) else 0) = 0 then (-1 : Int32) else 1) ∧ iy f = B f * (if (if ((sd k ||| 1344) >>> (nI f &&& 31)) &&& 1 = 1 then (1 : Int32) else 0) = 0 then (-1 : Int32) else 1) ∧ iz f = C f * (if (if ((sd k ||| 1344) >>> (nI f &&& 31)) &&& 1 = 1 then (1 : Int32) else 0) = 0 then (-1 : Int32) else 1)) → PW G M_WP_lookAtHold (zroom 3 0 0) false Q 23 [some (.ref 0), some (.int (nI k)), some (.int (sd k ||| 1344)), some (.int (nI i))] [] h 0 0 := by
  intro n
  induction n with
  | zero => intro i h F ix iy iz hn; exact absurd hn (Nat.not_lt_zero _)
  | succ n ih =>
    intro i h F ix iy iz hn hi ho hz hv1 hv2
    have hw := zWp_sm hz hw0
    have hr := zRk_sm hz hr0
    have hpl := zPl_sm hz hpl0
    refine pw_iload_n d_WP_lookAtHold_23 rfl rfl ?_
    refine pw_bipush (x := 12) d_WP_lookAtHold_24 (by decide) ?_
    refine pw_icmp_ge 85 d_WP_lookAtHold_26 (by decide) (fun q_c => ?_) (fun q_c => ?_)
    · refine pw_return d_WP_lookAtHold_85 rfl (by decide) (by decide) ?_
      have hic : i = 12 := by have := (nI_leI (a := 12) (b := i) (by decide) (by omega)).mp q_c; omega
      subst hic
      exact K h F ix iy iz ho hz (fun f hf => by rw [hv1 f hf]; exact ⟨fun q => q.2, fun q => ⟨hf, q⟩⟩) hv2
    · have hic : i < 12 := by have := mt (nI_leI (a := 12) (b := i) (by decide) (by omega)).mpr q_c; omega
      refine pw_aload_n d_WP_lookAtHold_29 rfl rfl ?_
      refine pw_get d_WP_lookAtHold_30 fl_WP_57 hw.1 rfl ?_
      refine pw_get d_WP_lookAtHold_33 fl_WP_125 hr.1 rfl ?_
      refine pw_iload_n d_WP_lookAtHold_36 rfl rfl ?_
      refine pw_iald d_WP_lookAtHold_37 hr.2.2.1 rfl rfl hk (by decide) ?_
      refine pw_iload_n d_WP_lookAtHold_38 rfl rfl ?_
      refine pw_callS1 (R' := (zroom 0 0 0)) (h2 := h) [.int (fc k), .int (nI i)] (fun q => nomatch q) d_WP_lookAtHold_39 lk_WP_101 rfl rfl c_hasBit ?_
      refine pw_if_eq 79 d_WP_lookAtHold_42 (by decide) (fun q_b => ?_) (fun q_b => ?_)
      · refine pw_iinc (y := nI (i + 1)) d_WP_lookAtHold_79 rfl (nI_1 i) (by decide) (pl' := [some (.ref 0), some (.int (nI k)), some (.int ((sd k ||| 1344))), some (.int (nI (i + 1)))]) rfl ?_
        refine pw_goto 23 d_WP_lookAtHold_82 (by decide) ?_
        have hno : ¬ ((fc k >>> (nI i &&& 31)) &&& 1 = 1 ∧ ¬ (if 6 ≤ i then (op >>> (nI i &&& 31)) &&& 1 = 1 else ((fc k >>> (nI i &&& 31)) &&& 1 = 1 ∧ ∃ o, o < 64 ∧ nu (s ^^^ (1 <<< i)) = nI o ∧ tk o = 1))) := by exact fun hd => z0 q_b hd.1
        refine ih (i + 1) h _ _ _ _ (by omega) (by omega) ho hz (fun f hf => ?_) (fun f hf hd => ?_)
        · rw [hv1 f hf]
          constructor
          · rintro ⟨h1, h2⟩
            exact ⟨by omega, h2⟩
          · rintro ⟨h1, h2⟩
            rcases Nat.lt_succ_iff_lt_or_eq.mp h1 with h3 | rfl
            · exact ⟨h3, h2⟩
            · exact absurd h2 hno
        · rcases Nat.lt_succ_iff_lt_or_eq.mp hf with h3 | rfl
          · exact hv2 f h3 hd
          · exact absurd hd hno
      · refine pw_aload_n d_WP_lookAtHold_45 rfl rfl ?_
        refine pw_iload_n d_WP_lookAtHold_46 rfl rfl ?_
        refine pw_iload_n d_WP_lookAtHold_47 rfl rfl ?_
        refine pw_callVt (R' := (zroom 2 0 0)) [.int (nI k), .int (nI i)] (fun q => nomatch q) d_WP_lookAtHold_48 lk_WP_220 hw.1 rfl rfl rfl (c_isFree hw hr hnu htk hk hs hic hsd) (fun t ht => ?_)
        refine pw_if_ne 79 d_WP_lookAtHold_51 (by decide) (fun q_t => ?_) (fun q_t => ?_)
        · refine pw_iinc (y := nI (i + 1)) d_WP_lookAtHold_79 rfl (nI_1 i) (by decide) (pl' := [some (.ref 0), some (.int (nI k)), some (.int ((sd k ||| 1344))), some (.int (nI (i + 1)))]) rfl ?_
          refine pw_goto 23 d_WP_lookAtHold_82 (by decide) ?_
          have hno : ¬ ((fc k >>> (nI i &&& 31)) &&& 1 = 1 ∧ ¬ (if 6 ≤ i then (op >>> (nI i &&& 31)) &&& 1 = 1 else ((fc k >>> (nI i &&& 31)) &&& 1 = 1 ∧ ∃ o, o < 64 ∧ nu (s ^^^ (1 <<< i)) = nI o ∧ tk o = 1))) := by exact fun hd => by rcases ht with ⟨-, e1⟩ | ⟨e2, -⟩; exact hd.2 e1; exact q_t e2
          refine ih (i + 1) h _ _ _ _ (by omega) (by omega) ho hz (fun f hf => ?_) (fun f hf hd => ?_)
          · rw [hv1 f hf]
            constructor
            · rintro ⟨h1, h2⟩
              exact ⟨by omega, h2⟩
            · rintro ⟨h1, h2⟩
              rcases Nat.lt_succ_iff_lt_or_eq.mp h1 with h3 | rfl
              · exact ⟨h3, h2⟩
              · exact absurd h2 hno
          · rcases Nat.lt_succ_iff_lt_or_eq.mp hf with h3 | rfl
            · exact hv2 f h3 hd
            · exact absurd hd hno
        · refine pw_aload_n d_WP_lookAtHold_54 rfl rfl ?_
          refine pw_get d_WP_lookAtHold_55 fl_WP_12 hw.1 rfl ?_
          refine pw_iload_n d_WP_lookAtHold_58 rfl rfl ?_
          refine pw_aload_n d_WP_lookAtHold_59 rfl rfl ?_
          refine pw_get d_WP_lookAtHold_60 fl_WP_57 hw.1 rfl ?_
          refine pw_get d_WP_lookAtHold_63 fl_WP_223 hr.1 rfl ?_
          refine pw_iload_n d_WP_lookAtHold_66 rfl rfl ?_
          refine pw_aald (y := 52 + 2 * i) d_WP_lookAtHold_67 hpl.1 rfl rfl hic (by decide) (zPls_at hic) ?_
          refine pw_get d_WP_lookAtHold_68 fl_WP_227 (hpl.2.1 i hic) rfl ?_
          refine pw_iload_n d_WP_lookAtHold_71 rfl rfl ?_
          refine pw_iload_n d_WP_lookAtHold_72 rfl rfl ?_
          refine pw_callS1 (R' := (zroom 0 0 0)) (h2 := h) [.int ((sd k ||| 1344)), .int (nI i)] (fun q => nomatch q) d_WP_lookAtHold_73 lk_WP_101 rfl rfl c_hasBit ?_
          refine pw_callVu (R' := (zroom 2 0 0)) [.int (nI i), .ref (53 + 2 * i), .int ((if ((sd k ||| 1344) >>> ((nI i) &&& 31)) &&& 1 = 1 then 1 else 0))] (fun q => nomatch q) d_WP_lookAtHold_76 lk_WP_232 ho.1 rfl rfl rfl (c_Hold_add ho hic (by omega) (hpl.2.2 i hic)) (fun h1 hh => ?_)
          refine pw_iinc (y := nI (i + 1)) d_WP_lookAtHold_79 rfl (nI_1 i) (by decide) (pl' := [some (.ref 0), some (.int (nI k)), some (.int ((sd k ||| 1344))), some (.int (nI (i + 1)))]) rfl ?_
          refine pw_goto 23 d_WP_lookAtHold_82 (by decide) ?_
          refine ih (i + 1) h1 _ _ _ _ (by omega) (by omega) hh.1 (zsm_tr hz hh.2 (fun _ q => q)) (fun f hf => ?_) (fun f hf hd => ?_)
          · rw [zB_or _ (by omega) (by omega), hv1 f hf]
            have hdi : ((fc k >>> (nI i &&& 31)) &&& 1 = 1 ∧ ¬ (if 6 ≤ i then (op >>> (nI i &&& 31)) &&& 1 = 1 else ((fc k >>> (nI i &&& 31)) &&& 1 = 1 ∧ ∃ o, o < 64 ∧ nu (s ^^^ (1 <<< i)) = nI o ∧ tk o = 1))) := ⟨z1 q_b, by rcases ht with ⟨e1, -⟩ | ⟨-, e2⟩; exact absurd (e1.symm.trans q_t) (by decide); exact e2⟩
            constructor
            · rintro (⟨h1, h2⟩ | rfl)
              · exact ⟨by omega, h2⟩
              · exact ⟨by omega, hdi⟩
            · rintro ⟨h1, h2⟩
              rcases Nat.lt_succ_iff_lt_or_eq.mp h1 with h3 | h3
              · exact Or.inl ⟨h3, h2⟩
              · exact Or.inr h3
          · rcases Nat.lt_succ_iff_lt_or_eq.mp hf with h3 | rfl
            · have hne : f ≠ i := by omega
              rw [pk_un hne, pk_un hne, pk_un hne]
              exact hv2 f h3 hd
            · rw [pk_us, pk_us, pk_us]
              exact ⟨rfl, rfl, rfl⟩
