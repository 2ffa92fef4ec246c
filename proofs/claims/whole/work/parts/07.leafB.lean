theorem pw_mono {G : zG} {M : zM} {R : Room} {P : Bool} {Q Q' : zO → zH → Prop} {pc : Nat} {pl : List (Option Value)} {st : List Value} {h : zH} {nc ns : Nat} (hq : ∀ r h', Q r h' → Q' r h') (w : PW G M R P Q pc pl st h nc ns) : PW G M R P Q' pc pl st h nc ns := by
  intro p e s m args below meth c ad0 n C ad H locs ls hI
  refine zW_mono (fun t ht => ?_) (w p e s m args below meth c ad0 n C ad H locs ls hI)
  obtain ⟨o, h1, h2, ⟨r, h', ad', h3, h4⟩, h5⟩ := ht
  exact ⟨o, h1, h2, ⟨r, h', ad', hq r h' h3, h4⟩, h5⟩
set_option maxRecDepth 20000 in
set_option maxHeartbeats 2000000 in
theorem c_leastDirection {G : zG} {h : zH} {tc dc : Nat} {op : Int32} {tk tb ty : Nat → Int32} (hw : zWp h tc dc op tk tb ty) {jc bc : Nat} {sx sy sz kn : Int32} {sd fc cc nu pb so : Nat → Int32} (hr : zRk h jc bc sx sy sz kn sd fc cc nu pb so) {A B C D : Nat → Int32} (hpl : zPl h A B C D) (hnu : ∀ m, m < 64 → nu m = -1 ∨ ∃ o, o < 64 ∧ nu m = nI o) (htk : ∀ o, o < 64 → tk o = 0 ∨ tk o = 1) {k s : Nat} (hk : k < 64) (hs : s < 64) (hsd : sd k = nI s) {ux uy uz : Nat → Int32} {l1 l2 l3 : Int32} {dx dy dz : Nat → Int32} {p1 p2 p3 : Int32} (hdr : zDr h dx dy dz p1 p2 p3) (hdc : dc ≤ 8) {F0 : Int32} {jx jy jz : Nat → Int32} (ho : zHo h F0 jx jy jz ux uy uz l1 l2 l3) : PW G M_WP_leastDirection (zroom 4 0 0) false (fun r h' => ∃ t : Int32, r = .inl (some (.int t)) ∧ zsm zHS h h' ∧ (∃ (F : Int32) (ix iy iz : Nat → Int32), zHo h' F ix iy iz ux uy uz l1 l2 l3) ∧ ((tk k = 1 ∧ t = -1) ∨ (tk k = 0 ∧ ((∃ i, i < dc ∧ t = nI i ∧ (¬ (dx i = 0 ∧ dy i = 0 ∧ dz i = 0) ∧ ∀ f, f < 12 → ((fc k >>> (nI f &&& 31)) &&& 1 = 1 ∧ ¬ (if 6 ≤ f then (op >>> (nI f &&& 31)) &&& 1 = 1 else ((fc k >>> (nI f &&& 31)) &&& 1 = 1 ∧ ∃ o, o < 64 ∧ nu (s ^^^ (1 <<< f)) = nI o ∧ tk o = 1))) → ¬ (dx i * (A f * (if (if ((sd k ||| 1344) >>> (nI f &&& 31)) &&& 1 = 1 then (1 : Int32) else 0) = 0 then (-1 : Int32) else 1)) + dy i * (B f * (if (if ((sd k ||| 1344) >>> (nI f &&& 31)) &&& 1 = 1 then (1 : Int32) else 0) = 0 then (-1 : Int32) else 1)) + dz i * (C f * (if (if ((sd k ||| 1344) >>> (nI f &&& 31)) &&& 1 = 1 then (1 : Int32) else 0) = 0 then (-1 : Int32) else 1)) < 0)) ∧ ∀ j, j < i → ¬ (¬ (dx j = 0 ∧ dy j = 0 ∧ dz j = 0) ∧ ∀ f, f < 12 → ((fc k >>> (nI f &&& 31)) &&& 1 = 1 ∧ ¬ (if 6 ≤ f then (op >>> (nI f &&& 31)) &&& 1 = 1 else ((fc k >>> (nI f &&& 31)) &&& 1 = 1 ∧ ∃ o, o < 64 ∧ nu (s ^^^ (1 <<< f)) = nI o ∧ tk o = 1))) → ¬ (dx j * (A f * (if (if ((sd k ||| 1344) >>> (nI f &&& 31)) &&& 1 = 1 then (1 : Int32) else 0) = 0 then (-1 : Int32) else 1)) + dy j * (B f * (if (if ((sd k ||| 1344) >>> (nI f &&& 31)) &&& 1 = 1 then (1 : Int32) else 0) = 0 then (-1 : Int32) else 1)) + dz j * (C f * (if (if ((sd k ||| 1344) >>> (nI f &&& 31)) &&& 1 = 1 then (1 : Int32) else 0) = 0 then (-1 : Int32) else 1)) < 0))) ∨ (t = -1 ∧ ∀ i, i < dc → ¬ (¬ (dx i = 0 ∧ dy i = 0 ∧ dz i = 0) ∧ ∀ f, f < 12 → ((fc k >>> (nI f &&& 31)) &&& 1 = 1 ∧ ¬ (if 6 ≤ f then (op >>> (nI f &&& 31)) &&& 1 = 1 else ((fc k >>> (nI f &&& 31)) &&& 1 = 1 ∧ ∃ o, o < 64 ∧ nu (s ^^^ (1 <<< f)) = nI o ∧ tk o = 1))) → ¬ (dx i * (A f * (if (if ((sd k ||| 1344) >>> (nI f &&& 31)) &&& 1 = 1 then (1 : Int32) else 0) = 0 then (-1 : Int32) else 1)) + dy i * (B f * (if (if ((sd k ||| 1344) >>> (nI f &&& 31)) &&& 1 = 1 then (1 : Int32) else 0) = 0 then (-1 : Int32) else 1)) + dz i * (C f * (if (if ((sd k ||| 1344) >>> (nI f &&& 31)) &&& 1 = 1 then (1 : Int32) else 0) = 0 then (-1 : Int32) else 1)) < 0))))))) 0 (zentry 3 [.ref 0, .int (nI k)]) [] h 0 0 := by
  show PW G M_WP_leastDirection (zroom 4 0 0) false _ 0 [some (.ref 0), some (.int (nI k)), none] [] h 0 0
  refine pw_aload_n d_WP_leastDirection_0 rfl rfl ?_
  refine pw_get d_WP_leastDirection_1 fl_WP_27 hw.1 rfl ?_
  refine pw_iload_n d_WP_leastDirection_4 rfl rfl ?_
  refine pw_zald d_WP_leastDirection_5 hw.2.1 rfl rfl hk (by decide) ?_
  refine pw_if_eq 11 d_WP_leastDirection_6 (by decide) (fun q_k => ?_) (fun q_k => ?_)
  · refine pw_aload_n d_WP_leastDirection_11 rfl rfl ?_
    refine pw_iload_n d_WP_leastDirection_12 rfl rfl ?_
    refine pw_callVu (R' := (zroom 3 0 0)) [.int (nI k)] (fun q => nomatch q) d_WP_leastDirection_13 lk_WP_172 hw.1 rfl rfl rfl (c_lookAtHold hw hr hpl hnu htk hk hs hsd ho) (fun h1 hh => ?_)
    obtain ⟨F, ix, iy, iz, ho1, hz, hv1, hv2⟩ := hh
    refine pw_iconst (x := 0) d_WP_leastDirection_16 (by decide) ?_
    refine pw_istore_n d_WP_leastDirection_17 rfl (by decide) (pl' := [some (.ref 0), some (.int (nI k)), some (.int (0))]) rfl ?_
    refine pw_mono ?_ (l_leastDir (zWp_sm hz hw) (zRk_sm hz hr) (zPl_sm hz hpl) hnu htk hk hs hsd (zDr_sm hz hdr) hdc ho1 hv1 hv2 (dc + 1) 0 (by omega) (by omega) (fun j hj => absurd hj (Nat.not_lt_zero _)))
    rintro r h' ⟨t, e1, rfl, e2⟩
    exact ⟨t, e1, hz, ⟨F, ix, iy, iz, ho1⟩, Or.inr ⟨q_k, e2⟩⟩
  · refine pw_iconst (x := (-1)) d_WP_leastDirection_9 (by decide) ?_
    refine pw_ireturn d_WP_leastDirection_10 rfl (by decide) (by decide) ?_
    exact ⟨-1, rfl, zsm_rf, ⟨F0, jx, jy, jz, ho⟩, Or.inl ⟨(htk k hk).resolve_left q_k, rfl⟩⟩
