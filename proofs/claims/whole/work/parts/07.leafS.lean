/-- face f of block k (sides s) holds it -/
def zHd (op : Int32) (tk fc nu : Nat → Int32) (k s f : Nat) : Prop := ((fc k >>> (nI f &&& 31)) &&& 1 = 1 ∧ ¬ (if 6 ≤ f then (op >>> (nI f &&& 31)) &&& 1 = 1 else ((fc k >>> (nI f &&& 31)) &&& 1 = 1 ∧ ∃ o, o < 64 ∧ nu (s ^^^ (1 <<< f)) = nI o ∧ tk o = 1)))
/-- block k can go along (a, b, c) -/
def zGw (op : Int32) (tk sd fc nu A B C : Nat → Int32) (k s : Nat) (a b c : Int32) : Prop := (¬ (a = 0 ∧ b = 0 ∧ c = 0) ∧ ∀ f, f < 12 → ((fc k >>> (nI f &&& 31)) &&& 1 = 1 ∧ ¬ (if 6 ≤ f then (op >>> (nI f &&& 31)) &&& 1 = 1 else ((fc k >>> (nI f &&& 31)) &&& 1 = 1 ∧ ∃ o, o < 64 ∧ nu (s ^^^ (1 <<< f)) = nI o ∧ tk o = 1))) → ¬ (a * (A f * (if (if ((sd k ||| 1344) >>> (nI f &&& 31)) &&& 1 = 1 then (1 : Int32) else 0) = 0 then (-1 : Int32) else 1)) + b * (B f * (if (if ((sd k ||| 1344) >>> (nI f &&& 31)) &&& 1 = 1 then (1 : Int32) else 0) = 0 then (-1 : Int32) else 1)) + c * (C f * (if (if ((sd k ||| 1344) >>> (nI f &&& 31)) &&& 1 = 1 then (1 : Int32) else 0) = 0 then (-1 : Int32) else 1)) < 0))
/-- the least direction of block k is t, or it is none -/
def zLd (op : Int32) (tk sd fc nu A B C dx dy dz : Nat → Int32) (dc k s : Nat) (t : Int32) : Prop := (tk k = 1 ∧ t = -1) ∨ (tk k = 0 ∧ ((∃ i, i < dc ∧ t = nI i ∧ zGw op tk sd fc nu A B C k s (dx i) (dy i) (dz i) ∧ ∀ j, j < i → ¬ zGw op tk sd fc nu A B C k s (dx j) (dy j) (dz j)) ∨ (t = -1 ∧ ∀ i, i < dc → ¬ zGw op tk sd fc nu A B C k s (dx i) (dy i) (dz i))))
/-- what is taken: how many, which, in order, by which directions -/
abbrev zTS : Type := Nat × (Nat → Int32) × (Nat → Int32) × (Nat → Int32)
/-- the least block that goes is taken -/
def zSt1 (op : Int32) (sd fc nu A B C dx dy dz : Nat → Int32) (dc bc : Nat) (sf : Nat → Nat) (T T' : zTS) : Prop := ∃ (k : Nat) (t : Int32), k < bc ∧ T.2.1 k = 0 ∧ zLd op T.2.1 sd fc nu A B C dx dy dz dc k (sf k) t ∧ t ≠ -1 ∧ (∀ j, j < k → zLd op T.2.1 sd fc nu A B C dx dy dz dc j (sf j) (-1)) ∧ T' = (T.1 + 1, upd T.2.1 k 1, upd T.2.2.1 T.1 (nI k), upd T.2.2.2 T.1 t)
/-- no block goes -/
def zSt0 (op : Int32) (sd fc nu A B C dx dy dz : Nat → Int32) (dc bc : Nat) (sf : Nat → Nat) (T : zTS) : Prop := ∀ k, k < bc → zLd op T.2.1 sd fc nu A B C dx dy dz dc k (sf k) (-1)
/-- so many one after the other -/
def zStn (op : Int32) (sd fc nu A B C dx dy dz : Nat → Int32) (dc bc : Nat) (sf : Nat → Nat) : Nat → zTS → zTS → Prop
  | 0, T, T' => T' = T
  | n + 1, T, T' => ∃ U, zStn op sd fc nu A B C dx dy dz dc bc sf n T U ∧ zSt1 op sd fc nu A B C dx dy dz dc bc sf U T'
/-- the places that a take may write -/
def zTP : List Nat := 0 :: 31 :: 32 :: 33 :: zHS
theorem zTP_hs : ∀ j, j ∈ zHS → j ∈ zTP := fun j h => List.mem_cons_of_mem _ (List.mem_cons_of_mem _ (List.mem_cons_of_mem _ (List.mem_cons_of_mem _ h)))
theorem zTP_ws : ∀ j, j ∈ [0, 31, 32, 33] → j ∈ zTP := by decide
theorem zTP_no {j : Nat} (h : 33 < j ∨ j = 29 ∨ j = 30) : j ∉ zTP := by
  intro hm
  simp only [zTP, List.mem_cons] at hm
  rcases hm with h1 | h1 | h1 | h1 | h1
  · omega
  · omega
  · omega
  · omega
  · exact zHS_no (by omega) h1
theorem zRk_tp {h0 h : zH} {jc bc : Nat} {sx sy sz kn : Int32} {sd fc cc nu pb so : Nat → Int32} (hz : zsm zTP h0 h) (hr : zRk h0 jc bc sx sy sz kn sd fc cc nu pb so) : zRk h jc bc sx sy sz kn sd fc cc nu pb so :=
  ⟨zsm_at hz (zTP_no (by omega)) hr.1, zsm_at hz (zTP_no (by omega)) hr.2.1, zsm_at hz (zTP_no (by omega)) hr.2.2.1, zsm_at hz (zTP_no (by omega)) hr.2.2.2.1, zsm_at hz (zTP_no (by omega)) hr.2.2.2.2.1, zsm_at hz (zTP_no (by omega)) hr.2.2.2.2.2.1, zsm_at hz (zTP_no (by omega)) hr.2.2.2.2.2.2⟩
theorem zPl_tp {h0 h : zH} {A B C D : Nat → Int32} (hz : zsm zTP h0 h) (hpl : zPl h0 A B C D) : zPl h A B C D :=
  ⟨zsm_at hz (zTP_no (by omega)) hpl.1, fun j hj => zsm_at hz (zTP_no (by omega)) (hpl.2.1 j hj), fun j hj => zsm_at hz (zTP_no (by omega)) (hpl.2.2 j hj)⟩
theorem zDr_tp {h0 h : zH} {dx dy dz : Nat → Int32} {p1 p2 p3 : Int32} (hz : zsm zTP h0 h) (hd : zDr h0 dx dy dz p1 p2 p3) : zDr h dx dy dz p1 p2 p3 :=
  ⟨zsm_at hz (zTP_no (by omega)) hd.1, fun j hj => zsm_at hz (zTP_no (by omega)) (hd.2.1 j hj), zsm_at hz (zTP_no (by omega)) hd.2.2⟩
theorem zHo_29 {h0 h : zH} {fc : Int32} {ix iy iz sx sy sz : Nat → Int32} {l1 l2 l3 : Int32} (hz : zsm [0, 31, 32, 33] h0 h) (ho : zHo h0 fc ix iy iz sx sy sz l1 l2 l3) : zHo h fc ix iy iz sx sy sz l1 l2 l3 := by
  have hS : ∀ j, 0 < j → j < 31 → j ∉ [0, 31, 32, 33] := by intro j h1 h2; simp only [List.mem_cons, List.not_mem_nil, or_false]; omega
  exact ⟨zsm_at hz (hS _ (by omega) (by omega)) ho.1, zsm_at hz (hS _ (by omega) (by omega)) ho.2.1, zsm_at hz (hS _ (by omega) (by omega)) ho.2.2.1, zsm_at hz (hS _ (by omega) (by omega)) ho.2.2.2.1, fun j hj => zsm_at hz (hS _ (by omega) (by omega)) (ho.2.2.2.2.1 j hj), fun j hj => zsm_at hz (hS _ (by omega) (by omega)) (ho.2.2.2.2.2 j hj)⟩
set_option maxRecDepth 20000 in
set_option maxHeartbeats 2000000 in
theorem l_takeLeast {G : zG} {h0 : zH} {dc : Nat} {op : Int32} {jc bc : Nat} {sx sy sz kn : Int32} {sd fc cc nu pb so : Nat → Int32} (hr0 : zRk h0 jc bc sx sy sz kn sd fc cc nu pb so) {A B C D : Nat → Int32} (hpl0 : zPl h0 A B C D) (hnu : ∀ m, m < 64 → nu m = -1 ∨ ∃ o, o < 64 ∧ nu m = nI o) (hbc : bc ≤ 64) {sf : Nat → Nat} (hsf : ∀ k, k < bc → sf k < 64 ∧ sd k = nI (sf k)) {dx dy dz : Nat → Int32} {p1 p2 p3 : Int32} (hdr0 : zDr h0 dx dy dz p1 p2 p3) (hdc : dc ≤ 8) {tc : Nat} {tk tb ty : Nat → Int32} (hw0 : zWp h0 tc dc op tk tb ty) (htk : ∀ o, o < 64 → tk o = 0 ∨ tk o = 1) (htc : ∀ k, k < bc → tk k = 0 → tc < 64) : ∀ (n k : Nat) (h : zH) (o2 : Option Value) (F0 : Int32) (jx jy jz ux uy uz : Nat → Int32) (l1 l2 l3 : Int32), bc - k < n → k ≤ bc → zHo h F0 jx jy jz ux uy uz l1 l2 l3 → zsm zHS h0 h → (∀ j, j < k → zLd op tk sd fc nu A B C dx dy dz dc j (sf j) (-1)) → PW G M_WP_takeLeast (zroom 5 0 0) false (fun r h' => ∃ t : Int32, r = .inl (some (.int t)) ∧ (∃ (F : Int32) (ix iy iz ux uy uz : Nat → Int32) (l1 l2 l3 : Int32), zHo h' F ix iy iz ux uy uz l1 l2 l3) ∧ zsm zTP h0 h' ∧ ((t = 1 ∧ ∃ T' : zTS, zSt1 op sd fc nu A B C dx dy dz dc bc sf (tc, tk, tb, ty) T' ∧ zWp h' T'.1 dc op T'.2.1 T'.2.2.1 T'.2.2.2) ∨ (t = 0 ∧ zSt0 op sd fc nu A B C dx dy dz dc bc sf (tc, tk, tb, ty) ∧ zWp h' tc dc op tk tb ty))) 2 [some (.ref 0), some (.int (nI k)), o2] [] h 0 0 := by
  intro n
  induction n with
  | zero => intro k h o2 F0 jx jy jz ux uy uz l1 l2 l3 hn; exact absurd hn (Nat.not_lt_zero _)
  | succ n ih =>
    intro k h o2 F0 jx jy jz ux uy uz l1 l2 l3 hn hi ho hz hv
    have hw := zWp_sm hz hw0
    have hr := zRk_sm hz hr0
    have hpl := zPl_sm hz hpl0
    have hdr := zDr_sm hz hdr0
    refine pw_iload_n d_WP_takeLeast_2 rfl rfl ?_
    refine pw_aload_n d_WP_takeLeast_3 rfl rfl ?_
    refine pw_get d_WP_takeLeast_4 fl_WP_57 hw.1 rfl ?_
    refine pw_get d_WP_takeLeast_7 fl_WP_115 hr.1 rfl ?_
    refine pw_icmp_ge 38 d_WP_takeLeast_10 (by decide) (fun q_c => ?_) (fun q_c => ?_)
    · refine pw_iconst (x := 0) d_WP_takeLeast_38 (by decide) ?_
      refine pw_zreturn d_WP_takeLeast_39 rfl (by decide) (by decide) (by decide) ?_
      have hkc : k = bc := by have := (nI_leI (a := bc) (b := k) (by omega) (by omega)).mp q_c; omega
      subst hkc
      exact ⟨0, rfl, ⟨_, _, _, _, _, _, _, _, _, _, ho⟩, zsm_tr zsm_rf hz zTP_hs, Or.inr ⟨rfl, hv, hw⟩⟩
    · have hkc : k < bc := by have := mt (nI_leI (a := bc) (b := k) (by omega) (by omega)).mpr q_c; omega
      refine pw_aload_n d_WP_takeLeast_13 rfl rfl ?_
      refine pw_iload_n d_WP_takeLeast_14 rfl rfl ?_
      refine pw_callVw (R' := (zroom 4 0 0)) [.int (nI k)] (fun q => nomatch q) d_WP_takeLeast_15 lk_WP_179 hw.1 rfl rfl rfl (c_leastDirection hw hr hpl hnu htk (show k < 64 by omega) (hsf k hkc).1 (hsf k hkc).2 hdr hdc ho) (fun t h1 hh => ?_)
      refine pw_istore_n d_WP_takeLeast_18 rfl (by decide) (pl' := [some (.ref 0), some (.int (nI k)), some (.int (t))]) rfl ?_
      refine pw_iload_n d_WP_takeLeast_19 rfl rfl ?_
      refine pw_iconst (x := (-1)) d_WP_takeLeast_20 (by decide) ?_
      refine pw_icmp_eq 32 d_WP_takeLeast_21 (by decide) (fun q_t => ?_) (fun q_t => ?_)
      · refine pw_iinc (y := nI (k + 1)) d_WP_takeLeast_32 rfl (nI_1 k) (by decide) (pl' := [some (.ref 0), some (.int (nI (k + 1))), some (.int (t))]) rfl ?_
        refine pw_goto 2 d_WP_takeLeast_35 (by decide) ?_
        obtain ⟨F, ix, iy, iz, ho1⟩ := hh.2.1
        refine ih (k + 1) h1 _ _ _ _ _ _ _ _ _ _ _ (by omega) (by omega) ho1 (zsm_tr hz hh.1 (fun _ q => q)) (fun j hj => ?_)
        rcases Nat.lt_succ_iff_lt_or_eq.mp hj with h2 | rfl
        · exact hv j h2
        · have e := hh.2.2
          rw [q_t] at e
          exact e
      · have hw1 := zWp_sm hh.1 hw
        have hk0 : tk k = 0 := by rcases hh.2.2 with h1 | h1; exact absurd h1.2 q_t; exact h1.1
        refine pw_aload_n d_WP_takeLeast_24 rfl rfl ?_
        refine pw_iload_n d_WP_takeLeast_25 rfl rfl ?_
        refine pw_iload_n d_WP_takeLeast_26 rfl rfl ?_
        refine pw_callVu (R' := (zroom 0 0 0)) [.int (nI k), .int (t)] (fun q => nomatch q) d_WP_takeLeast_27 lk_WP_182 hw1.1 rfl rfl rfl (c_putAway hw1 (htc k hkc hk0) (show k < 64 by omega)) (fun h2 hw2 => ?_)
        refine pw_iconst (x := 1) d_WP_takeLeast_30 (by decide) ?_
        refine pw_zreturn d_WP_takeLeast_31 rfl (by decide) (by decide) (by decide) ?_
        obtain ⟨F, ix, iy, iz, ho1⟩ := hh.2.1
        have ho2 := zHo_29 hw2.2 ho1
        exact ⟨1, rfl, ⟨_, _, _, _, _, _, _, _, _, _, ho2⟩, zsm_tr (zsm_tr zsm_rf (zsm_tr hz hh.1 (fun _ q => q)) zTP_hs) hw2.2 zTP_ws, Or.inl ⟨rfl, _, ⟨k, t, hkc, hk0, hh.2.2, q_t, hv, rfl⟩, hw2.1⟩⟩
set_option maxRecDepth 20000 in
set_option maxHeartbeats 2000000 in
theorem c_takeLeast {G : zG} {h : zH} {dc : Nat} {op : Int32} {jc bc : Nat} {sx sy sz kn : Int32} {sd fc cc nu pb so : Nat → Int32} (hr : zRk h jc bc sx sy sz kn sd fc cc nu pb so) {A B C D : Nat → Int32} (hpl : zPl h A B C D) (hnu : ∀ m, m < 64 → nu m = -1 ∨ ∃ o, o < 64 ∧ nu m = nI o) (hbc : bc ≤ 64) {sf : Nat → Nat} (hsf : ∀ k, k < bc → sf k < 64 ∧ sd k = nI (sf k)) {dx dy dz : Nat → Int32} {p1 p2 p3 : Int32} (hdr : zDr h dx dy dz p1 p2 p3) (hdc : dc ≤ 8) {tc : Nat} {tk tb ty : Nat → Int32} (hw : zWp h tc dc op tk tb ty) (htk : ∀ o, o < 64 → tk o = 0 ∨ tk o = 1) (htc : ∀ k, k < bc → tk k = 0 → tc < 64) (ho : (∃ (F : Int32) (ix iy iz ux uy uz : Nat → Int32) (l1 l2 l3 : Int32), zHo h F ix iy iz ux uy uz l1 l2 l3)) : PW G M_WP_takeLeast (zroom 5 0 0) false (fun r h' => ∃ t : Int32, r = .inl (some (.int t)) ∧ (∃ (F : Int32) (ix iy iz ux uy uz : Nat → Int32) (l1 l2 l3 : Int32), zHo h' F ix iy iz ux uy uz l1 l2 l3) ∧ zsm zTP h h' ∧ ((t = 1 ∧ ∃ T' : zTS, zSt1 op sd fc nu A B C dx dy dz dc bc sf (tc, tk, tb, ty) T' ∧ zWp h' T'.1 dc op T'.2.1 T'.2.2.1 T'.2.2.2) ∨ (t = 0 ∧ zSt0 op sd fc nu A B C dx dy dz dc bc sf (tc, tk, tb, ty) ∧ zWp h' tc dc op tk tb ty))) 0 (zentry 3 [.ref 0]) [] h 0 0 := by
  show PW G M_WP_takeLeast (zroom 5 0 0) false _ 0 [some (.ref 0), none, none] [] h 0 0
  refine pw_iconst (x := 0) d_WP_takeLeast_0 (by decide) ?_
  refine pw_istore_n d_WP_takeLeast_1 rfl (by decide) (pl' := [some (.ref 0), some (.int (0)), none]) rfl ?_
  obtain ⟨F, ix, iy, iz, ux, uy, uz, l1, l2, l3, ho⟩ := ho
  exact l_takeLeast hr hpl hnu hbc hsf hdr hdc hw htk htc (bc + 1) 0 h _ _ _ _ _ _ _ _ _ _ _ (by omega) (by omega) ho zsm_rf (fun j hj => absurd hj (Nat.not_lt_zero _))
