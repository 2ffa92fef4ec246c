set_option maxRecDepth 20000 in
set_option maxHeartbeats 2000000 in
theorem c_lookAtHold {G : zG} {h : zH} {tc dc : Nat} {op : Int32} {tk tb ty : Nat → Int32} (hw : zWp h tc dc op tk tb ty) {jc bc : Nat} {sx sy sz kn : Int32} {sd fc cc nu pb so : Nat → Int32} (hr : zRk h jc bc sx sy sz kn sd fc cc nu pb so) {A B C D : Nat → Int32} (hpl : zPl h A B C D) (hnu : ∀ m, m < 64 → nu m = -1 ∨ ∃ o, o < 64 ∧ nu m = nI o) (htk : ∀ o, o < 64 → tk o = 0 ∨ tk o = 1) {k s : Nat} (hk : k < 64) (hs : s < 64) (hsd : sd k = nI s) {ux uy uz : Nat → Int32} {l1 l2 l3 : Int32} {F0 : Int32} {jx jy jz : Nat → Int32} (ho : zHo h F0 jx jy jz ux uy uz l1 l2 l3) : PW G M_WP_lookAtHold (zroom 3 0 0) false (fun r h' => r = .inl none ∧ ∃ (F : Int32) (ix iy iz : Nat → Int32), zHo h' F ix iy iz ux uy uz l1 l2 l3 ∧ zsm zHS h h' ∧ (∀ f, f < 12 → ((F >>> (nI f &&& 31)) &&& 1 = 1 ↔ ((fc k >>> (nI f &&& 31)) &&& 1 = 1 ∧ ¬ (if 6 ≤ f then (op >>> (nI f &&& 31)) &&& 1 = 1 else ((fc k >>> (nI f &&& 31)) &&& 1 = 1 ∧ ∃ o, o < 64 ∧ nu (s ^^^ (1 <<< f)) = nI o ∧ tk o = 1))))) ∧ (∀ f, f < 12 → ((fc k >>> (nI f &&& 31)) &&& 1 = 1 ∧ ¬ (if 6 ≤ f then (op >>> (nI f &&& 31)) &&& 1 = 1 else ((fc k >>> (nI f &&& 31)) &&& 1 = 1 ∧ ∃ o, o < 64 ∧ nu (s ^^^ (1 <<< f)) = nI o ∧ tk o = 1))) → ix f = A f * (if (if ((sd k ||| 1344) >>> (nI f &&& 31)) &&& 1 = 1 then (1 : Int32) else 0) = 0 then (-1 : Int32) else 1) ∧ iy f = B f * (if (if ((sd k ||| 1344) >>> (nI f &&& 31)) &&& 1 = 1 then (1 : Int32) else 0) = 0 then (-1 : Int32) else 1) ∧ iz f = C f * (if (if ((sd k ||| 1344) >>> (nI f &&& 31)) &&& 1 = 1 then (1 : Int32) else 0) = 0 then (-1 : Int32) else 1))) 0 (zentry 4 [.ref 0, .int (nI k)]) [] h 0 0 := by
  show PW G M_WP_lookAtHold (zroom 3 0 0) false _ 0 [some (.ref 0), some (.int (nI k)), none, none] [] h 0 0
  refine pw_aload_n d_WP_lookAtHold_0 rfl rfl ?_
  refine pw_get d_WP_lookAtHold_1 fl_WP_57 hw.1 rfl ?_
  refine pw_get d_WP_lookAtHold_4 fl_WP_122 hr.1 rfl ?_
  refine pw_iload_n d_WP_lookAtHold_7 rfl rfl ?_
  refine pw_iald d_WP_lookAtHold_8 hr.2.1 rfl rfl hk (by decide) ?_
  refine pw_sipush (x := 1344) d_WP_lookAtHold_9 (by decide) ?_
  refine pw_ior d_WP_lookAtHold_12 ?_
  refine pw_istore_n d_WP_lookAtHold_13 rfl (by decide) (pl' := [some (.ref 0), some (.int (nI k)), some (.int ((sd k ||| 1344))), none]) rfl ?_
  refine pw_aload_n d_WP_lookAtHold_14 rfl rfl ?_
  refine pw_get d_WP_lookAtHold_15 fl_WP_12 hw.1 rfl ?_
  refine pw_callVu (R' := (zroom 0 0 0)) [] (fun q => nomatch q) d_WP_lookAtHold_18 lk_WP_217 ho.1 rfl rfl rfl (c_Hold_clear ho) (fun h1 hh => ?_)
  refine pw_iconst (x := 0) d_WP_lookAtHold_21 (by decide) ?_
  refine pw_istore_n d_WP_lookAtHold_22 rfl (by decide) (pl' := [some (.ref 0), some (.int (nI k)), some (.int ((sd k ||| 1344))), some (.int (0))]) rfl ?_
  exact l_look hw hr hpl hnu htk hk hs hsd (fun h F ix iy iz a1 a2 a3 a4 => ⟨rfl, F, ix, iy, iz, a1, a2, a3, a4⟩) 13 0 h1 0 jx jy jz (by decide) (by decide) hh.1 hh.2 (fun f hf => ⟨fun q => absurd q (zB_0 (by omega)), fun q => absurd q.1 (Nat.not_lt_zero _)⟩) (fun f hf => absurd hf (Nat.not_lt_zero _))
theorem zDr_sm {h0 h : zH} {dx dy dz : Nat → Int32} {p1 p2 p3 : Int32} (hz : zsm zHS h0 h) (hd : zDr h0 dx dy dz p1 p2 p3) : zDr h dx dy dz p1 p2 p3 :=
  ⟨zsm_at hz (zHS_no (by omega)) hd.1, fun j hj => zsm_at hz (zHS_no (by omega)) (hd.2.1 j hj), zsm_at hz (zHS_no (by omega)) hd.2.2⟩
/-- 'lets' of the hold, said of the block -/
theorem zgo {op : Int32} {tk : Nat → Int32} {sd fc nu A B C : Nat → Int32} {k s : Nat} {F : Int32} {ix iy iz : Nat → Int32} {w1 w2 w3 : Int32} (hv1 : ∀ f, f < 12 → ((F >>> (nI f &&& 31)) &&& 1 = 1 ↔ ((fc k >>> (nI f &&& 31)) &&& 1 = 1 ∧ ¬ (if 6 ≤ f then (op >>> (nI f &&& 31)) &&& 1 = 1 else ((fc k >>> (nI f &&& 31)) &&& 1 = 1 ∧ ∃ o, o < 64 ∧ nu (s ^^^ (1 <<< f)) = nI o ∧ tk o = 1))))) (hv2 : ∀ f, f < 12 → ((fc k >>> (nI f &&& 31)) &&& 1 = 1 ∧ ¬ (if 6 ≤ f then (op >>> (nI f &&& 31)) &&& 1 = 1 else ((fc k >>> (nI f &&& 31)) &&& 1 = 1 ∧ ∃ o, o < 64 ∧ nu (s ^^^ (1 <<< f)) = nI o ∧ tk o = 1))) → ix f = A f * (if (if ((sd k ||| 1344) >>> (nI f &&& 31)) &&& 1 = 1 then (1 : Int32) else 0) = 0 then (-1 : Int32) else 1) ∧ iy f = B f * (if (if ((sd k ||| 1344) >>> (nI f &&& 31)) &&& 1 = 1 then (1 : Int32) else 0) = 0 then (-1 : Int32) else 1) ∧ iz f = C f * (if (if ((sd k ||| 1344) >>> (nI f &&& 31)) &&& 1 = 1 then (1 : Int32) else 0) = 0 then (-1 : Int32) else 1)) :
    (¬ (w1 = 0 ∧ w2 = 0 ∧ w3 = 0) ∧ ∀ f, f < 12 → (F >>> (nI f &&& 31)) &&& 1 = 1 → ¬ (w1 * ix f + w2 * iy f + w3 * iz f < 0)) ↔ (¬ (w1 = 0 ∧ w2 = 0 ∧ w3 = 0) ∧ ∀ f, f < 12 → ((fc k >>> (nI f &&& 31)) &&& 1 = 1 ∧ ¬ (if 6 ≤ f then (op >>> (nI f &&& 31)) &&& 1 = 1 else ((fc k >>> (nI f &&& 31)) &&& 1 = 1 ∧ ∃ o, o < 64 ∧ nu (s ^^^ (1 <<< f)) = nI o ∧ tk o = 1))) → ¬ (w1 * (A f * (if (if ((sd k ||| 1344) >>> (nI f &&& 31)) &&& 1 = 1 then (1 : Int32) else 0) = 0 then (-1 : Int32) else 1)) + w2 * (B f * (if (if ((sd k ||| 1344) >>> (nI f &&& 31)) &&& 1 = 1 then (1 : Int32) else 0) = 0 then (-1 : Int32) else 1)) + w3 * (C f * (if (if ((sd k ||| 1344) >>> (nI f &&& 31)) &&& 1 = 1 then (1 : Int32) else 0) = 0 then (-1 : Int32) else 1)) < 0)) := by
  constructor
  · rintro ⟨h1, h2⟩
    refine ⟨h1, fun f hf hd => ?_⟩
    obtain ⟨e1, e2, e3⟩ := hv2 f hf hd
    have := h2 f hf ((hv1 f hf).mpr hd)
    rw [e1, e2, e3] at this
    exact this
  · rintro ⟨h1, h2⟩
    refine ⟨h1, fun f hf hb => ?_⟩
    have hd := (hv1 f hf).mp hb
    obtain ⟨e1, e2, e3⟩ := hv2 f hf hd
    rw [e1, e2, e3]
    exact h2 f hf hd
set_option maxRecDepth 20000 in
set_option maxHeartbeats 2000000 in
theorem l_leastDir {G : zG} {h : zH} {tc dc : Nat} {op : Int32} {tk tb ty : Nat → Int32} (hw : zWp h tc dc op tk tb ty) {jc bc : Nat} {sx sy sz kn : Int32} {sd fc cc nu pb so : Nat → Int32} (hr : zRk h jc bc sx sy sz kn sd fc cc nu pb so) {A B C D : Nat → Int32} (hpl : zPl h A B C D) (hnu : ∀ m, m < 64 → nu m = -1 ∨ ∃ o, o < 64 ∧ nu m = nI o) (htk : ∀ o, o < 64 → tk o = 0 ∨ tk o = 1) {k s : Nat} (hk : k < 64) (hs : s < 64) (hsd : sd k = nI s) {ux uy uz : Nat → Int32} {l1 l2 l3 : Int32} {dx dy dz : Nat → Int32} {p1 p2 p3 : Int32} (hdr : zDr h dx dy dz p1 p2 p3) (hdc : dc ≤ 8) {F : Int32} {ix iy iz : Nat → Int32} (ho : zHo h F ix iy iz ux uy uz l1 l2 l3) (hv1 : ∀ f, f < 12 → ((F >>> (nI f &&& 31)) &&& 1 = 1 ↔ ((fc k >>> (nI f &&& 31)) &&& 1 = 1 ∧ ¬ (if 6 ≤ f then (op >>> (nI f &&& 31)) &&& 1 = 1 else ((fc k >>> (nI f &&& 31)) &&& 1 = 1 ∧ ∃ o, o < 64 ∧ nu (s ^^^ (1 <<< f)) = nI o ∧ tk o = 1))))) (hv2 : ∀ f, f < 12 → ((fc k >>> (nI f &&& 31)) &&& 1 = 1 ∧ ¬ (if 6 ≤ f then (op >>> (nI f &&& 31)) &&& 1 = 1 else ((fc k >>> (nI f &&& 31)) &&& 1 = 1 ∧ ∃ o, o < 64 ∧ nu (s ^^^ (1 <<< f)) = nI o ∧ tk o = 1))) → ix f = A f * (if (if ((sd k ||| 1344) >>> (nI f &&& 31)) &&& 1 = 1 then (1 : Int32) else 0) = 0 then (-1 : Int32) else 1) ∧ iy f = B f * (if (if ((sd k ||| 1344) >>> (nI f &&& 31)) &&& 1 = 1 then (1 : Int32) else 0) = 0 then (-1 : Int32) else 1) ∧ iz f = C f * (if (if ((sd k ||| 1344) >>> (nI f &&& 31)) &&& 1 = 1 then (1 : Int32) else 0) = 0 then (-1 : Int32) else 1)) : ∀ (n i : Nat) , dc - i < n → i ≤ dc → (∀ j, j < i → ¬ (¬ (dx j = 0 ∧ dy j = 0 ∧ dz j = 0) ∧ ∀ f, f < 12 → ((fc k >>> (nI f &&& 31)) &&& 1 = 1 ∧ ¬ (if 6 ≤ f then (op >>> (nI f &&& 31)) &&& 1 = 1 else ((fc k >>> (nI f &&& 31)) &&& 1 = 1 ∧ ∃ o, o < 64 ∧ nu (s ^^^ (1 <<< f)) = nI o ∧ tk o = 1))) → ¬ (dx j * (A f * (if (if ((sd k ||| 1344) >>> (nI f &&& 31)) &&& 1 = 1 then (1 : Int32) else 0) = 0 then (-1 : Int32) else 1)) + dy j * (B f * (if (if ((sd k ||| 1344) >>> (nI f &&& 31)) &&& 1 = 1 then (1 : Int32) else 0) = 0 then (-1 : Int32) else 1)) + dz j * (C f * (if (if ((sd k ||| 1344) >>> (nI f &&& 31)) &&& 1 = 1 then (1 : Int32) else 0) = 0 then (-1 : Int32) else 1)) < 0))) → PW G M_WP_leastDirection (zroom 4 0 0) false (fun r h' => ∃ t : Int32, r = .inl (some (.int t)) ∧ h' = h ∧ ((∃ i, i < dc ∧ t = nI i ∧ (¬ (dx i = 0 ∧ dy i = 0 ∧ dz i = 0) ∧ ∀ f, f < 12 → ((fc k >>> (nI f &&& 31)) &&& 1 = 1 ∧ ¬ (if 6 ≤ f then (op >>> (nI f &&& 31)) &&& 1 = 1 else ((fc k >>> (nI f &&& 31)) &&& 1 = 1 ∧ ∃ o, o < 64 ∧ nu (s ^^^ (1 <<< f)) = nI o ∧ tk o = 1))) → ¬ (dx i * (A f * (if (if ((sd k ||| 1344) >>> (nI f &&& 31)) &&& 1 = 1 then (1 : Int32) else 0) = 0 then (-1 : Int32) else 1)) + dy i * (B f * (if (if ((sd k ||| 1344) >>> (nI f &&& 31)) &&& 1 = 1 then (1 : Int32) else 0) = 0 then (-1 : Int32) else 1)) + dz i * (C f * (if (if ((sd k ||| 1344) >>> (nI f &&& 31)) &&& 1 = 1 then (1 : Int32) else 0) = 0 then (-1 : Int32) else 1)) < 0)) ∧ ∀ j, j < i → ¬ (¬ (dx j = 0 ∧ dy j = 0 ∧ dz j = 0) ∧ ∀ f, f < 12 → ((fc k >>> (nI f &&& 31)) &&& 1 = 1 ∧ ¬ (if 6 ≤ f then (op >>> (nI f &&& 31)) &&& 1 = 1 else ((fc k >>> (nI f &&& 31)) &&& 1 = 1 ∧ ∃ o, o < 64 ∧ nu (s ^^^ (1 <<< f)) = nI o ∧ tk o = 1))) → ¬ (dx j * (A f * (if (if ((sd k ||| 1344) >>> (nI f &&& 31)) &&& 1 = 1 then (1 : Int32) else 0) = 0 then (-1 : Int32) else 1)) + dy j * (B f * (if (if ((sd k ||| 1344) >>> (nI f &&& 31)) &&& 1 = 1 then (1 : Int32) else 0) = 0 then (-1 : Int32) else 1)) + dz j * (C f * (if (if ((sd k ||| 1344) >>> (nI f &&& 31)) &&& 1 = 1 then (1 : Int32) else 0) = 0 then (-1 : Int32) else 1)) < 0))) ∨ (t = -1 ∧ ∀ i, i < dc → ¬ (¬ (dx i = 0 ∧ dy i = 0 ∧ dz i = 0) ∧ ∀ f, f < 12 → ((fc k >>> (nI f &&& 31)) &&& 1 = 1 ∧ ¬ (if 6 ≤ f then (op >>> (nI f &&& 31)) &&& 1 = 1 else ((fc k >>> (nI f &&& 31)) &&& 1 = 1 ∧ ∃ o, o < 64 ∧ nu (s ^^^ (1 <<< f)) = nI o ∧ tk o = 1))) → ¬ (dx i * (A f * (if (if ((sd k ||| 1344) >>> (nI f &&& 31)) &&& 1 = 1 then (1 : Int32) else 0) = 0 then (-1 : Int32) else 1)) + dy i * (B f * (if (if ((sd k ||| 1344) >>> (nI f &&& 31)) &&& 1 = 1 then (1 : Int32) else 0) = 0 then (-1 : Int32) else 1)) + dz i * (C f * (if (if ((sd k ||| 1344) >>> (nI f &&& 31)) &&& 1 = 1 then (1 : Int32) else 0) = 0 then (-1 : Int32) else 1)) < 0))))) 18 [some (.ref 0), some (.int (nI k)), some (.int (nI i))] [] h 0 0 := by
  intro n
  induction n with
  | zero => intro i  hn; exact absurd hn (Nat.not_lt_zero _)
  | succ n ih =>
    intro i  hn hi hv
    refine pw_iload_n d_WP_leastDirection_18 rfl rfl ?_
    refine pw_aload_n d_WP_leastDirection_19 rfl rfl ?_
    refine pw_get d_WP_leastDirection_20 fl_WP_42 hw.1 rfl ?_
    refine pw_icmp_ge 50 d_WP_leastDirection_23 (by decide) (fun q_c => ?_) (fun q_c => ?_)
    · refine pw_iconst (x := (-1)) d_WP_leastDirection_50 (by decide) ?_
      refine pw_ireturn d_WP_leastDirection_51 rfl (by decide) (by decide) ?_
      have hic : i = dc := by have := (nI_leI (a := dc) (b := i) (by omega) (by omega)).mp q_c; omega
      subst hic
      exact ⟨-1, rfl, rfl, Or.inr ⟨rfl, hv⟩⟩
    · have hic : i < dc := by have := mt (nI_leI (a := dc) (b := i) (by omega) (by omega)).mpr q_c; omega
      refine pw_aload_n d_WP_leastDirection_26 rfl rfl ?_
      refine pw_get d_WP_leastDirection_27 fl_WP_12 hw.1 rfl ?_
      refine pw_aload_n d_WP_leastDirection_30 rfl rfl ?_
      refine pw_get d_WP_leastDirection_31 fl_WP_18 hw.1 rfl ?_
      refine pw_iload_n d_WP_leastDirection_34 rfl rfl ?_
      refine pw_aald (y := 76 + i) d_WP_leastDirection_35 hdr.1 rfl rfl (by omega) (by decide) (zDrs_at (by omega)) ?_
      refine pw_callVt (R' := (zroom 1 0 0)) [.ref (76 + i)] (fun q => nomatch q) d_WP_leastDirection_36 lk_WP_175 ho.1 rfl rfl rfl (c_lets ho (hdr.2.1 i (by omega))) (fun t ht => ?_)
      refine pw_if_eq 44 d_WP_leastDirection_39 (by decide) (fun q_t => ?_) (fun q_t => ?_)
      · refine pw_iinc (y := nI (i + 1)) d_WP_leastDirection_44 rfl (nI_1 i) (by decide) (pl' := [some (.ref 0), some (.int (nI k)), some (.int (nI (i + 1)))]) rfl ?_
        refine pw_goto 18 d_WP_leastDirection_47 (by decide) ?_
        exact ih (i + 1) (by omega) (by omega) (fun j hj => by
          rcases Nat.lt_succ_iff_lt_or_eq.mp hj with h1 | rfl
          · exact hv j h1
          · rcases ht with ⟨e, -⟩ | ⟨-, h2⟩
            · exact absurd (e.symm.trans q_t) (by decide)
            · exact fun q => h2 ((zgo hv1 hv2).mpr q))
      · refine pw_iload_n d_WP_leastDirection_42 rfl rfl ?_
        refine pw_ireturn d_WP_leastDirection_43 rfl (by decide) (by decide) ?_
        refine ⟨nI i, rfl, rfl, Or.inl ⟨i, hic, rfl, ?_, hv⟩⟩
        rcases ht with ⟨-, h1⟩ | ⟨e, -⟩
        · exact (zgo hv1 hv2).mp h1
        · exact absurd e q_t
