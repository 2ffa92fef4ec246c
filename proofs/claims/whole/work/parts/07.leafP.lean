set_option maxRecDepth 20000 in
set_option maxHeartbeats 2000000 in
theorem l_slideOne {G : zG} {h : zH} {fc : Int32} {ix iy iz sx sy sz : Nat → Int32} {l1 l2 l3 : Int32} (ho : zHo h fc ix iy iz sx sy sz l1 l2 l3) {w : Nat} {g1 g2 g3 : Int32} (hwa : h[w]? = some (.inr (0, [.int g1, .int g2, .int g3]))) : ∀ (n i : Nat) , 12 - i < n → i ≤ 12 → (∀ j, j < i → ¬ ((fc >>> (nI j &&& 31)) &&& 1 = 1 ∧ g1 * ix j + g2 * iy j + g3 * iz j < 0 ∧ (¬ (sx j = 0 ∧ sy j = 0 ∧ sz j = 0) ∧ ∀ f, f < 12 → (fc >>> (nI f &&& 31)) &&& 1 = 1 → ¬ (sx j * ix f + sy j * iy f + sz j * iz f < 0)))) → PW G M_Hold_slideOnOne (zroom 2 0 0) true (fun r h' => ∃ t : Int32, r = .inl (some (.int t)) ∧ h' = h ∧ ((∃ i, i < 12 ∧ t = 10 + nI i ∧ ((fc >>> (nI i &&& 31)) &&& 1 = 1 ∧ g1 * ix i + g2 * iy i + g3 * iz i < 0 ∧ (¬ (sx i = 0 ∧ sy i = 0 ∧ sz i = 0) ∧ ∀ f, f < 12 → (fc >>> (nI f &&& 31)) &&& 1 = 1 → ¬ (sx i * ix f + sy i * iy f + sz i * iz f < 0))) ∧ ∀ j, j < i → ¬ ((fc >>> (nI j &&& 31)) &&& 1 = 1 ∧ g1 * ix j + g2 * iy j + g3 * iz j < 0 ∧ (¬ (sx j = 0 ∧ sy j = 0 ∧ sz j = 0) ∧ ∀ f, f < 12 → (fc >>> (nI f &&& 31)) &&& 1 = 1 → ¬ (sx j * ix f + sy j * iy f + sz j * iz f < 0)))) ∨ (t = 0 ∧ ∀ i, i < 12 → ¬ ((fc >>> (nI i &&& 31)) &&& 1 = 1 ∧ g1 * ix i + g2 * iy i + g3 * iz i < 0 ∧ (¬ (sx i = 0 ∧ sy i = 0 ∧ sz i = 0) ∧ ∀ f, f < 12 → (fc >>> (nI f &&& 31)) &&& 1 = 1 → ¬ (sx i * ix f + sy i * iy f + sz i * iz f < 0)))))) 2 [some (.ref 1), some (.ref w), some (.int (nI i))] [] h 0 0 := by
  intro n
  induction n with
  | zero => intro i  hn; exact absurd hn (Nat.not_lt_zero _)
  | succ n ih =>
    intro i  hn hi hv
    refine pw_iload_n d_Hold_slideOnOne_2 rfl rfl ?_
    refine pw_bipush (x := 12) d_Hold_slideOnOne_3 (by decide) ?_
    refine pw_icmp_ge 56 d_Hold_slideOnOne_5 (by decide) (fun q_c => ?_) (fun q_c => ?_)
    · refine pw_iconst (x := 0) d_Hold_slideOnOne_56 (by decide) ?_
      refine pw_ireturn d_Hold_slideOnOne_57 rfl (by decide) (by decide) ?_
      have hic : i = 12 := by have := (nI_leI (a := 12) (b := i) (by decide) (by omega)).mp q_c; omega
      subst hic
      exact ⟨0, rfl, rfl, Or.inr ⟨rfl, hv⟩⟩
    · have hic : i < 12 := by have := mt (nI_leI (a := 12) (b := i) (by decide) (by omega)).mpr q_c; omega
      refine pw_aload_n d_Hold_slideOnOne_8 rfl rfl ?_
      refine pw_get d_Hold_slideOnOne_9 fl_Hold_25 ho.1 rfl ?_
      refine pw_iload_n d_Hold_slideOnOne_12 rfl rfl ?_
      refine pw_callS1 (R' := (zroom 0 0 0)) (h2 := h) [.int (fc), .int (nI i)] (fun _ => rfl) d_Hold_slideOnOne_13 lk_Hold_37 rfl rfl c_hasBit ?_
      refine pw_if_eq 50 d_Hold_slideOnOne_16 (by decide) (fun q_b => ?_) (fun q_b => ?_)
      · refine pw_iinc (y := nI (i + 1)) d_Hold_slideOnOne_50 rfl (nI_1 i) (by decide) (pl' := [some (.ref 1), some (.ref w), some (.int (nI (i + 1)))]) rfl ?_
        refine pw_goto 2 d_Hold_slideOnOne_53 (by decide) ?_
        have hno : ¬ ((fc >>> (nI i &&& 31)) &&& 1 = 1 ∧ g1 * ix i + g2 * iy i + g3 * iz i < 0 ∧ (¬ (sx i = 0 ∧ sy i = 0 ∧ sz i = 0) ∧ ∀ f, f < 12 → (fc >>> (nI f &&& 31)) &&& 1 = 1 → ¬ (sx i * ix f + sy i * iy f + sz i * iz f < 0))) := fun z => z0 q_b z.1
        exact ih (i + 1) (by omega) (by omega) (fun j hj => by rcases Nat.lt_succ_iff_lt_or_eq.mp hj with h1 | rfl; exact hv j h1; exact hno)
      · refine pw_aload_n d_Hold_slideOnOne_19 rfl rfl ?_
        refine pw_aload_n d_Hold_slideOnOne_20 rfl rfl ?_
        refine pw_get d_Hold_slideOnOne_21 fl_Hold_11 ho.1 rfl ?_
        refine pw_iload_n d_Hold_slideOnOne_24 rfl rfl ?_
        refine pw_aald (y := 5 + 2 * i) d_Hold_slideOnOne_25 ho.2.1 rfl rfl hic (by decide) (zInw_at hic) ?_
        refine pw_callV1 (R' := (zroom 0 0 0)) (h2 := h) [.ref (5 + 2 * i)] (fun _ => rfl) d_Hold_slideOnOne_26 lk_Hold_41 hwa rfl rfl rfl (c_Arrow_times hwa (ho.2.2.2.2.1 i hic)) ?_
        refine pw_if_ge 50 d_Hold_slideOnOne_29 (by decide) (fun q_n => ?_) (fun q_n => ?_)
        · refine pw_iinc (y := nI (i + 1)) d_Hold_slideOnOne_50 rfl (nI_1 i) (by decide) (pl' := [some (.ref 1), some (.ref w), some (.int (nI (i + 1)))]) rfl ?_
          refine pw_goto 2 d_Hold_slideOnOne_53 (by decide) ?_
          have hno : ¬ ((fc >>> (nI i &&& 31)) &&& 1 = 1 ∧ g1 * ix i + g2 * iy i + g3 * iz i < 0 ∧ (¬ (sx i = 0 ∧ sy i = 0 ∧ sz i = 0) ∧ ∀ f, f < 12 → (fc >>> (nI f &&& 31)) &&& 1 = 1 → ¬ (sx i * ix f + sy i * iy f + sz i * iz f < 0))) := fun z => absurd z.2.1 (zlt.mpr q_n)
          exact ih (i + 1) (by omega) (by omega) (fun j hj => by rcases Nat.lt_succ_iff_lt_or_eq.mp hj with h1 | rfl; exact hv j h1; exact hno)
        · refine pw_aload_n d_Hold_slideOnOne_32 rfl rfl ?_
          refine pw_aload_n d_Hold_slideOnOne_33 rfl rfl ?_
          refine pw_get d_Hold_slideOnOne_34 fl_Hold_17 ho.1 rfl ?_
          refine pw_iload_n d_Hold_slideOnOne_37 rfl rfl ?_
          refine pw_aald (y := 6 + 2 * i) d_Hold_slideOnOne_38 ho.2.2.1 rfl rfl hic (by decide) (zSld_at hic) ?_
          refine pw_callVt (R' := (zroom 1 0 0)) [.ref (6 + 2 * i)] (fun _ => rfl) d_Hold_slideOnOne_39 lk_Hold_45 ho.1 rfl rfl rfl (c_lets ho (ho.2.2.2.2.2 i hic)) (fun t ht => ?_)
          refine pw_if_eq 50 d_Hold_slideOnOne_42 (by decide) (fun q_t => ?_) (fun q_t => ?_)
          · refine pw_iinc (y := nI (i + 1)) d_Hold_slideOnOne_50 rfl (nI_1 i) (by decide) (pl' := [some (.ref 1), some (.ref w), some (.int (nI (i + 1)))]) rfl ?_
            refine pw_goto 2 d_Hold_slideOnOne_53 (by decide) ?_
            have hno : ¬ ((fc >>> (nI i &&& 31)) &&& 1 = 1 ∧ g1 * ix i + g2 * iy i + g3 * iz i < 0 ∧ (¬ (sx i = 0 ∧ sy i = 0 ∧ sz i = 0) ∧ ∀ f, f < 12 → (fc >>> (nI f &&& 31)) &&& 1 = 1 → ¬ (sx i * ix f + sy i * iy f + sz i * iz f < 0))) := fun z => by rcases ht with ⟨e, -⟩ | ⟨-, h2⟩; exact absurd (e.symm.trans q_t) (by decide); exact h2 z.2.2
            exact ih (i + 1) (by omega) (by omega) (fun j hj => by rcases Nat.lt_succ_iff_lt_or_eq.mp hj with h1 | rfl; exact hv j h1; exact hno)
          · refine pw_bipush (x := 10) d_Hold_slideOnOne_45 (by decide) ?_
            refine pw_iload_n d_Hold_slideOnOne_47 rfl rfl ?_
            refine pw_iadd d_Hold_slideOnOne_48 ?_
            refine pw_ireturn d_Hold_slideOnOne_49 rfl (by decide) (by decide) ?_
            refine ⟨10 + nI i, rfl, rfl, Or.inl ⟨i, hic, rfl, ⟨z1 q_b, zle.mp q_n, ?_⟩, hv⟩⟩
            rcases ht with ⟨-, h1⟩ | ⟨e, -⟩
            · exact h1
            · exact absurd e q_t
set_option maxRecDepth 20000 in
set_option maxHeartbeats 2000000 in
theorem c_slideOnOne {G : zG} {h : zH} {fc : Int32} {ix iy iz sx sy sz : Nat → Int32} {l1 l2 l3 : Int32} (ho : zHo h fc ix iy iz sx sy sz l1 l2 l3) {w : Nat} {g1 g2 g3 : Int32} (hwa : h[w]? = some (.inr (0, [.int g1, .int g2, .int g3]))) : PW G M_Hold_slideOnOne (zroom 2 0 0) true (fun r h' => ∃ t : Int32, r = .inl (some (.int t)) ∧ h' = h ∧ ((∃ i, i < 12 ∧ t = 10 + nI i ∧ ((fc >>> (nI i &&& 31)) &&& 1 = 1 ∧ g1 * ix i + g2 * iy i + g3 * iz i < 0 ∧ (¬ (sx i = 0 ∧ sy i = 0 ∧ sz i = 0) ∧ ∀ f, f < 12 → (fc >>> (nI f &&& 31)) &&& 1 = 1 → ¬ (sx i * ix f + sy i * iy f + sz i * iz f < 0))) ∧ ∀ j, j < i → ¬ ((fc >>> (nI j &&& 31)) &&& 1 = 1 ∧ g1 * ix j + g2 * iy j + g3 * iz j < 0 ∧ (¬ (sx j = 0 ∧ sy j = 0 ∧ sz j = 0) ∧ ∀ f, f < 12 → (fc >>> (nI f &&& 31)) &&& 1 = 1 → ¬ (sx j * ix f + sy j * iy f + sz j * iz f < 0)))) ∨ (t = 0 ∧ ∀ i, i < 12 → ¬ ((fc >>> (nI i &&& 31)) &&& 1 = 1 ∧ g1 * ix i + g2 * iy i + g3 * iz i < 0 ∧ (¬ (sx i = 0 ∧ sy i = 0 ∧ sz i = 0) ∧ ∀ f, f < 12 → (fc >>> (nI f &&& 31)) &&& 1 = 1 → ¬ (sx i * ix f + sy i * iy f + sz i * iz f < 0)))))) 0 (zentry 3 [.ref 1, .ref w]) [] h 0 0 := by
  show PW G M_Hold_slideOnOne (zroom 2 0 0) true _ 0 [some (.ref 1), some (.ref w), none] [] h 0 0
  refine pw_iconst (x := 0) d_Hold_slideOnOne_0 (by decide) ?_
  refine pw_istore_n d_Hold_slideOnOne_1 rfl (by decide) (pl' := [some (.ref 1), some (.ref w), some (.int (0))]) rfl ?_
  exact l_slideOne ho hwa 13 0 (by decide) (by decide) (fun f hf => absurd hf (Nat.not_lt_zero _))
