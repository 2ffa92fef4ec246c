/-- rows of references: inward, slide, directions, planes -/
def zInw : Nat → Option Nat := fun j => if j < 12 then some (5 + 2 * j) else none
def zSld : Nat → Option Nat := fun j => if j < 12 then some (6 + 2 * j) else none
def zDrs : Nat → Option Nat := fun j => if j < 8 then some (76 + j) else none
def zPls : Nat → Option Nat := fun j => if j < 12 then some (52 + 2 * j) else none
theorem zInw_at {j : Nat} (h : j < 12) : zInw j = some (5 + 2 * j) := if_pos h
theorem zSld_at {j : Nat} (h : j < 12) : zSld j = some (6 + 2 * j) := if_pos h
theorem zDrs_at {j : Nat} (h : j < 8) : zDrs j = some (76 + j) := if_pos h
theorem zPls_at {j : Nat} (h : j < 12) : zPls j = some (52 + 2 * j) := if_pos h
/-- an arrow at a place -/
def zAr (h : zH) (k : Nat) (x y z : Int32) : Prop := h[k]? = some (.inr (0, [.int x, .int y, .int z]))
/-- the hold: which faces, inward, slide, line -/
def zHo (h : zH) (fc : Int32) (ix iy iz sx sy sz : Nat → Int32) (l1 l2 l3 : Int32) : Prop := h[1]? = some (.inr (1, [.ref 2, .ref 3, .ref 4, .int fc])) ∧ h[2]? = some (.inl (3, 12, .inr (.inr (.inr (.inr zInw))))) ∧ h[3]? = some (.inl (3, 12, .inr (.inr (.inr (.inr zSld))))) ∧ zAr h 4 l1 l2 l3 ∧ (∀ j, j < 12 → zAr h (5 + 2 * j) (ix j) (iy j) (iz j)) ∧ ∀ j, j < 12 → zAr h (6 + 2 * j) (sx j) (sy j) (sz j)
/-- the rock's own rows -/
def zRk (h : zH) (jc bc : Nat) (sx sy sz kn : Int32) (sd fc cc nu pb so : Nat → Int32) : Prop := h[34]? = some (.inr (4, [.ref 35, .ref 36, .ref 43, .ref 44, .ref 45, .ref 46, .int (nI jc), .int (nI bc), .int (sx), .int (sy), .int (sz), .ref 47, .ref 48, .ref 49, .ref 50, .ref 51, .int (kn)])) ∧ h[43]? = some (.inl (0, 64, .inl sd)) ∧ h[44]? = some (.inl (0, 64, .inl fc)) ∧ h[45]? = some (.inl (0, 64, .inl cc)) ∧ h[46]? = some (.inl (0, 64, .inl nu)) ∧ h[47]? = some (.inl (0, 6, .inl pb)) ∧ h[48]? = some (.inl (0, 220, .inl so))
/-- the planes: normals and d -/
def zPl (h : zH) (A B C D : Nat → Int32) : Prop := h[35]? = some (.inl (4, 12, .inr (.inr (.inr (.inr zPls))))) ∧ (∀ j, j < 12 → h[52 + 2 * j]? = some (.inr (2, [.ref (53 + 2 * j), .int (D j)]))) ∧ ∀ j, j < 12 → zAr h (53 + 2 * j) (A j) (B j) (C j)
/-- the class's own object: taken blocks, directions, open faces -/
def zWp (h : zH) (tc dc : Nat) (op : Int32) (tk tb ty : Nat → Int32) : Prop := h[0]? = some (.inr (5, [.ref 34, .ref 1, .ref 29, .ref 30, .ref 31, .ref 32, .ref 33, .int (nI tc), .int (nI dc), .int op])) ∧ h[31]? = some (.inl (1, 64, .inl tk)) ∧ h[32]? = some (.inl (0, 64, .inl tb)) ∧ h[33]? = some (.inl (0, 64, .inl ty))
/-- directions and pull -/
def zDr (h : zH) (dx dy dz : Nat → Int32) (p1 p2 p3 : Int32) : Prop := h[29]? = some (.inl (3, 8, .inr (.inr (.inr (.inr zDrs))))) ∧ (∀ j, j < 8 → zAr h (76 + j) (dx j) (dy j) (dz j)) ∧ zAr h 30 p1 p2 p3
theorem zAr_ne {h h1 : zH} {k j : Nat} {c : zE} {x y z : Int32} (e : h1 = h.set k c) (hne : k ≠ j) (ha : zAr h j x y z) : zAr h1 j x y z := zg_ne e hne ha
theorem zHo_1 {h h1 : zH} {fc fc' : Int32} {ix iy iz sx sy sz : Nat → Int32} {l1 l2 l3 : Int32} (ho : zHo h fc ix iy iz sx sy sz l1 l2 l3) (e : h1 = h.set 1 (.inr (1, [.ref 2, .ref 3, .ref 4, .int fc']))) : zHo h1 fc' ix iy iz sx sy sz l1 l2 l3 :=
  ⟨zg_eq e ho.1, zg_ne e (by decide) ho.2.1, zg_ne e (by decide) ho.2.2.1, zg_ne e (by decide) ho.2.2.2.1, fun j hj => zAr_ne e (by omega) (ho.2.2.2.2.1 j hj), fun j hj => zAr_ne e (by omega) (ho.2.2.2.2.2 j hj)⟩
theorem zHo_in {h h1 : zH} {fc : Int32} {ix iy iz sx sy sz : Nat → Int32} {l1 l2 l3 u v w : Int32} {i : Nat} (hi : i < 12) (ho : zHo h fc ix iy iz sx sy sz l1 l2 l3) (e : h1 = h.set (5 + 2 * i) (.inr (0, [.int u, .int v, .int w]))) : zHo h1 fc (upd ix i u) (upd iy i v) (upd iz i w) sx sy sz l1 l2 l3 := by
  refine ⟨zg_ne e (by omega) ho.1, zg_ne e (by omega) ho.2.1, zg_ne e (by omega) ho.2.2.1, zg_ne e (by omega) ho.2.2.2.1, fun j hj => ?_, fun j hj => zAr_ne e (by omega) (ho.2.2.2.2.2 j hj)⟩
  by_cases hji : j = i
  · subst hji
    simp only [pk_us]
    exact zg_eq e (ho.2.2.2.2.1 j hj)
  · simp only [pk_un hji]
    exact zAr_ne e (by omega) (ho.2.2.2.2.1 j hj)
theorem zHo_sl {h h1 : zH} {fc : Int32} {ix iy iz sx sy sz : Nat → Int32} {l1 l2 l3 u v w : Int32} {i : Nat} (hi : i < 12) (ho : zHo h fc ix iy iz sx sy sz l1 l2 l3) (e : h1 = h.set (6 + 2 * i) (.inr (0, [.int u, .int v, .int w]))) : zHo h1 fc ix iy iz (upd sx i u) (upd sy i v) (upd sz i w) l1 l2 l3 := by
  refine ⟨zg_ne e (by omega) ho.1, zg_ne e (by omega) ho.2.1, zg_ne e (by omega) ho.2.2.1, zg_ne e (by omega) ho.2.2.2.1, fun j hj => zAr_ne e (by omega) (ho.2.2.2.2.1 j hj), fun j hj => ?_⟩
  by_cases hji : j = i
  · subst hji
    simp only [pk_us]
    exact zg_eq e (ho.2.2.2.2.2 j hj)
  · simp only [pk_un hji]
    exact zAr_ne e (by omega) (ho.2.2.2.2.2 j hj)
theorem zHo_li {h h1 : zH} {fc : Int32} {ix iy iz sx sy sz : Nat → Int32} {l1 l2 l3 u v w : Int32} (ho : zHo h fc ix iy iz sx sy sz l1 l2 l3) (e : h1 = h.set 4 (.inr (0, [.int u, .int v, .int w]))) : zHo h1 fc ix iy iz sx sy sz u v w :=
  ⟨zg_ne e (by decide) ho.1, zg_ne e (by decide) ho.2.1, zg_ne e (by decide) ho.2.2.1, zg_eq e ho.2.2.2.1, fun j hj => zAr_ne e (by omega) (ho.2.2.2.2.1 j hj), fun j hj => zAr_ne e (by omega) (ho.2.2.2.2.2 j hj)⟩
/-- the places of the hold -/
def zHS : List Nat := List.range' 1 28
set_option maxRecDepth 20000 in
set_option maxHeartbeats 2000000 in
theorem c_Hold_clear {G : zG} {h : zH} {fc : Int32} {ix iy iz sx sy sz : Nat → Int32} {l1 l2 l3 : Int32} (ho : zHo h fc ix iy iz sx sy sz l1 l2 l3) : PW G M_Hold_clear (zroom 0 0 0) false (fun r h' => r = .inl none ∧ zHo h' 0 ix iy iz sx sy sz l1 l2 l3 ∧ zsm zHS h h') 0 (zentry 1 [.ref 1]) [] h 0 0 := by
  show PW G M_Hold_clear (zroom 0 0 0) false _ 0 [some (.ref 1)] [] h 0 0
  refine pw_aload_n d_Hold_clear_0 rfl rfl ?_
  refine pw_iconst (x := 0) d_Hold_clear_1 (by decide) ?_
  obtain ⟨h_1, eh_1⟩ : ∃ x_9, x_9 = List.set h (1) (.inr (1, [.ref 2, .ref 3, .ref 4, .int (0)])) := ⟨_, rfl⟩
  refine pw_put rfl d_Hold_clear_2 (fp_Hold_25 _ _) ho.1 (Nat.le_of_ble_eq_true rfl) (fun _ => ⟨rfl, rfl⟩) eh_1.symm ?_
  refine pw_return d_Hold_clear_5 rfl (by decide) (by decide) ?_
  exact ⟨rfl, zHo_1 ho eh_1, zsm_st zsm_rf eh_1 (by decide)⟩
set_option maxRecDepth 20000 in
set_option maxHeartbeats 2000000 in
theorem c_Hold_add {G : zG} {h : zH} {fc : Int32} {ix iy iz sx sy sz : Nat → Int32} {l1 l2 l3 : Int32} (ho : zHo h fc ix iy iz sx sy sz l1 l2 l3) {j n : Nat} (hj : j < 12) (hn28 : 28 < n) {n1 n2 n3 s : Int32} (hn : h[n]? = some (.inr (0, [.int n1, .int n2, .int n3]))) : PW G M_Hold_add (zroom 2 0 0) false (fun r h' => r = .inl none ∧ zHo h' (fc ||| (1 <<< (nI j &&& 31))) (upd ix j (n1 * (if s = 0 then -1 else 1))) (upd iy j (n2 * (if s = 0 then -1 else 1))) (upd iz j (n3 * (if s = 0 then -1 else 1))) sx sy sz l1 l2 l3 ∧ zsm zHS h h') 0 (zentry 4 [.ref 1, .int (nI j), .ref n, .int (s)]) [] h 0 0 := by
  show PW G M_Hold_add (zroom 2 0 0) false _ 0 [some (.ref 1), some (.int (nI j)), some (.ref n), some (.int (s))] [] h 0 0
  refine pw_aload_n d_Hold_add_0 rfl rfl ?_
  refine pw_dup d_Hold_add_1 rfl ?_
  refine pw_get d_Hold_add_2 fl_Hold_25 ho.1 rfl ?_
  refine pw_iconst (x := 1) d_Hold_add_5 (by decide) ?_
  refine pw_iload_n d_Hold_add_6 rfl rfl ?_
  refine pw_ishl d_Hold_add_7 ?_
  refine pw_ior d_Hold_add_8 ?_
  obtain ⟨h_1, eh_1⟩ : ∃ x_9, x_9 = List.set h (1) (.inr (1, [.ref 2, .ref 3, .ref 4, .int ((fc ||| (1 <<< ((nI j) &&& 31))))])) := ⟨_, rfl⟩
  refine pw_put rfl d_Hold_add_9 (fp_Hold_25 _ _) ho.1 (Nat.le_of_ble_eq_true rfl) (fun _ => ⟨rfl, rfl⟩) eh_1.symm ?_
  refine pw_aload_n d_Hold_add_12 rfl rfl ?_
  refine pw_get d_Hold_add_13 fl_Hold_11 (zg_eq eh_1 ho.1) rfl ?_
  refine pw_iload_n d_Hold_add_16 rfl rfl ?_
  refine pw_aald (y := 5 + 2 * j) d_Hold_add_17 (zg_ne eh_1 (by decide) ho.2.1) rfl rfl hj (by decide) (zInw_at hj) ?_
  refine pw_aload_n d_Hold_add_18 rfl rfl ?_
  refine pw_iload_n d_Hold_add_19 rfl rfl ?_
  refine pw_if_eq 27 d_Hold_add_20 (by decide) (fun q_s => ?_) (fun q_s => ?_)
  · refine pw_iconst (x := (-1)) d_Hold_add_27 (by decide) ?_
    obtain ⟨h_2, eh_2⟩ : ∃ x_9, x_9 = List.set h_1 (5 + 2 * j) (.inr (0, [.int (n1 * (-1)), .int (n2 * (-1)), .int (n3 * (-1))])) := ⟨_, rfl⟩
    refine pw_callV0 (R' := (zroom 1 0 0)) (h2 := h_2) [.ref n, .int ((-1))] (fun q => nomatch q) d_Hold_add_28 lk_Hold_29 (zg_ne eh_1 (by omega) (ho.2.2.2.2.1 j hj)) rfl rfl rfl (c_Arrow_setScaled (zg_ne eh_1 (by omega) (ho.2.2.2.2.1 j hj)) (zg_ne eh_1 (by omega) hn) eh_2) ?_
    refine pw_return d_Hold_add_31 rfl (by decide) (by decide) ?_
    refine ⟨rfl, ?_, zsm_st (zsm_st zsm_rf eh_1 (by decide)) eh_2 (List.mem_range'_1.mpr (by omega))⟩
    rw [if_pos q_s]
    exact zHo_in hj (zHo_1 ho eh_1) eh_2
  · refine pw_iconst (x := 1) d_Hold_add_23 (by decide) ?_
    refine pw_goto 28 d_Hold_add_24 (by decide) ?_
    obtain ⟨h_3, eh_3⟩ : ∃ x_9, x_9 = List.set h_1 (5 + 2 * j) (.inr (0, [.int (n1 * 1), .int (n2 * 1), .int (n3 * 1)])) := ⟨_, rfl⟩
    refine pw_callV0 (R' := (zroom 1 0 0)) (h2 := h_3) [.ref n, .int (1)] (fun q => nomatch q) d_Hold_add_28 lk_Hold_29 (zg_ne eh_1 (by omega) (ho.2.2.2.2.1 j hj)) rfl rfl rfl (c_Arrow_setScaled (zg_ne eh_1 (by omega) (ho.2.2.2.2.1 j hj)) (zg_ne eh_1 (by omega) hn) eh_3) ?_
    refine pw_return d_Hold_add_31 rfl (by decide) (by decide) ?_
    refine ⟨rfl, ?_, zsm_st (zsm_st zsm_rf eh_1 (by decide)) eh_3 (List.mem_range'_1.mpr (by omega))⟩
    rw [if_neg q_s]
    exact zHo_in hj (zHo_1 ho eh_1) eh_3
set_option maxRecDepth 20000 in
set_option maxHeartbeats 2000000 in
theorem l_lets {G : zG} {h : zH} {fc : Int32} {ix iy iz sx sy sz : Nat → Int32} {l1 l2 l3 : Int32} (ho : zHo h fc ix iy iz sx sy sz l1 l2 l3) {w : Nat} {w1 w2 w3 : Int32} (hwa : h[w]? = some (.inr (0, [.int w1, .int w2, .int w3]))) (hz0 : ¬ (w1 = 0 ∧ w2 = 0 ∧ w3 = 0)) : ∀ (n i : Nat), 12 - i < n → i ≤ 12 → (∀ f, f < i → (fc >>> (nI f &&& 31)) &&& 1 = 1 → ¬ (w1 * ix f + w2 * iy f + w3 * iz f < 0)) → PW G M_Hold_lets (zroom 1 0 0) true (fun r h' => ∃ t : Int32, r = .inl (some (.int t)) ∧ h' = h ∧ ((t = 1 ∧ ¬ (w1 = 0 ∧ w2 = 0 ∧ w3 = 0) ∧ ∀ f, f < 12 → (fc >>> (nI f &&& 31)) &&& 1 = 1 → ¬ (w1 * ix f + w2 * iy f + w3 * iz f < 0)) ∨ (t = 0 ∧ ¬ (¬ (w1 = 0 ∧ w2 = 0 ∧ w3 = 0) ∧ ∀ f, f < 12 → (fc >>> (nI f &&& 31)) &&& 1 = 1 → ¬ (w1 * ix f + w2 * iy f + w3 * iz f < 0))))) 11 [some (.ref 1), some (.ref w), some (.int (nI i))] [] h 0 0 := by
  intro n
  induction n with
  | zero => intro i hn; exact absurd hn (Nat.not_lt_zero _)
  | succ n ih =>
    intro i hn hi hv
    refine pw_iload_n d_Hold_lets_11 rfl rfl ?_
    refine pw_bipush (x := 12) d_Hold_lets_12 (by decide) ?_
    refine pw_icmp_ge 49 d_Hold_lets_14 (by decide) (fun q_c => ?_) (fun q_c => ?_)
    · refine pw_iconst (x := 1) d_Hold_lets_49 (by decide) ?_
      refine pw_zreturn d_Hold_lets_50 rfl (by decide) (by decide) (by decide) ?_
      have hic : i = 12 := by have := (nI_leI (a := 12) (b := i) (by decide) (by omega)).mp q_c; omega
      subst hic
      exact ⟨1, rfl, rfl, Or.inl ⟨rfl, hz0, hv⟩⟩
    · have hic : i < 12 := by have := mt (nI_leI (a := 12) (b := i) (by decide) (by omega)).mpr q_c; omega
      refine pw_aload_n d_Hold_lets_17 rfl rfl ?_
      refine pw_get d_Hold_lets_18 fl_Hold_25 ho.1 rfl ?_
      refine pw_iload_n d_Hold_lets_21 rfl rfl ?_
      refine pw_callS1 (R' := (zroom 0 0 0)) (h2 := h) [.int (fc), .int (nI i)] (fun _ => rfl) d_Hold_lets_22 lk_Hold_37 rfl rfl c_hasBit ?_
      refine pw_if_eq 43 d_Hold_lets_25 (by decide) (fun q_1 => ?_) (fun q_1 => ?_)
      · refine pw_iinc (y := nI (i + 1)) d_Hold_lets_43 rfl (nI_1 i) (by decide) (pl' := [some (.ref 1), some (.ref w), some (.int (nI (i + 1)))]) rfl ?_
        refine pw_goto 11 d_Hold_lets_46 (by decide) ?_
        exact ih (i + 1) (by omega) (by omega) (fun f hf => by rcases Nat.lt_succ_iff_lt_or_eq.mp hf with h1 | rfl; exact hv f h1; grind [zlt, zle])
      · refine pw_aload_n d_Hold_lets_28 rfl rfl ?_
        refine pw_aload_n d_Hold_lets_29 rfl rfl ?_
        refine pw_get d_Hold_lets_30 fl_Hold_11 ho.1 rfl ?_
        refine pw_iload_n d_Hold_lets_33 rfl rfl ?_
        refine pw_aald (y := 5 + 2 * i) d_Hold_lets_34 ho.2.1 rfl rfl hic (by decide) (zInw_at hic) ?_
        refine pw_callV1 (R' := (zroom 0 0 0)) (h2 := h) [.ref (5 + 2 * i)] (fun _ => rfl) d_Hold_lets_35 lk_Hold_41 hwa rfl rfl rfl (c_Arrow_times hwa (ho.2.2.2.2.1 i hic)) ?_
        refine pw_if_ge 43 d_Hold_lets_38 (by decide) (fun q_2 => ?_) (fun q_2 => ?_)
        · refine pw_iinc (y := nI (i + 1)) d_Hold_lets_43 rfl (nI_1 i) (by decide) (pl' := [some (.ref 1), some (.ref w), some (.int (nI (i + 1)))]) rfl ?_
          refine pw_goto 11 d_Hold_lets_46 (by decide) ?_
          exact ih (i + 1) (by omega) (by omega) (fun f hf => by rcases Nat.lt_succ_iff_lt_or_eq.mp hf with h1 | rfl; exact hv f h1; grind [zlt, zle])
        · refine pw_iconst (x := 0) d_Hold_lets_41 (by decide) ?_
          refine pw_zreturn d_Hold_lets_42 rfl (by decide) (by decide) (by decide) ?_
          exact ⟨0, rfl, rfl, Or.inr ⟨rfl, fun hh => hh.2 i hic (by grind) (by grind [zlt, zle])⟩⟩
set_option maxRecDepth 20000 in
set_option maxHeartbeats 2000000 in
theorem c_lets {G : zG} {h : zH} {fc : Int32} {ix iy iz sx sy sz : Nat → Int32} {l1 l2 l3 : Int32} (ho : zHo h fc ix iy iz sx sy sz l1 l2 l3) {w : Nat} {w1 w2 w3 : Int32} (hwa : h[w]? = some (.inr (0, [.int w1, .int w2, .int w3]))) : PW G M_Hold_lets (zroom 1 0 0) true (fun r h' => ∃ t : Int32, r = .inl (some (.int t)) ∧ h' = h ∧ ((t = 1 ∧ ¬ (w1 = 0 ∧ w2 = 0 ∧ w3 = 0) ∧ ∀ f, f < 12 → (fc >>> (nI f &&& 31)) &&& 1 = 1 → ¬ (w1 * ix f + w2 * iy f + w3 * iz f < 0)) ∨ (t = 0 ∧ ¬ (¬ (w1 = 0 ∧ w2 = 0 ∧ w3 = 0) ∧ ∀ f, f < 12 → (fc >>> (nI f &&& 31)) &&& 1 = 1 → ¬ (w1 * ix f + w2 * iy f + w3 * iz f < 0))))) 0 (zentry 3 [.ref 1, .ref w]) [] h 0 0 := by
  show PW G M_Hold_lets (zroom 1 0 0) true _ 0 [some (.ref 1), some (.ref w), none] [] h 0 0
  refine pw_aload_n d_Hold_lets_0 rfl rfl ?_
  refine pw_callV1 (R' := (zroom 0 0 0)) (h2 := h) [] (fun _ => rfl) d_Hold_lets_1 lk_Hold_33 hwa rfl rfl rfl (c_Arrow_isZero hwa) ?_
  refine pw_if_eq 9 d_Hold_lets_4 (by decide) (fun q_z => ?_) (fun q_z => ?_)
  · refine pw_iconst (x := 0) d_Hold_lets_9 (by decide) ?_
    refine pw_istore_n d_Hold_lets_10 rfl (by decide) (pl' := [some (.ref 1), some (.ref w), some (.int (0))]) rfl ?_
    exact l_lets ho hwa (by grind) 13 0 (by decide) (by decide) (fun f hf => absurd hf (Nat.not_lt_zero _))
  · refine pw_iconst (x := 0) d_Hold_lets_7 (by decide) ?_
    refine pw_zreturn d_Hold_lets_8 rfl (by decide) (by decide) (by decide) ?_
    exact ⟨0, rfl, rfl, Or.inr ⟨rfl, by grind⟩⟩
