theorem zct_drop {tk : Nat → Int32} {k n : Nat} (hk : k < n) (h0 : tk k = 0) : zct (fun j => upd tk k 1 j = 0) n + 1 = zct (fun j => tk j = 0) n := by
  induction n with
  | zero => exact absurd hk (Nat.not_lt_zero _)
  | succ n ih =>
    rcases Nat.lt_succ_iff_lt_or_eq.mp hk with h | rfl
    · have e := ih h
      have hu : upd tk k 1 n = tk n := pk_un (by omega)
      by_cases hp : tk n = 0
      · rw [zct_t (P := fun j => tk j = 0) hp, zct_t (P := fun j => upd tk k 1 j = 0) (by rw [hu]; exact hp)]
        omega
      · rw [zct_f (P := fun j => tk j = 0) hp, zct_f (P := fun j => upd tk k 1 j = 0) (by rw [hu]; exact hp)]
        omega
    · rw [zct_t (P := fun j => tk j = 0) h0, zct_f (P := fun j => upd tk k 1 j = 0) (by rw [pk_us]; decide)]
      have : zct (fun j => upd tk k 1 j = 0) k = zct (fun j => tk j = 0) k := zct_cg (fun s hs => by rw [pk_un (by omega)])
      omega
/-- the least block that goes is taken -/
def rSt1 (ml mo bs bf mT : Nat → Int32) (bl dr : Nat) (T T' : zTS) : Prop := ∃ (k : Nat) (t : Int32), k < bl ∧ rLd ml mo T.2.1 bs bf mT bl dr k t ∧ t ≠ -1 ∧ (∀ j, j < k → rLd ml mo T.2.1 bs bf mT bl dr j (-1)) ∧ T' = (T.1 + 1, upd T.2.1 k 1, upd T.2.2.1 T.1 (nI k), upd T.2.2.2 T.1 t)
def rSt0 (ml mo bs bf mT : Nat → Int32) (bl dr : Nat) (T : zTS) : Prop := ∀ k, k < bl → rLd ml mo T.2.1 bs bf mT bl dr k (-1)
def rStn (ml mo bs bf mT : Nat → Int32) (bl dr : Nat) : Nat → zTS → zTS → Prop
  | 0, T, T' => T' = T
  | n + 1, T, T' => ∃ U, rStn ml mo bs bf mT bl dr n T U ∧ rSt1 ml mo bs bf mT bl dr U T'
/-- what is taken, in the reference's rows -/
def rTk (h : zH) (jn dr pn bl : Nat) (T : zTS) : Prop := zMo h 0 jn dr pn bl T.1 ∧ h[97]? = some (.inl (1, 64, .inl T.2.1)) ∧ h[98]? = some (.inl (0, 64, .inl T.2.2.1)) ∧ h[99]? = some (.inl (0, 64, .inl T.2.2.2)) ∧ (∃ v, h[102]? = some (.inl (0, 3, .inl v))) ∧ (∃ v, h[103]? = some (.inl (0, 3, .inl v)))
/-- so many can still be taken -/
def zTo (bl : Nat) (T : zTS) : Prop := (∀ o, o < 64 → T.2.1 o = 0 ∨ T.2.1 o = 1) ∧ T.1 + zct (fun j => T.2.1 j = 0) bl ≤ 64
theorem rLd_0 {ml mo tk bs bf mT : Nat → Int32} {bl dr k : Nat} {t : Int32} (h : rLd ml mo tk bs bf mT bl dr k t) (ht : t ≠ -1) : tk k = 0 := by
  rcases h with ⟨d, -, -, h1, -⟩ | ⟨e, -⟩
  · exact h1
  · exact absurd e ht
def zTq (bl : Nat) (T : zTS) : Prop := T.1 + zct (fun j => T.2.1 j = 0) bl ≤ 64
theorem zTq_s {bl k : Nat} {T : zTS} {t : Int32} (hk : k < bl) (h0 : T.2.1 k = 0) (h : zTq bl T) : zTq bl (T.1 + 1, upd T.2.1 k 1, upd T.2.2.1 T.1 (nI k), upd T.2.2.2 T.1 t) := by
  have := zct_drop (tk := T.2.1) hk h0
  have h2 : T.1 + zct (fun j => T.2.1 j = 0) bl ≤ 64 := h
  show T.1 + 1 + zct (fun j => upd T.2.1 k 1 j = 0) bl ≤ 64
  omega
theorem zTq_lt {bl k : Nat} {T : zTS} (hk : k < bl) (h0 : T.2.1 k = 0) (h : zTq bl T) : T.1 < 64 := by
  have := zct_drop (tk := T.2.1) hk h0
  have h2 : T.1 + zct (fun j => T.2.1 j = 0) bl ≤ 64 := h
  omega
theorem zTo_s {bl k : Nat} {T : zTS} {t : Int32} (hbl : bl ≤ 64) (hk : k < bl) (h0 : T.2.1 k = 0) (h : zTo bl T) : zTo bl (T.1 + 1, upd T.2.1 k 1, upd T.2.2.1 T.1 (nI k), upd T.2.2.2 T.1 t) := by
  refine ⟨fun o ho => ?_, ?_⟩
  · by_cases e : o = k
    · subst e; exact Or.inr pk_us
    · show upd T.2.1 k 1 o = 0 ∨ upd T.2.1 k 1 o = 1
      rw [pk_un e]; exact h.1 o ho
  · have := zct_drop (tk := T.2.1) hk h0
    have h2 := h.2
    show T.1 + 1 + zct (fun j => upd T.2.1 k 1 j = 0) bl ≤ 64
    omega
theorem zTo_lt {bl k : Nat} {T : zTS} (hk : k < bl) (h0 : T.2.1 k = 0) (h : zTo bl T) : T.1 < 64 := by
  have := zct_drop (tk := T.2.1) hk h0
  have h2 := h.2
  omega
set_option maxRecDepth 20000 in
set_option maxHeartbeats 2000000 in
theorem l_order {G : zG} {h0 : zH} {jn dr pn bl : Nat} {ml bs bf mo mT : Nat → Int32} (h860 : h0[86]? = some (.inl (0, 48, .inl ml))) (h950 : h0[95]? = some (.inl (0, 64, .inl bs))) (h960 : h0[96]? = some (.inl (0, 64, .inl bf))) (h870 : h0[87]? = some (.inl (1, 12, .inl mo))) (h880 : h0[88]? = some (.inl (0, 24, .inl mT))) (hbl : bl ≤ 64) (hdr : dr ≤ 8) (hfx : ∀ k, k < bl → ∀ f, f < 6 → (bf k >>> (nI f &&& 31)) &&& 1 = 1 → ∃ o, o < bl ∧ bs o = (bs k ^^^ (1 <<< ((nI f) &&& 31)))) {T0 : zTS} : ∀ (u v k : Nat) (h : zH) (n9 : Nat) (T : zTS), zct (fun j => T.2.1 j = 0) bl < u → bl - k < v → k ≤ bl → rTk h jn dr pn bl T → zsm rTP h0 h → zTq bl T → rStn ml mo bs bf mT bl dr n9 T0 T → (∀ j, j < k → rLd ml mo T.2.1 bs bf mT bl dr j (-1)) → PW G M_Md_order (zroom 5 0 0) false (fun r h' => ∃ (n : Nat) (T' : zTS), r = .inl (some (.int (nI n))) ∧ rStn ml mo bs bf mT bl dr n T0 T' ∧ rSt0 ml mo bs bf mT bl dr T' ∧ rTk h' jn dr pn bl T' ∧ zsm rTP h0 h') 9 [some (.ref 84), some (.int (nI n9)), some (.int (nI k))] [] h 0 0 := by
  intro u
  induction u with
  | zero => intro v k h n9 T hu; exact absurd hu (Nat.not_lt_zero _)
  | succ u ihu =>
    intro v
    induction v with
    | zero => intro k h n9 T hu hv; exact absurd hv (Nat.not_lt_zero _)
    | succ v ih =>
      intro k h n9 T hu hvv hk hT hz ho hn hv
      have h86 := zsm_at hz (by decide) h860
      have h95 := zsm_at hz (by decide) h950
      have h96 := zsm_at hz (by decide) h960
      have h87 := zsm_at hz (by decide) h870
      have h88 := zsm_at hz (by decide) h880
      refine pw_iload_n d_Md_order_9 rfl rfl ?_
      refine pw_aload_n d_Md_order_10 rfl rfl ?_
      refine pw_get d_Md_order_11 fl_Md_111 hT.1 rfl ?_
      refine pw_icmp_ge 40 d_Md_order_14 (by decide) (fun q_c => ?_) (fun q_c => ?_)
      · refine pw_iload_n d_Md_order_40 rfl rfl ?_
        refine pw_ireturn d_Md_order_41 rfl (by decide) (by decide) ?_
        have hkc : k = bl := by have := (nI_leI (a := bl) (b := k) (by omega) (by omega)).mp q_c; omega
        subst hkc
        exact ⟨n9, T, rfl, hn, hv, hT, hz⟩
      · have hkc : k < bl := by have := mt (nI_leI (a := bl) (b := k) (by omega) (by omega)).mpr q_c; omega
        refine pw_aload_n d_Md_order_17 rfl rfl ?_
        refine pw_iload_n d_Md_order_18 rfl rfl ?_
        refine pw_callVw (R' := (zroom 4 0 0)) [.int (nI k)] (fun q => nomatch q) d_Md_order_19 lk_Md_184 hT.1 rfl rfl rfl (c_taking hT.1 h86 h95 h96 h87 h88 hT.2.2.1 hT.2.2.2.1 hT.2.1 hbl (show k < 64 by omega) (hfx k hkc) hdr (fun e => zTq_lt hkc e ho) hT.2.2.2.2.1 hT.2.2.2.2.2) (fun t h9 hh => ?_)
        refine pw_iconst (x := (-1)) d_Md_order_22 (by decide) ?_
        refine pw_icmp_eq 34 d_Md_order_23 (by decide) (fun q_t => ?_) (fun q_t => ?_)
        · refine pw_iinc (y := nI (k + 1)) d_Md_order_34 rfl (nI_1 k) (by decide) (pl' := [some (.ref 84), some (.int (nI n9)), some (.int (nI (k + 1)))]) rfl ?_
          refine pw_goto 9 d_Md_order_37 (by decide) ?_
          obtain ⟨k1, k2, k3, k4, k5⟩ := hh
          obtain ⟨-, j1, j2, j3, j4⟩ := k5.resolve_right (fun z => z.1 q_t)
          rw [q_t] at k1
          exact ih (k + 1) h9 n9 T hu (by omega) (by omega) ⟨j1, j2, j3, j4, k2, k3⟩ (zsm_tr hz k4 (fun _ q => q)) ho hn (fun j hj => by rcases Nat.lt_succ_iff_lt_or_eq.mp hj with h1 | rfl; exact hv j h1; exact k1)
        · refine pw_iinc (y := nI (n9 + 1)) d_Md_order_26 rfl (nI_1 n9) (by decide) (pl' := [some (.ref 84), some (.int (nI (n9 + 1))), some (.int (nI k))]) rfl ?_
          refine pw_iconst (x := 0) d_Md_order_29 (by decide) ?_
          refine pw_istore_n d_Md_order_30 rfl (by decide) (pl' := [some (.ref 84), some (.int (nI (n9 + 1))), some (.int (0))]) rfl ?_
          refine pw_goto 9 d_Md_order_31 (by decide) ?_
          obtain ⟨k1, k2, k3, k4, k5⟩ := hh
          have hk0 := rLd_0 k1 q_t
          obtain ⟨-, j1, j2, j3, j4⟩ := k5.resolve_left (fun z => q_t z.1)
          have hd := zct_drop (tk := T.2.1) hkc hk0
          exact ihu (bl + 1) 0 h9 (n9 + 1) (T.1 + 1, upd T.2.1 k 1, upd T.2.2.1 T.1 (nI k), upd T.2.2.2 T.1 t) (by show zct (fun j => upd T.2.1 k 1 j = 0) bl < u; omega) (by omega) (by omega) ⟨j1, j2, j3, j4, k2, k3⟩ (zsm_tr hz k4 (fun _ q => q)) (zTq_s hkc hk0 ho) ⟨T, hn, k, t, hkc, k1, q_t, hv, rfl⟩ (fun j hj => absurd hj (Nat.not_lt_zero _))
set_option maxRecDepth 20000 in
set_option maxHeartbeats 2000000 in
theorem c_morder {G : zG} {h : zH} {th : Int32} {jn dr pn bl : Nat} {T0 : zTS} (hm : zMo h th jn dr pn bl T0.1) {ml bs bf mo mT : Nat → Int32} (h86 : h[86]? = some (.inl (0, 48, .inl ml))) (h95 : h[95]? = some (.inl (0, 64, .inl bs))) (h96 : h[96]? = some (.inl (0, 64, .inl bf))) (h87 : h[87]? = some (.inl (1, 12, .inl mo))) (h88 : h[88]? = some (.inl (0, 24, .inl mT))) (h97 : h[97]? = some (.inl (1, 64, .inl T0.2.1))) (h98 : h[98]? = some (.inl (0, 64, .inl T0.2.2.1))) (h99 : h[99]? = some (.inl (0, 64, .inl T0.2.2.2))) (hsc : (∃ v, h[102]? = some (.inl (0, 3, .inl v))) ∧ (∃ v, h[103]? = some (.inl (0, 3, .inl v)))) (hbl : bl ≤ 64) (hdr : dr ≤ 8) (hfx : ∀ k, k < bl → ∀ f, f < 6 → (bf k >>> (nI f &&& 31)) &&& 1 = 1 → ∃ o, o < bl ∧ bs o = (bs k ^^^ (1 <<< ((nI f) &&& 31)))) (ho : zTq bl T0) : PW G M_Md_order (zroom 5 0 0) false (fun r h' => ∃ (n : Nat) (T' : zTS), r = .inl (some (.int (nI n))) ∧ rStn ml mo bs bf mT bl dr n T0 T' ∧ rSt0 ml mo bs bf mT bl dr T' ∧ rTk h' jn dr pn bl T' ∧ zsm rTP h h') 0 (zentry 3 [.ref 84]) [] h 0 0 := by
  show PW G M_Md_order (zroom 5 0 0) false _ 0 [some (.ref 84), none, none] [] h 0 0
  refine pw_aload_n d_Md_order_0 rfl rfl ?_
  refine pw_iconst (x := 0) d_Md_order_1 (by decide) ?_
  obtain ⟨h_1, eh_1⟩ : ∃ x_9, x_9 = List.set h (84) (.inr (6, [.int (0), .ref 85, .int (nI jn), .ref 86, .ref 87, .int (nI dr), .ref 88, .ref 89, .int (nI pn), .ref 90, .ref 91, .ref 92, .ref 93, .ref 94, .int (nI bl), .ref 95, .ref 96, .ref 97, .int (nI T0.1), .ref 98, .ref 99, .ref 100, .ref 101, .ref 102, .ref 103])) := ⟨_, rfl⟩
  refine pw_put rfl d_Md_order_2 (fp_Md_75 _ _) hm (Nat.le_of_ble_eq_true rfl) (fun _ => ⟨rfl, rfl⟩) eh_1.symm ?_
  refine pw_iconst (x := 0) d_Md_order_5 (by decide) ?_
  refine pw_istore_n d_Md_order_6 rfl (by decide) (pl' := [some (.ref 84), some (.int (0)), none]) rfl ?_
  refine pw_iconst (x := 0) d_Md_order_7 (by decide) ?_
  refine pw_istore_n d_Md_order_8 rfl (by decide) (pl' := [some (.ref 84), some (.int (0)), some (.int (0))]) rfl ?_
  obtain ⟨⟨w2, hw2⟩, ⟨w3, hw3⟩⟩ := hsc
  have z0 : zsm rTP h h_1 := zsm_st zsm_rf eh_1 (by decide)
  exact l_order (h0 := h) h86 h95 h96 h87 h88 hbl hdr hfx (zct (fun j => T0.2.1 j = 0) bl + 1) (bl + 1) 0 _ 0 T0 (by omega) (by omega) (by omega) ⟨(zg_eq eh_1 hm), zg_ne eh_1 (by decide) h97, zg_ne eh_1 (by decide) h98, zg_ne eh_1 (by decide) h99, ⟨w2, zg_ne eh_1 (by decide) hw2⟩, ⟨w3, zg_ne eh_1 (by decide) hw3⟩⟩ z0 ho rfl (fun j hj => absurd hj (Nat.not_lt_zero _))
