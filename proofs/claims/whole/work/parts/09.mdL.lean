theorem zset_id {h : zH} {k : Nat} {c : zE} (hk : h[k]? = some c) : h.set k c = h := by
  apply List.ext_getElem?
  intro i
  rw [List.getElem?_set]
  split
  · next e =>
    subst e
    split
    · exact hk.symm
    · next hh => rw [List.getElem?_eq_none (by omega)] at hk; cases hk
  · rfl
/-- the block of these sides: its number, or none -/
def rFi (bs : Nat → Int32) (bl : Nat) (s t : Int32) : Prop := (∃ o, o < bl ∧ t = nI o ∧ bs o = s ∧ ∀ j, j < o → ¬ bs j = s) ∨ (t = -1 ∧ ∀ o, o < bl → ¬ bs o = s)
/-- face f holds block k -/
def rHd (mo tk bs bf : Nat → Int32) (bl k f : Nat) : Prop := (bf k >>> (nI f &&& 31)) &&& 1 = 1 ∧ (if 6 ≤ f then mo f = 0 else ∃ o, o < bl ∧ bs o = (bs k ^^^ (1 <<< ((nI f) &&& 31))) ∧ (∀ j, j < o → ¬ bs j = (bs k ^^^ (1 <<< ((nI f) &&& 31)))) ∧ tk o = 0)
/-- inward from face f -/
def rTu (bs : Nat → Int32) (k f : Nat) : Prop := if 6 ≤ f then f % 2 = 1 else ¬ (bs k >>> (nI f &&& 31)) &&& 1 = 1
noncomputable def rIn (ml bs : Nat → Int32) (k f c : Nat) : Int32 := @ite _ (rTu bs k f) (Classical.propDecidable _) (-ml (4 * f + c)) (ml (4 * f + c))
/-- block k can go along (a, b, c), if it isn't taken -/
def rGo (ml mo tk bs bf : Nat → Int32) (bl k : Nat) (a b c : Int32) : Prop := ¬ (a = 0 ∧ b = 0 ∧ c = 0) ∧ ∀ f, f < 12 → rHd mo tk bs bf bl k f → ¬ (a * rIn ml bs k f 0 + b * rIn ml bs k f 1 + c * rIn ml bs k f 2 < 0)
theorem zand01 (x : Int32) : x &&& 1 = 0 ↔ ¬ x &&& 1 = 1 := by
  rw [zand1, zand0]
  constructor
  · intro h q
    exact h 0 (by decide) ⟨q, by decide⟩
  · intro h g hg q
    rw [bt_1 g hg] at q
    have e : g = 0 := by simpa using q.2
    subst e
    exact h q.1
theorem zmod2 : ∀ f, f < 12 → (nI f - nI f / 2 * 2 = 1 ↔ f % 2 = 1) := by decide +kernel
set_option maxRecDepth 20000 in
set_option maxHeartbeats 2000000 in
theorem c_thrown {G : zG} {h : zH} {th : Int32} {jn dr pn bl tn : Nat} (hm : zMo h th jn dr pn bl tn) : PW G M_Md_thrown (zroom 0 0 0) true (zr (some (.int th)) h) 0 (zentry 1 [.ref 84]) [] h 0 0 := by
  show PW G M_Md_thrown (zroom 0 0 0) true _ 0 [some (.ref 84)] [] h 0 0
  refine pw_aload_n d_Md_thrown_0 rfl rfl ?_
  refine pw_get d_Md_thrown_1 fl_Md_75 hm rfl ?_
  refine pw_ireturn d_Md_thrown_4 rfl (by decide) (by decide) ?_
  exact ⟨rfl, rfl⟩
set_option maxRecDepth 20000 in
set_option maxHeartbeats 2000000 in
theorem c_isBlock {G : zG} {h : zH} {th : Int32} {jn dr pn bl tn : Nat} (hm : zMo h th jn dr pn bl tn) {k : Int32} : PW G M_Md_isBlock (zroom 1 0 0) true (zr (some (.int (if 0 ≤ k ∧ k ≤ nI bl - 1 then 1 else 0))) h) 0 (zentry 2 [.ref 84, .int (k)]) [] h 0 0 := by
  show PW G M_Md_isBlock (zroom 1 0 0) true _ 0 [some (.ref 84), some (.int (k))] [] h 0 0
  refine pw_iload_n d_Md_isBlock_0 rfl rfl ?_
  refine pw_iconst (x := 0) d_Md_isBlock_1 (by decide) ?_
  refine pw_aload_n d_Md_isBlock_2 rfl rfl ?_
  refine pw_get d_Md_isBlock_3 fl_Md_111 hm rfl ?_
  refine pw_iconst (x := 1) d_Md_isBlock_6 (by decide) ?_
  refine pw_isub d_Md_isBlock_7 ?_
  refine pw_callS1 (R' := (zroom 0 0 0)) (h2 := h) [.int (k), .int (0), .int ((nI bl - 1))] (fun _ => rfl) d_Md_isBlock_8 lk_Md_131 rfl rfl c_in ?_
  refine pw_zreturn d_Md_isBlock_11 rfl (by split; exact Or.inr rfl; exact Or.inl rfl) (by decide) (by decide) ?_
  exact ⟨rfl, rfl⟩
set_option maxRecDepth 20000 in
set_option maxHeartbeats 2000000 in
theorem c_isFace {G : zG} {h : zH} {th : Int32} {jn dr pn bl tn : Nat} (hm : zMo h th jn dr pn bl tn) {bf : Nat → Int32} (h96 : h[96]? = some (.inl (0, 64, .inl bf))) {k f : Nat} (hk : k < 64) : PW G M_Md_isFace (zroom 0 0 0) true (zr (some (.int (if (bf k >>> (nI f &&& 31)) &&& 1 = 1 then 1 else 0))) h) 0 (zentry 3 [.ref 84, .int (nI k), .int (nI f)]) [] h 0 0 := by
  show PW G M_Md_isFace (zroom 0 0 0) true _ 0 [some (.ref 84), some (.int (nI k)), some (.int (nI f))] [] h 0 0
  refine pw_aload_n d_Md_isFace_0 rfl rfl ?_
  refine pw_get d_Md_isFace_1 fl_Md_44 hm rfl ?_
  refine pw_iload_n d_Md_isFace_4 rfl rfl ?_
  refine pw_iald d_Md_isFace_5 h96 rfl rfl hk (by decide) ?_
  refine pw_iload_n d_Md_isFace_6 rfl rfl ?_
  refine pw_ishr d_Md_isFace_7 ?_
  refine pw_iconst (x := 1) d_Md_isFace_8 (by decide) ?_
  refine pw_iand d_Md_isFace_9 ?_
  refine pw_iconst (x := 1) d_Md_isFace_10 (by decide) ?_
  refine pw_icmp_ne 18 d_Md_isFace_11 (by decide) (fun q_1 => ?_) (fun q_1 => ?_)
  · refine pw_iconst (x := 0) d_Md_isFace_18 (by decide) ?_
    refine pw_zreturn d_Md_isFace_19 rfl (by decide) (by decide) (by decide) ?_
    exact ⟨by rw [if_neg (by grind [zlt, zle])], rfl⟩
  · refine pw_iconst (x := 1) d_Md_isFace_14 (by decide) ?_
    refine pw_goto 19 d_Md_isFace_15 (by decide) ?_
    refine pw_zreturn d_Md_isFace_19 rfl (by decide) (by decide) (by decide) ?_
    exact ⟨by rw [if_pos (by grind [zlt, zle])], rfl⟩
set_option maxRecDepth 20000 in
set_option maxHeartbeats 2000000 in
theorem l_find {G : zG} {h : zH} {h0 : zH} (hz : zsm [84] h0 h) {jn dr pn bl tn : Nat} (hm : zMo h 0 jn dr pn bl tn) {bs : Nat → Int32} (h95 : h[95]? = some (.inl (0, 64, .inl bs))) (hbl : bl ≤ 64) {s : Int32} : ∀ (n i : Nat) , bl - i < n → i ≤ bl → (∀ j, j < i → ¬ bs j = s) → PW G M_Md_find (zroom 0 0 0) false (fun r h' => ∃ t : Int32, r = .inl (some (.int t)) ∧ zMo h' 0 jn dr pn bl tn ∧ zsm [84] h0 h' ∧ rFi bs bl s t) 7 [some (.ref 84), some (.int (s)), some (.int (nI i))] [] h 0 0 := by
  intro n
  induction n with
  | zero => intro i  hn; exact absurd hn (Nat.not_lt_zero _)
  | succ n ih =>
    intro i  hn hi hv
    refine pw_iload_n d_Md_find_7 rfl rfl ?_
    refine pw_aload_n d_Md_find_8 rfl rfl ?_
    refine pw_get d_Md_find_9 fl_Md_111 hm rfl ?_
    refine pw_icmp_ge 33 d_Md_find_12 (by decide) (fun q_c => ?_) (fun q_c => ?_)
    · refine pw_iconst (x := (-1)) d_Md_find_33 (by decide) ?_
      refine pw_ireturn d_Md_find_34 rfl (by decide) (by decide) ?_
      have hic : i = bl := by have := (nI_leI (a := bl) (b := i) (by omega) (by omega)).mp q_c; omega
      subst hic
      exact ⟨-1, rfl, hm, hz, Or.inr ⟨rfl, hv⟩⟩
    · have hic : i < bl := by have := mt (nI_leI (a := bl) (b := i) (by omega) (by omega)).mpr q_c; omega
      refine pw_aload_n d_Md_find_15 rfl rfl ?_
      refine pw_get d_Md_find_16 fl_Md_41 hm rfl ?_
      refine pw_iload_n d_Md_find_19 rfl rfl ?_
      refine pw_iald d_Md_find_20 h95 rfl rfl (by omega) (by decide) ?_
      refine pw_iload_n d_Md_find_21 rfl rfl ?_
      refine pw_icmp_ne 27 d_Md_find_22 (by decide) (fun q_e => ?_) (fun q_e => ?_)
      · refine pw_iinc (y := nI (i + 1)) d_Md_find_27 rfl (nI_1 i) (by decide) (pl' := [some (.ref 84), some (.int (s)), some (.int (nI (i + 1)))]) rfl ?_
        refine pw_goto 7 d_Md_find_30 (by decide) ?_
        exact ih (i + 1) (by omega) (by omega) (fun j hj => by rcases Nat.lt_succ_iff_lt_or_eq.mp hj with h1 | rfl; exact hv j h1; exact q_e)
      · refine pw_iload_n d_Md_find_25 rfl rfl ?_
        refine pw_ireturn d_Md_find_26 rfl (by decide) (by decide) ?_
        exact ⟨nI i, rfl, hm, hz, Or.inl ⟨i, hic, rfl, q_e, hv⟩⟩
set_option maxRecDepth 20000 in
set_option maxHeartbeats 2000000 in
theorem c_find {G : zG} {h : zH} {th : Int32} {jn dr pn bl tn : Nat} (hm : zMo h th jn dr pn bl tn) {bs : Nat → Int32} (h95 : h[95]? = some (.inl (0, 64, .inl bs))) (hbl : bl ≤ 64) {s : Int32} : PW G M_Md_find (zroom 0 0 0) false (fun r h' => ∃ t : Int32, r = .inl (some (.int t)) ∧ zMo h' 0 jn dr pn bl tn ∧ zsm [84] h h' ∧ rFi bs bl s t) 0 (zentry 3 [.ref 84, .int (s)]) [] h 0 0 := by
  show PW G M_Md_find (zroom 0 0 0) false _ 0 [some (.ref 84), some (.int (s)), none] [] h 0 0
  refine pw_aload_n d_Md_find_0 rfl rfl ?_
  refine pw_iconst (x := 0) d_Md_find_1 (by decide) ?_
  obtain ⟨h_1, eh_1⟩ : ∃ x_9, x_9 = List.set h (84) (.inr (6, [.int (0), .ref 85, .int (nI jn), .ref 86, .ref 87, .int (nI dr), .ref 88, .ref 89, .int (nI pn), .ref 90, .ref 91, .ref 92, .ref 93, .ref 94, .int (nI bl), .ref 95, .ref 96, .ref 97, .int (nI tn), .ref 98, .ref 99, .ref 100, .ref 101, .ref 102, .ref 103])) := ⟨_, rfl⟩
  refine pw_put rfl d_Md_find_2 (fp_Md_75 _ _) hm (Nat.le_of_ble_eq_true rfl) (fun _ => ⟨rfl, rfl⟩) eh_1.symm ?_
  refine pw_iconst (x := 0) d_Md_find_5 (by decide) ?_
  refine pw_istore_n d_Md_find_6 rfl (by decide) (pl' := [some (.ref 84), some (.int (s)), some (.int (0))]) rfl ?_
  exact l_find (h0 := h) (zsm_st zsm_rf eh_1 (by decide)) (zg_eq eh_1 hm) (zg_ne eh_1 (by decide) h95) hbl (bl + 1) 0 (by omega) (by omega) (fun j hj => absurd hj (Nat.not_lt_zero _))
set_option maxRecDepth 20000 in
set_option maxHeartbeats 2000000 in
theorem c_find0 {G : zG} {h : zH} {jn dr pn bl tn : Nat} (hm : zMo h 0 jn dr pn bl tn) {bs : Nat → Int32} (h95 : h[95]? = some (.inl (0, 64, .inl bs))) (hbl : bl ≤ 64) {s : Int32} : PW G M_Md_find (zroom 0 0 0) false (fun r h' => ∃ t : Int32, r = .inl (some (.int t)) ∧ h' = h ∧ rFi bs bl s t) 0 (zentry 3 [.ref 84, .int s]) [] h 0 0 := by
  refine pw_mono ?_ (c_find hm h95 hbl)
  rintro r h' ⟨t, e1, e2, e3, e4⟩
  refine ⟨t, e1, ?_, e4⟩
  apply List.ext_getElem?
  intro i
  by_cases hi : i = 84
  · subst hi
    exact e2.trans hm.symm
  · exact e3.2 i (by simpa using hi)
set_option maxRecDepth 20000 in
set_option maxHeartbeats 2000000 in
theorem c_holds {G : zG} {h : zH} {jn dr pn bl tn : Nat} (hm : zMo h 0 jn dr pn bl tn) {bs bf mo : Nat → Int32} (h95 : h[95]? = some (.inl (0, 64, .inl bs))) (h96 : h[96]? = some (.inl (0, 64, .inl bf))) (h87 : h[87]? = some (.inl (1, 12, .inl mo))) {tk : Nat → Int32} (h97 : h[97]? = some (.inl (1, 64, .inl tk))) (hbl : bl ≤ 64) {k : Nat} (hk : k < 64) (hfx : ∀ f, f < 6 → (bf k >>> (nI f &&& 31)) &&& 1 = 1 → ∃ o, o < bl ∧ bs o = (bs k ^^^ (1 <<< ((nI f) &&& 31)))) {f : Nat} (hf : f < 12) : PW G M_Md_holds (zroom 1 0 0) false (fun r h' => ∃ t : Int32, r = .inl (some (.int t)) ∧ h' = h ∧ ((t = 1 ∧ rHd mo tk bs bf bl k f) ∨ (t = 0 ∧ ¬ rHd mo tk bs bf bl k f))) 0 (zentry 3 [.ref 84, .int (nI k), .int (nI f)]) [] h 0 0 := by
  show PW G M_Md_holds (zroom 1 0 0) false _ 0 [some (.ref 84), some (.int (nI k)), some (.int (nI f))] [] h 0 0
  refine pw_aload_n d_Md_holds_0 rfl rfl ?_
  refine pw_iload_n d_Md_holds_1 rfl rfl ?_
  refine pw_iload_n d_Md_holds_2 rfl rfl ?_
  refine pw_callV1 (R' := (zroom 0 0 0)) (h2 := h) [.int (nI k), .int (nI f)] (fun q => nomatch q) d_Md_holds_3 lk_Md_161 hm rfl rfl rfl (c_isFace hm h96 hk) ?_
  refine pw_if_ne 11 d_Md_holds_6 (by decide) (fun q_f => ?_) (fun q_f => ?_)
  · refine pw_iload_n d_Md_holds_11 rfl rfl ?_
    refine pw_bipush (x := 6) d_Md_holds_12 (by decide) ?_
    refine pw_icmp_lt 34 d_Md_holds_14 (by decide) (fun q_6 => ?_) (fun q_6 => ?_)
    · have h66 : f < 6 := (nI_ltI (a := f) (b := 6) (by omega) (by decide)).mp q_6
      refine pw_aload_n d_Md_holds_34 rfl rfl ?_
      refine pw_get d_Md_holds_35 fl_Md_47 hm rfl ?_
      refine pw_aload_n d_Md_holds_38 rfl rfl ?_
      refine pw_aload_n d_Md_holds_39 rfl rfl ?_
      refine pw_get d_Md_holds_40 fl_Md_41 hm rfl ?_
      refine pw_iload_n d_Md_holds_43 rfl rfl ?_
      refine pw_iald d_Md_holds_44 h95 rfl rfl hk (by decide) ?_
      refine pw_iconst (x := 1) d_Md_holds_45 (by decide) ?_
      refine pw_iload_n d_Md_holds_46 rfl rfl ?_
      refine pw_ishl d_Md_holds_47 ?_
      refine pw_ixor d_Md_holds_48 ?_
      refine pw_callVt (R' := (zroom 0 0 0)) [.int ((bs k ^^^ (1 <<< ((nI f) &&& 31))))] (fun q => nomatch q) d_Md_holds_49 lk_Md_164 hm rfl rfl rfl (c_find0 hm h95 hbl) (fun t ht => ?_)
      obtain ⟨o, ho1, ho2, ho3, ho4⟩ : ∃ o, o < bl ∧ t = nI o ∧ bs o = (bs k ^^^ (1 <<< ((nI f) &&& 31))) ∧ ∀ j, j < o → ¬ bs j = (bs k ^^^ (1 <<< ((nI f) &&& 31))) := by
        rcases ht with h1 | ⟨-, h2⟩
        · exact h1
        · obtain ⟨o, a1, a2⟩ := hfx f (by omega) (z1 q_f); exact absurd a2 (h2 o a1)
      subst ho2
      refine pw_zald d_Md_holds_52 h97 rfl rfl (by omega) (by decide) ?_
      refine pw_if_ne 60 d_Md_holds_53 (by decide) (fun q_t => ?_) (fun q_t => ?_)
      · refine pw_iconst (x := 0) d_Md_holds_60 (by decide) ?_
        refine pw_zreturn d_Md_holds_61 rfl (by decide) (by decide) (by decide) ?_
        have h6 : f < 6 := (nI_ltI (a := f) (b := 6) (by omega) (by decide)).mp q_6
        refine ⟨0, rfl, rfl, Or.inr ⟨rfl, fun z => ?_⟩⟩
        have h7 := z.2
        rw [if_neg (by omega)] at h7
        obtain ⟨o2, b1, b2, b3, b4⟩ := h7
        have : o2 = o := by
          rcases Nat.lt_trichotomy o2 o with h | h | h
          · exact absurd b2 (ho4 o2 h)
          · exact h
          · exact absurd ho3 (b3 o h)
        subst this
        exact q_t b4
      · refine pw_iconst (x := 1) d_Md_holds_56 (by decide) ?_
        refine pw_goto 61 d_Md_holds_57 (by decide) ?_
        refine pw_zreturn d_Md_holds_61 rfl (by decide) (by decide) (by decide) ?_
        have h6 : f < 6 := (nI_ltI (a := f) (b := 6) (by omega) (by decide)).mp q_6
        exact ⟨1, rfl, rfl, Or.inl ⟨rfl, z1 q_f, by rw [if_neg (by omega)]; exact ⟨o, ho1, ho3, ho4, q_t⟩⟩⟩
    · refine pw_aload_n d_Md_holds_17 rfl rfl ?_
      refine pw_get d_Md_holds_18 fl_Md_16 hm rfl ?_
      refine pw_iload_n d_Md_holds_21 rfl rfl ?_
      refine pw_zald d_Md_holds_22 h87 rfl rfl hf (by decide) ?_
      refine pw_if_ne 30 d_Md_holds_23 (by decide) (fun q_o => ?_) (fun q_o => ?_)
      · refine pw_iconst (x := 0) d_Md_holds_30 (by decide) ?_
        refine pw_goto 61 d_Md_holds_31 (by decide) ?_
        refine pw_zreturn d_Md_holds_61 rfl (by decide) (by decide) (by decide) ?_
        have h6 : 6 ≤ f := by have := mt (nI_ltI (a := f) (b := 6) (by omega) (by decide)).mpr q_6; omega
        exact ⟨0, rfl, rfl, Or.inr ⟨rfl, fun z => by have h7 := z.2; rw [if_pos h6] at h7; exact q_o h7⟩⟩
      · refine pw_iconst (x := 1) d_Md_holds_26 (by decide) ?_
        refine pw_goto 61 d_Md_holds_27 (by decide) ?_
        refine pw_zreturn d_Md_holds_61 rfl (by decide) (by decide) (by decide) ?_
        have h6 : 6 ≤ f := by have := mt (nI_ltI (a := f) (b := 6) (by omega) (by decide)).mpr q_6; omega
        exact ⟨1, rfl, rfl, Or.inl ⟨rfl, z1 q_f, by rw [if_pos h6]; exact q_o⟩⟩
  · refine pw_iconst (x := 0) d_Md_holds_9 (by decide) ?_
    refine pw_zreturn d_Md_holds_10 rfl (by decide) (by decide) (by decide) ?_
    exact ⟨0, rfl, rfl, Or.inr ⟨rfl, fun z => z0 q_f z.1⟩⟩
