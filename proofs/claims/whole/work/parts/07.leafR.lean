section PWw
variable {G : zG} {M M' : zM} {R R' : Room} {P P' : Bool} {Q : zO → zH → Prop} {pc : Nat} {pl : List (Option Value)} {st : List Value} {h : zH} {nc ns : Nat}
/-- a call that answers an int, with a fact of it and of the heap then -/
theorem pw_callVw (A : List Value) {idx k ci : Nat} {fs : List Value} {stk : List Value} {F : Int32 → zH → Prop} (hPP : P = true → P' = true) (hd : decode M.code pc = .ok (.invokevirtual idx, 3)) (hl : zLV M.nm.cls idx M' A.length) (hh : h[k]? = some (.inr (ci, fs))) (hc : (zCl[ci]?).map Prod.fst = some M'.nm.cls) (hst : stk = A.reverse ++ .ref k :: st) (hk : zchk A st (A.length + 1) M' R' R nc ns = true)
    (hb : PW G M' R' P' (fun r h' => ∃ t : Int32, r = .inl (some (.int t)) ∧ F t h') 0 (zentry M'.maxL (.ref k :: A)) [] h 0 0) (kk : ∀ t h', F t h' → PW G M R P Q (pc + 3) pl (.int t :: st) h' (nc + R'.cells) (ns + R'.slots)) : PW G M R P Q pc pl stk h nc ns :=
  pw_callVq A hPP hd hl hh hc hst hk hb (fun r h' q => by obtain ⟨t, e, -⟩ := q; exact ⟨_, e⟩) (fun v h' q => by obtain ⟨t, e, hF⟩ := q; cases e; exact kk t h' hF)
/-- a call that answers an int, with a fact of it and of the heap then -/
theorem pw_callSw (A : List Value) {idx : Nat} {stk : List Value} {F : Int32 → zH → Prop} (hPP : P = true → P' = true) (hd : decode M.code pc = .ok (.invokestatic idx, 3)) (hl : zLS M.nm.cls idx M' A.length) (hst : stk = A.reverse ++ st) (hk : zchk A st A.length M' R' R nc ns = true)
    (hb : PW G M' R' P' (fun r h' => ∃ t : Int32, r = .inl (some (.int t)) ∧ F t h') 0 (zentry M'.maxL A) [] h 0 0) (kk : ∀ t h', F t h' → PW G M R P Q (pc + 3) pl (.int t :: st) h' (nc + R'.cells) (ns + R'.slots)) : PW G M R P Q pc pl stk h nc ns :=
  pw_callSq A hPP hd hl hst hk hb (fun r h' q => by obtain ⟨t, e, -⟩ := q; exact ⟨_, e⟩) (fun v h' q => by obtain ⟨t, e, hF⟩ := q; cases e; exact kk t h' hF)
end PWw
/-- what slideOnTwo answers -/
def zSt2 (fc : Int32) (ix iy iz sx sy sz : Nat → Int32) (g1 g2 g3 t : Int32) : Prop := (∃ f j, f < j ∧ j < 12 ∧ t = 100 + 12 * nI f + nI j ∧ ((fc >>> (nI f &&& 31)) &&& 1 = 1 ∧ (fc >>> (nI j &&& 31)) &&& 1 = 1 ∧ zTw fc ix iy iz sx sy sz g1 g2 g3 f j) ∧ ∀ e i, e < i → i < 12 → (e < f ∨ (e = f ∧ i < j)) → ¬ ((fc >>> (nI e &&& 31)) &&& 1 = 1 ∧ (fc >>> (nI i &&& 31)) &&& 1 = 1 ∧ zTw fc ix iy iz sx sy sz g1 g2 g3 e i)) ∨ (t = 0 ∧ ∀ f j, f < j → j < 12 → ¬ ((fc >>> (nI f &&& 31)) &&& 1 = 1 ∧ (fc >>> (nI j &&& 31)) &&& 1 = 1 ∧ zTw fc ix iy iz sx sy sz g1 g2 g3 f j))
set_option maxRecDepth 20000 in
set_option maxHeartbeats 2000000 in
theorem l_two_in {G : zG} {h0 : zH} {fc : Int32} {ix iy iz sx sy sz : Nat → Int32} {g1 g2 g3 : Int32} (hwa0 : h0[30]? = some (.inr (0, [.int g1, .int g2, .int g3]))) {f : Nat} (hf : f < 12) (K : ∀ h, (∃ l1 l2 l3, zHo h fc ix iy iz sx sy sz l1 l2 l3) → zsm zHS h0 h → (∀ e i, e < i → i < 12 → (e < f ∨ (e = f ∧ i < 12)) → ¬ ((fc >>> (nI e &&& 31)) &&& 1 = 1 ∧ (fc >>> (nI i &&& 31)) &&& 1 = 1 ∧ zTw fc ix iy iz sx sy sz g1 g2 g3 e i)) → PW G M_Hold_slideOnTwo (zroom 3 0 0) false (fun r h' => ∃ t : Int32, r = .inl (some (.int t)) ∧ (∃ l1 l2 l3, zHo h' fc ix iy iz sx sy sz l1 l2 l3) ∧ zsm zHS h0 h' ∧ zSt2 fc ix iy iz sx sy sz g1 g2 g3 t) 66 [some (.ref 1), some (.ref 30), some (.int (nI f)), some (.int (nI 12))] [] h 0 0) : ∀ (n j : Nat) (h : zH), 12 - j < n → j ≤ 12 → f < j → (∃ l1 l2 l3, zHo h fc ix iy iz sx sy sz l1 l2 l3) → zsm zHS h0 h → (∀ e i, e < i → i < 12 → (e < f ∨ (e = f ∧ i < j)) → ¬ ((fc >>> (nI e &&& 31)) &&& 1 = 1 ∧ (fc >>> (nI i &&& 31)) &&& 1 = 1 ∧ zTw fc ix iy iz sx sy sz g1 g2 g3 e i)) → PW G M_Hold_slideOnTwo (zroom 3 0 0) false (fun r h' => ∃ t : Int32, r = .inl (some (.int t)) ∧ (∃ l1 l2 l3, zHo h' fc ix iy iz sx sy sz l1 l2 l3) ∧ zsm zHS h0 h' ∧ zSt2 fc ix iy iz sx sy sz g1 g2 g3 t) 12 [some (.ref 1), some (.ref 30), some (.int (nI f)), some (.int (nI j))] [] h 0 0 := by
  intro n
  induction n with
  | zero => intro j h hn; exact absurd hn (Nat.not_lt_zero _)
  | succ n ih =>
    intro j h hn hi hfj ⟨l1, l2, l3, ho⟩ hz hv
    have hwa := zsm_at hz (zHS_no (by omega)) hwa0
    refine pw_iload_n d_Hold_slideOnTwo_12 rfl rfl ?_
    refine pw_bipush (x := 12) d_Hold_slideOnTwo_13 (by decide) ?_
    refine pw_icmp_ge 66 d_Hold_slideOnTwo_15 (by decide) (fun q_c => ?_) (fun q_c => ?_)
    · have hjc : j = 12 := by have := (nI_leI (a := 12) (b := j) (by decide) (by omega)).mp q_c; omega
      subst hjc
      exact K h ⟨_, _, _, ho⟩ hz hv
    · have hjc : j < 12 := by have := mt (nI_leI (a := 12) (b := j) (by decide) (by omega)).mpr q_c; omega
      refine pw_aload_n d_Hold_slideOnTwo_18 rfl rfl ?_
      refine pw_get d_Hold_slideOnTwo_19 fl_Hold_25 ho.1 rfl ?_
      refine pw_iload_n d_Hold_slideOnTwo_22 rfl rfl ?_
      refine pw_callS1 (R' := (zroom 0 0 0)) (h2 := h) [.int (fc), .int (nI f)] (fun q => nomatch q) d_Hold_slideOnTwo_23 lk_Hold_37 rfl rfl c_hasBit ?_
      refine pw_if_eq 60 d_Hold_slideOnTwo_26 (by decide) (fun q_f => ?_) (fun q_f => ?_)
      · refine pw_iinc (y := nI (j + 1)) d_Hold_slideOnTwo_60 rfl (nI_1 j) (by decide) (pl' := [some (.ref 1), some (.ref 30), some (.int (nI f)), some (.int (nI (j + 1)))]) rfl ?_
        refine pw_goto 12 d_Hold_slideOnTwo_63 (by decide) ?_
        have hno : ¬ ((fc >>> (nI f &&& 31)) &&& 1 = 1 ∧ (fc >>> (nI j &&& 31)) &&& 1 = 1 ∧ zTw fc ix iy iz sx sy sz g1 g2 g3 f j) := fun z => z0 q_f z.1
        exact ih (j + 1) h (by omega) (by omega) (by omega) ⟨_, _, _, ho⟩ hz (fun e i a1 a2 a3 => by
          rcases a3 with a3 | ⟨rfl, a3⟩
          · exact hv e i a1 a2 (Or.inl a3)
          · rcases Nat.lt_succ_iff_lt_or_eq.mp a3 with h4 | rfl
            · exact hv e i a1 a2 (Or.inr ⟨rfl, h4⟩)
            · exact hno)
      · refine pw_aload_n d_Hold_slideOnTwo_29 rfl rfl ?_
        refine pw_get d_Hold_slideOnTwo_30 fl_Hold_25 ho.1 rfl ?_
        refine pw_iload_n d_Hold_slideOnTwo_33 rfl rfl ?_
        refine pw_callS1 (R' := (zroom 0 0 0)) (h2 := h) [.int (fc), .int (nI j)] (fun q => nomatch q) d_Hold_slideOnTwo_34 lk_Hold_37 rfl rfl c_hasBit ?_
        refine pw_if_eq 60 d_Hold_slideOnTwo_37 (by decide) (fun q_j => ?_) (fun q_j => ?_)
        · refine pw_iinc (y := nI (j + 1)) d_Hold_slideOnTwo_60 rfl (nI_1 j) (by decide) (pl' := [some (.ref 1), some (.ref 30), some (.int (nI f)), some (.int (nI (j + 1)))]) rfl ?_
          refine pw_goto 12 d_Hold_slideOnTwo_63 (by decide) ?_
          have hno : ¬ ((fc >>> (nI f &&& 31)) &&& 1 = 1 ∧ (fc >>> (nI j &&& 31)) &&& 1 = 1 ∧ zTw fc ix iy iz sx sy sz g1 g2 g3 f j) := fun z => z0 q_j z.2.1
          exact ih (j + 1) h (by omega) (by omega) (by omega) ⟨_, _, _, ho⟩ hz (fun e i a1 a2 a3 => by
            rcases a3 with a3 | ⟨rfl, a3⟩
            · exact hv e i a1 a2 (Or.inl a3)
            · rcases Nat.lt_succ_iff_lt_or_eq.mp a3 with h4 | rfl
              · exact hv e i a1 a2 (Or.inr ⟨rfl, h4⟩)
              · exact hno)
        · refine pw_aload_n d_Hold_slideOnTwo_40 rfl rfl ?_
          refine pw_iload_n d_Hold_slideOnTwo_41 rfl rfl ?_
          refine pw_iload_n d_Hold_slideOnTwo_42 rfl rfl ?_
          refine pw_aload_n d_Hold_slideOnTwo_43 rfl rfl ?_
          refine pw_callVw (R' := (zroom 2 0 0)) [.int (nI f), .int (nI j), .ref 30] (fun q => nomatch q) d_Hold_slideOnTwo_44 lk_Hold_59 ho.1 rfl rfl rfl (c_slidesAlong ho hwa hf hjc) (fun t h1 hh => ?_)
          refine pw_if_eq 60 d_Hold_slideOnTwo_47 (by decide) (fun q_t => ?_) (fun q_t => ?_)
          · refine pw_iinc (y := nI (j + 1)) d_Hold_slideOnTwo_60 rfl (nI_1 j) (by decide) (pl' := [some (.ref 1), some (.ref 30), some (.int (nI f)), some (.int (nI (j + 1)))]) rfl ?_
            refine pw_goto 12 d_Hold_slideOnTwo_63 (by decide) ?_
            have hno : ¬ ((fc >>> (nI f &&& 31)) &&& 1 = 1 ∧ (fc >>> (nI j &&& 31)) &&& 1 = 1 ∧ zTw fc ix iy iz sx sy sz g1 g2 g3 f j) := fun z => by rcases hh.2.2 with ⟨e, -⟩ | ⟨-, h2⟩; exact absurd (e.symm.trans q_t) (by decide); exact h2 z.2.2
            exact ih (j + 1) h1 (by omega) (by omega) (by omega) hh.1 (zsm_tr hz hh.2.1 (fun _ q => q)) (fun e i a1 a2 a3 => by
              rcases a3 with a3 | ⟨rfl, a3⟩
              · exact hv e i a1 a2 (Or.inl a3)
              · rcases Nat.lt_succ_iff_lt_or_eq.mp a3 with h4 | rfl
                · exact hv e i a1 a2 (Or.inr ⟨rfl, h4⟩)
                · exact hno)
          · refine pw_bipush (x := 100) d_Hold_slideOnTwo_50 (by decide) ?_
            refine pw_bipush (x := 12) d_Hold_slideOnTwo_52 (by decide) ?_
            refine pw_iload_n d_Hold_slideOnTwo_54 rfl rfl ?_
            refine pw_imul d_Hold_slideOnTwo_55 ?_
            refine pw_iadd d_Hold_slideOnTwo_56 ?_
            refine pw_iload_n d_Hold_slideOnTwo_57 rfl rfl ?_
            refine pw_iadd d_Hold_slideOnTwo_58 ?_
            refine pw_ireturn d_Hold_slideOnTwo_59 rfl (by decide) (by decide) ?_
            refine ⟨_, rfl, hh.1, zsm_tr hz hh.2.1 (fun _ q => q), Or.inl ⟨f, j, by omega, hjc, rfl, ⟨z1 q_f, z1 q_j, ?_⟩, hv⟩⟩
            rcases hh.2.2 with ⟨-, h1⟩ | ⟨e, -⟩
            · exact h1
            · exact absurd e q_t
set_option maxRecDepth 20000 in
set_option maxHeartbeats 2000000 in
theorem l_two {G : zG} {h0 : zH} {fc : Int32} {ix iy iz sx sy sz : Nat → Int32} {g1 g2 g3 : Int32} (hwa0 : h0[30]? = some (.inr (0, [.int g1, .int g2, .int g3]))) : ∀ (n f : Nat) (h : zH) (o3 : Option Value), 12 - f < n → f ≤ 12 → (∃ l1 l2 l3, zHo h fc ix iy iz sx sy sz l1 l2 l3) → zsm zHS h0 h → (∀ e i, e < i → i < 12 → e < f → ¬ ((fc >>> (nI e &&& 31)) &&& 1 = 1 ∧ (fc >>> (nI i &&& 31)) &&& 1 = 1 ∧ zTw fc ix iy iz sx sy sz g1 g2 g3 e i)) → PW G M_Hold_slideOnTwo (zroom 3 0 0) false (fun r h' => ∃ t : Int32, r = .inl (some (.int t)) ∧ (∃ l1 l2 l3, zHo h' fc ix iy iz sx sy sz l1 l2 l3) ∧ zsm zHS h0 h' ∧ zSt2 fc ix iy iz sx sy sz g1 g2 g3 t) 2 [some (.ref 1), some (.ref 30), some (.int (nI f)), o3] [] h 0 0 := by
  intro n
  induction n with
  | zero => intro f h o3 hn; exact absurd hn (Nat.not_lt_zero _)
  | succ n ih =>
    intro f h o3 hn hi ho hz hv
    refine pw_iload_n d_Hold_slideOnTwo_2 rfl rfl ?_
    refine pw_bipush (x := 12) d_Hold_slideOnTwo_3 (by decide) ?_
    refine pw_icmp_ge 72 d_Hold_slideOnTwo_5 (by decide) (fun q_c => ?_) (fun q_c => ?_)
    · refine pw_iconst (x := 0) d_Hold_slideOnTwo_72 (by decide) ?_
      refine pw_ireturn d_Hold_slideOnTwo_73 rfl (by decide) (by decide) ?_
      have hfc : f = 12 := by have := (nI_leI (a := 12) (b := f) (by decide) (by omega)).mp q_c; omega
      subst hfc
      exact ⟨_, rfl, ho, hz, Or.inr ⟨rfl, fun e i a1 a2 => hv e i a1 a2 (by omega)⟩⟩
    · have hfc : f < 12 := by have := mt (nI_leI (a := 12) (b := f) (by decide) (by omega)).mpr q_c; omega
      refine pw_iload_n d_Hold_slideOnTwo_8 rfl rfl ?_
      refine pw_iconst (x := 1) d_Hold_slideOnTwo_9 (by decide) ?_
      refine pw_iadd d_Hold_slideOnTwo_10 ?_
      refine pw_istore_n d_Hold_slideOnTwo_11 rfl (by decide) (pl' := [some (.ref 1), some (.ref 30), some (.int (nI f)), some (.int ((nI f + 1)))]) rfl ?_
      rw [nI_1 f]
      refine l_two_in hwa0 hfc (fun h1 a1 a2 a3 => ?_) 13 (f + 1) h (by omega) (by omega) (by omega) ho hz (fun e i a1 a2 a3 => hv e i a1 a2 (by omega))
      refine pw_iinc (y := nI (f + 1)) d_Hold_slideOnTwo_66 rfl (nI_1 f) (by decide) (pl' := [some (.ref 1), some (.ref 30), some (.int (nI (f + 1))), some (.int (nI 12))]) rfl ?_
      refine pw_goto 2 d_Hold_slideOnTwo_69 (by decide) ?_
      exact ih (f + 1) h1 _ (by omega) (by omega) a1 a2 (fun e i b1 b2 b3 => a3 e i b1 b2 (by omega))
set_option maxRecDepth 20000 in
set_option maxHeartbeats 2000000 in
theorem c_slideOnTwo {G : zG} {h : zH} {fc : Int32} {ix iy iz sx sy sz : Nat → Int32} {l1 l2 l3 : Int32} (ho : zHo h fc ix iy iz sx sy sz l1 l2 l3) {g1 g2 g3 : Int32} (hwa : h[30]? = some (.inr (0, [.int g1, .int g2, .int g3]))) : PW G M_Hold_slideOnTwo (zroom 3 0 0) false (fun r h' => ∃ t : Int32, r = .inl (some (.int t)) ∧ (∃ l1 l2 l3, zHo h' fc ix iy iz sx sy sz l1 l2 l3) ∧ zsm zHS h h' ∧ zSt2 fc ix iy iz sx sy sz g1 g2 g3 t) 0 (zentry 4 [.ref 1, .ref 30]) [] h 0 0 := by
  show PW G M_Hold_slideOnTwo (zroom 3 0 0) false _ 0 [some (.ref 1), some (.ref 30), none, none] [] h 0 0
  refine pw_iconst (x := 0) d_Hold_slideOnTwo_0 (by decide) ?_
  refine pw_istore_n d_Hold_slideOnTwo_1 rfl (by decide) (pl' := [some (.ref 1), some (.ref 30), some (.int (0)), none]) rfl ?_
  exact l_two hwa 13 0 h _ (by decide) (by decide) ⟨_, _, _, ho⟩ zsm_rf (fun e i a1 a2 a3 => absurd a3 (Nat.not_lt_zero _))
theorem zHo_sm {S : List Nat} {h0 h : zH} {fc : Int32} {ix iy iz sx sy sz : Nat → Int32} {l1 l2 l3 : Int32} (hz : zsm S h0 h) (hS : ∀ j, j < 29 → j ∉ S) (ho : zHo h0 fc ix iy iz sx sy sz l1 l2 l3) : zHo h fc ix iy iz sx sy sz l1 l2 l3 :=
  ⟨zsm_at hz (hS _ (by omega)) ho.1, zsm_at hz (hS _ (by omega)) ho.2.1, zsm_at hz (hS _ (by omega)) ho.2.2.1, zsm_at hz (hS _ (by omega)) ho.2.2.2.1, fun j hj => zsm_at hz (hS _ (by omega)) (ho.2.2.2.2.1 j hj), fun j hj => zsm_at hz (hS _ (by omega)) (ho.2.2.2.2.2 j hj)⟩
theorem z10 {i : Nat} (h : i < 12) : ¬ (10 : Int32) + nI i = 0 := (by decide +kernel : ∀ i, i < 12 → ¬ (10 : Int32) + nI i = 0) i h
set_option maxRecDepth 20000 in
set_option maxHeartbeats 2000000 in
theorem l_answer {G : zG} {h0 : zH} {fc : Int32} {ix iy iz : Nat → Int32} {g1 g2 g3 : Int32} (hwa0 : h0[30]? = some (.inr (0, [.int g1, .int g2, .int g3]))) (hnl : ¬ (¬ (g1 = 0 ∧ g2 = 0 ∧ g3 = 0) ∧ ∀ f, f < 12 → (fc >>> (nI f &&& 31)) &&& 1 = 1 → ¬ (g1 * ix f + g2 * iy f + g3 * iz f < 0))) : ∀ (n i : Nat) (h : zH) (sx sy sz : Nat → Int32), 12 - i < n → i ≤ 12 → (∃ l1 l2 l3, zHo h fc ix iy iz sx sy sz l1 l2 l3) → zsm zHS h0 h → (∀ f, f < i → (fc >>> (nI f &&& 31)) &&& 1 = 1 → sx f = (g1 * (ix f * ix f + iy f * iy f + iz f * iz f) - ix f * (g1 * ix f + g2 * iy f + g3 * iz f)) ∧ sy f = (g2 * (ix f * ix f + iy f * iy f + iz f * iz f) - iy f * (g1 * ix f + g2 * iy f + g3 * iz f)) ∧ sz f = (g3 * (ix f * ix f + iy f * iy f + iz f * iz f) - iz f * (g1 * ix f + g2 * iy f + g3 * iz f))) → PW G M_Hold_answerTo (zroom 4 0 0) false (fun r h' => ∃ t : Int32, r = .inl (some (.int t)) ∧ (∃ sx sy sz l1 l2 l3, zHo h' fc ix iy iz sx sy sz l1 l2 l3) ∧ zsm zHS h0 h' ∧ ((t = 1 ∧ (¬ (g1 = 0 ∧ g2 = 0 ∧ g3 = 0) ∧ ∀ f, f < 12 → (fc >>> (nI f &&& 31)) &&& 1 = 1 → ¬ (g1 * ix f + g2 * iy f + g3 * iz f < 0))) ∨ (¬ (¬ (g1 = 0 ∧ g2 = 0 ∧ g3 = 0) ∧ ∀ f, f < 12 → (fc >>> (nI f &&& 31)) &&& 1 = 1 → ¬ (g1 * ix f + g2 * iy f + g3 * iz f < 0)) ∧ ∃ sx sy sz : Nat → Int32, (∀ f, f < 12 → (fc >>> (nI f &&& 31)) &&& 1 = 1 → sx f = (g1 * (ix f * ix f + iy f * iy f + iz f * iz f) - ix f * (g1 * ix f + g2 * iy f + g3 * iz f)) ∧ sy f = (g2 * (ix f * ix f + iy f * iy f + iz f * iz f) - iy f * (g1 * ix f + g2 * iy f + g3 * iz f)) ∧ sz f = (g3 * (ix f * ix f + iy f * iy f + iz f * iz f) - iz f * (g1 * ix f + g2 * iy f + g3 * iz f))) ∧ ((∃ i, i < 12 ∧ t = 10 + nI i ∧ ((fc >>> (nI i &&& 31)) &&& 1 = 1 ∧ g1 * ix i + g2 * iy i + g3 * iz i < 0 ∧ (¬ (sx i = 0 ∧ sy i = 0 ∧ sz i = 0) ∧ ∀ f, f < 12 → (fc >>> (nI f &&& 31)) &&& 1 = 1 → ¬ (sx i * ix f + sy i * iy f + sz i * iz f < 0))) ∧ ∀ j, j < i → ¬ ((fc >>> (nI j &&& 31)) &&& 1 = 1 ∧ g1 * ix j + g2 * iy j + g3 * iz j < 0 ∧ (¬ (sx j = 0 ∧ sy j = 0 ∧ sz j = 0) ∧ ∀ f, f < 12 → (fc >>> (nI f &&& 31)) &&& 1 = 1 → ¬ (sx j * ix f + sy j * iy f + sz j * iz f < 0)))) ∨ ((∀ i, i < 12 → ¬ ((fc >>> (nI i &&& 31)) &&& 1 = 1 ∧ g1 * ix i + g2 * iy i + g3 * iz i < 0 ∧ (¬ (sx i = 0 ∧ sy i = 0 ∧ sz i = 0) ∧ ∀ f, f < 12 → (fc >>> (nI f &&& 31)) &&& 1 = 1 → ¬ (sx i * ix f + sy i * iy f + sz i * iz f < 0)))) ∧ zSt2 fc ix iy iz sx sy sz g1 g2 g3 t))))) 12 [some (.ref 1), some (.ref 30), some (.int (nI i))] [] h 0 0 := by
  intro n
  induction n with
  | zero => intro i h sx sy sz hn; exact absurd hn (Nat.not_lt_zero _)
  | succ n ih =>
    intro i h sx sy sz hn hi ⟨l1, l2, l3, ho⟩ hz hv
    have hwa := zsm_at hz (zHS_no (by omega)) hwa0
    refine pw_iload_n d_Hold_answerTo_12 rfl rfl ?_
    refine pw_bipush (x := 12) d_Hold_answerTo_13 (by decide) ?_
    refine pw_icmp_ge 51 d_Hold_answerTo_15 (by decide) (fun q_c => ?_) (fun q_c => ?_)
    · have hic : i = 12 := by have := (nI_leI (a := 12) (b := i) (by decide) (by omega)).mp q_c; omega
      subst hic
      refine pw_aload_n d_Hold_answerTo_51 rfl rfl ?_
      refine pw_aload_n d_Hold_answerTo_52 rfl rfl ?_
      refine pw_callVt (R' := (zroom 2 0 0)) [.ref 30] (fun q => nomatch q) d_Hold_answerTo_53 lk_Hold_53 ho.1 rfl rfl rfl (c_slideOnOne ho hwa) (fun t ht => ?_)
      refine pw_istore_n d_Hold_answerTo_56 rfl (by decide) (pl' := [some (.ref 1), some (.ref 30), some (.int (t))]) rfl ?_
      refine pw_iload_n d_Hold_answerTo_57 rfl rfl ?_
      refine pw_if_eq 65 d_Hold_answerTo_58 (by decide) (fun q_o => ?_) (fun q_o => ?_)
      · refine pw_aload_n d_Hold_answerTo_65 rfl rfl ?_
        refine pw_aload_n d_Hold_answerTo_66 rfl rfl ?_
        refine pw_callVw (R' := (zroom 3 0 0)) [.ref 30] (fun q => nomatch q) d_Hold_answerTo_67 lk_Hold_56 ho.1 rfl rfl rfl (c_slideOnTwo ho hwa) (fun u h1 hh => ?_)
        refine pw_ireturn d_Hold_answerTo_70 rfl (by decide) (by decide) ?_
        obtain ⟨hh1, hh2, hh3⟩ := hh
        obtain ⟨m1, m2, m3, hh1⟩ := hh1
        refine ⟨u, rfl, ⟨_, _, _, _, _, _, hh1⟩, zsm_tr hz hh2 (fun _ q => q), Or.inr ⟨hnl, sx, sy, sz, hv, Or.inr ⟨?_, hh3⟩⟩⟩
        rcases ht with ⟨i9, hi9, e, -⟩ | ⟨-, h2⟩
        · exact absurd (e.symm.trans q_o) (z10 hi9)
        · exact h2
      · refine pw_iload_n d_Hold_answerTo_61 rfl rfl ?_
        refine pw_goto 70 d_Hold_answerTo_62 (by decide) ?_
        refine pw_ireturn d_Hold_answerTo_70 rfl (by decide) (by decide) ?_
        refine ⟨t, rfl, ⟨_, _, _, _, _, _, ho⟩, hz, Or.inr ⟨hnl, sx, sy, sz, hv, Or.inl ?_⟩⟩
        rcases ht with h1 | ⟨e, -⟩
        · exact h1
        · exact absurd e q_o
    · have hic : i < 12 := by have := mt (nI_leI (a := 12) (b := i) (by decide) (by omega)).mpr q_c; omega
      refine pw_aload_n d_Hold_answerTo_18 rfl rfl ?_
      refine pw_get d_Hold_answerTo_19 fl_Hold_25 ho.1 rfl ?_
      refine pw_iload_n d_Hold_answerTo_22 rfl rfl ?_
      refine pw_callS1 (R' := (zroom 0 0 0)) (h2 := h) [.int (fc), .int (nI i)] (fun q => nomatch q) d_Hold_answerTo_23 lk_Hold_37 rfl rfl c_hasBit ?_
      refine pw_if_eq 45 d_Hold_answerTo_26 (by decide) (fun q_b => ?_) (fun q_b => ?_)
      · refine pw_iinc (y := nI (i + 1)) d_Hold_answerTo_45 rfl (nI_1 i) (by decide) (pl' := [some (.ref 1), some (.ref 30), some (.int (nI (i + 1)))]) rfl ?_
        refine pw_goto 12 d_Hold_answerTo_48 (by decide) ?_
        exact ih (i + 1) h _ _ _ (by omega) (by omega) ⟨_, _, _, ho⟩ hz (fun f hf hb => by rcases Nat.lt_succ_iff_lt_or_eq.mp hf with h1 | rfl; exact hv f h1 hb; exact absurd hb (z0 q_b))
      · refine pw_aload_n d_Hold_answerTo_29 rfl rfl ?_
        refine pw_get d_Hold_answerTo_30 fl_Hold_17 ho.1 rfl ?_
        refine pw_iload_n d_Hold_answerTo_33 rfl rfl ?_
        refine pw_aald (y := 6 + 2 * i) d_Hold_answerTo_34 ho.2.2.1 rfl rfl hic (by decide) (zSld_at hic) ?_
        refine pw_aload_n d_Hold_answerTo_35 rfl rfl ?_
        refine pw_aload_n d_Hold_answerTo_36 rfl rfl ?_
        refine pw_get d_Hold_answerTo_37 fl_Hold_11 ho.1 rfl ?_
        refine pw_iload_n d_Hold_answerTo_40 rfl rfl ?_
        refine pw_aald (y := 5 + 2 * i) d_Hold_answerTo_41 ho.2.1 rfl rfl hic (by decide) (zInw_at hic) ?_
        obtain ⟨h_1, eh_1⟩ : ∃ x_9, x_9 = List.set h (6 + 2 * i) (.inr (0, [.int ((g1 * (ix i * ix i + iy i * iy i + iz i * iz i) - ix i * (g1 * ix i + g2 * iy i + g3 * iz i))), .int ((g2 * (ix i * ix i + iy i * iy i + iz i * iz i) - iy i * (g1 * ix i + g2 * iy i + g3 * iz i))), .int ((g3 * (ix i * ix i + iy i * iy i + iz i * iz i) - iz i * (g1 * ix i + g2 * iy i + g3 * iz i)))])) := ⟨_, rfl⟩
        refine pw_callV0 (R' := (zroom 1 0 0)) (h2 := h_1) [.ref 30, .ref (5 + 2 * i)] (fun q => nomatch q) d_Hold_answerTo_42 lk_Hold_49 (ho.2.2.2.2.2 i hic) rfl rfl rfl (c_Arrow_setSlide (ho.2.2.2.2.2 i hic) hwa (ho.2.2.2.2.1 i hic) eh_1) ?_
        refine pw_iinc (y := nI (i + 1)) d_Hold_answerTo_45 rfl (nI_1 i) (by decide) (pl' := [some (.ref 1), some (.ref 30), some (.int (nI (i + 1)))]) rfl ?_
        refine pw_goto 12 d_Hold_answerTo_48 (by decide) ?_
        refine ih (i + 1) _ _ _ _ (by omega) (by omega) ⟨_, _, _, zHo_sl hic ho eh_1⟩ (zsm_st hz eh_1 (List.mem_range'_1.mpr (by omega))) (fun f hf hb => ?_)
        rcases Nat.lt_succ_iff_lt_or_eq.mp hf with h1 | rfl
        · have hne : f ≠ i := by omega
          rw [pk_un hne, pk_un hne, pk_un hne]
          exact hv f h1 hb
        · rw [pk_us, pk_us, pk_us]
          exact ⟨rfl, rfl, rfl⟩
set_option maxRecDepth 20000 in
set_option maxHeartbeats 2000000 in
theorem c_answerTo {G : zG} {h : zH} {fc : Int32} {ix iy iz sx sy sz : Nat → Int32} {l1 l2 l3 : Int32} (ho : zHo h fc ix iy iz sx sy sz l1 l2 l3) {g1 g2 g3 : Int32} (hwa : h[30]? = some (.inr (0, [.int g1, .int g2, .int g3]))) : PW G M_Hold_answerTo (zroom 4 0 0) false (fun r h' => ∃ t : Int32, r = .inl (some (.int t)) ∧ (∃ sx sy sz l1 l2 l3, zHo h' fc ix iy iz sx sy sz l1 l2 l3) ∧ zsm zHS h h' ∧ ((t = 1 ∧ (¬ (g1 = 0 ∧ g2 = 0 ∧ g3 = 0) ∧ ∀ f, f < 12 → (fc >>> (nI f &&& 31)) &&& 1 = 1 → ¬ (g1 * ix f + g2 * iy f + g3 * iz f < 0))) ∨ (¬ (¬ (g1 = 0 ∧ g2 = 0 ∧ g3 = 0) ∧ ∀ f, f < 12 → (fc >>> (nI f &&& 31)) &&& 1 = 1 → ¬ (g1 * ix f + g2 * iy f + g3 * iz f < 0)) ∧ ∃ sx sy sz : Nat → Int32, (∀ f, f < 12 → (fc >>> (nI f &&& 31)) &&& 1 = 1 → sx f = (g1 * (ix f * ix f + iy f * iy f + iz f * iz f) - ix f * (g1 * ix f + g2 * iy f + g3 * iz f)) ∧ sy f = (g2 * (ix f * ix f + iy f * iy f + iz f * iz f) - iy f * (g1 * ix f + g2 * iy f + g3 * iz f)) ∧ sz f = (g3 * (ix f * ix f + iy f * iy f + iz f * iz f) - iz f * (g1 * ix f + g2 * iy f + g3 * iz f))) ∧ ((∃ i, i < 12 ∧ t = 10 + nI i ∧ ((fc >>> (nI i &&& 31)) &&& 1 = 1 ∧ g1 * ix i + g2 * iy i + g3 * iz i < 0 ∧ (¬ (sx i = 0 ∧ sy i = 0 ∧ sz i = 0) ∧ ∀ f, f < 12 → (fc >>> (nI f &&& 31)) &&& 1 = 1 → ¬ (sx i * ix f + sy i * iy f + sz i * iz f < 0))) ∧ ∀ j, j < i → ¬ ((fc >>> (nI j &&& 31)) &&& 1 = 1 ∧ g1 * ix j + g2 * iy j + g3 * iz j < 0 ∧ (¬ (sx j = 0 ∧ sy j = 0 ∧ sz j = 0) ∧ ∀ f, f < 12 → (fc >>> (nI f &&& 31)) &&& 1 = 1 → ¬ (sx j * ix f + sy j * iy f + sz j * iz f < 0)))) ∨ ((∀ i, i < 12 → ¬ ((fc >>> (nI i &&& 31)) &&& 1 = 1 ∧ g1 * ix i + g2 * iy i + g3 * iz i < 0 ∧ (¬ (sx i = 0 ∧ sy i = 0 ∧ sz i = 0) ∧ ∀ f, f < 12 → (fc >>> (nI f &&& 31)) &&& 1 = 1 → ¬ (sx i * ix f + sy i * iy f + sz i * iz f < 0)))) ∧ zSt2 fc ix iy iz sx sy sz g1 g2 g3 t))))) 0 (zentry 3 [.ref 1, .ref 30]) [] h 0 0 := by
  show PW G M_Hold_answerTo (zroom 4 0 0) false _ 0 [some (.ref 1), some (.ref 30), none] [] h 0 0
  refine pw_aload_n d_Hold_answerTo_0 rfl rfl ?_
  refine pw_aload_n d_Hold_answerTo_1 rfl rfl ?_
  refine pw_callVt (R' := (zroom 1 0 0)) [.ref 30] (fun q => nomatch q) d_Hold_answerTo_2 lk_Hold_45 ho.1 rfl rfl rfl (c_lets ho hwa) (fun t ht => ?_)
  refine pw_if_eq 10 d_Hold_answerTo_5 (by decide) (fun q_l => ?_) (fun q_l => ?_)
  · refine pw_iconst (x := 0) d_Hold_answerTo_10 (by decide) ?_
    refine pw_istore_n d_Hold_answerTo_11 rfl (by decide) (pl' := [some (.ref 1), some (.ref 30), some (.int (0))]) rfl ?_
    refine l_answer hwa ?_ 13 0 h sx sy sz (by decide) (by decide) ⟨_, _, _, ho⟩ zsm_rf (fun f hf => absurd hf (Nat.not_lt_zero _))
    rcases ht with ⟨e, -⟩ | ⟨-, h2⟩
    · exact absurd (e.symm.trans q_l) (by decide)
    · exact h2
  · refine pw_iconst (x := 1) d_Hold_answerTo_8 (by decide) ?_
    refine pw_ireturn d_Hold_answerTo_9 rfl (by decide) (by decide) ?_
    refine ⟨1, rfl, ⟨_, _, _, _, _, _, ho⟩, zsm_rf, Or.inl ⟨rfl, ?_⟩⟩
    rcases ht with ⟨-, h1⟩ | ⟨e, -⟩
    · exact h1
    · exact absurd e q_l
