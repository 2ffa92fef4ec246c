/-- an int, the heap as it was -/
abbrev zq (h : zH) (F : Int32 → Prop) : zO → zH → Prop := fun r h' => ∃ t : Int32, r = .inl (some (.int t)) ∧ h' = h ∧ F t
/-- nothing, another heap -/
abbrev zu (F : zH → Prop) : zO → zH → Prop := fun r h' => r = .inl none ∧ F h'
section PWq
variable {G : zG} {M M' : zM} {R R' : Room} {P P' : Bool} {Q : zO → zH → Prop} {pc : Nat} {pl : List (Option Value)} {st : List Value} {h : zH} {nc ns : Nat}
theorem pw_callVt (A : List Value) {idx k ci : Nat} {fs : List Value} {stk : List Value} {F : Int32 → Prop} (hPP : P = true → P' = true) (hd : decode M.code pc = .ok (.invokevirtual idx, 3)) (hl : zLV M.nm.cls idx M' A.length) (hh : h[k]? = some (.inr (ci, fs))) (hc : (zCl[ci]?).map Prod.fst = some M'.nm.cls) (hst : stk = A.reverse ++ .ref k :: st) (hk : zchk A st (A.length + 1) M' R' R nc ns = true)
    (hb : PW G M' R' P' (zq h F) 0 (zentry M'.maxL (.ref k :: A)) [] h 0 0) (kk : ∀ t, F t → PW G M R P Q (pc + 3) pl (.int t :: st) h (nc + R'.cells) (ns + R'.slots)) : PW G M R P Q pc pl stk h nc ns :=
  pw_callVq A hPP hd hl hh hc hst hk hb (fun r h' q => by obtain ⟨t, e, -⟩ := q; exact ⟨_, e⟩) (fun v h' q => by obtain ⟨t, e, rfl, hF⟩ := q; cases e; exact kk t hF)
theorem pw_callVu (A : List Value) {idx k ci : Nat} {fs : List Value} {stk : List Value} {F : zH → Prop} (hPP : P = true → P' = true) (hd : decode M.code pc = .ok (.invokevirtual idx, 3)) (hl : zLV M.nm.cls idx M' A.length) (hh : h[k]? = some (.inr (ci, fs))) (hc : (zCl[ci]?).map Prod.fst = some M'.nm.cls) (hst : stk = A.reverse ++ .ref k :: st) (hk : zchk A st (A.length + 1) M' R' R nc ns = true)
    (hb : PW G M' R' P' (zu F) 0 (zentry M'.maxL (.ref k :: A)) [] h 0 0) (kk : ∀ h', F h' → PW G M R P Q (pc + 3) pl st h' (nc + R'.cells) (ns + R'.slots)) : PW G M R P Q pc pl stk h nc ns :=
  pw_callVq A hPP hd hl hh hc hst hk hb (fun r h' q => ⟨_, q.1⟩) (fun v h' q => by obtain ⟨e, hF⟩ := q; cases e; exact kk h' hF)
theorem pw_callSt (A : List Value) {idx : Nat} {stk : List Value} {F : Int32 → Prop} (hPP : P = true → P' = true) (hd : decode M.code pc = .ok (.invokestatic idx, 3)) (hl : zLS M.nm.cls idx M' A.length) (hst : stk = A.reverse ++ st) (hk : zchk A st A.length M' R' R nc ns = true)
    (hb : PW G M' R' P' (zq h F) 0 (zentry M'.maxL A) [] h 0 0) (kk : ∀ t, F t → PW G M R P Q (pc + 3) pl (.int t :: st) h (nc + R'.cells) (ns + R'.slots)) : PW G M R P Q pc pl stk h nc ns :=
  pw_callSq A hPP hd hl hst hk hb (fun r h' q => by obtain ⟨t, e, -⟩ := q; exact ⟨_, e⟩) (fun v h' q => by obtain ⟨t, e, rfl, hF⟩ := q; cases e; exact kk t hF)
theorem pw_callSu (A : List Value) {idx : Nat} {stk : List Value} {F : zH → Prop} (hPP : P = true → P' = true) (hd : decode M.code pc = .ok (.invokestatic idx, 3)) (hl : zLS M.nm.cls idx M' A.length) (hst : stk = A.reverse ++ st) (hk : zchk A st A.length M' R' R nc ns = true)
    (hb : PW G M' R' P' (zu F) 0 (zentry M'.maxL A) [] h 0 0) (kk : ∀ h', F h' → PW G M R P Q (pc + 3) pl st h' (nc + R'.cells) (ns + R'.slots)) : PW G M R P Q pc pl stk h nc ns :=
  pw_callSq A hPP hd hl hst hk hb (fun r h' q => ⟨_, q.1⟩) (fun v h' q => by obtain ⟨e, hF⟩ := q; cases e; exact kk h' hF)
end PWq
set_option maxRecDepth 20000 in
set_option maxHeartbeats 2000000 in
theorem l_hasJoint {G : zG} {h : zH} {jc bc : Nat} {sx sy sz kn : Int32} {sd fc cc nu pb so : Nat → Int32} (hr : zRk h jc bc sx sy sz kn sd fc cc nu pb so) (hjc : jc ≤ 6) {A B C D : Nat → Int32} (hpl : zPl h A B C D) {x y z q : Int32} : ∀ (n i : Nat) , jc - i < n → i ≤ jc → (∀ p, p < i → ¬ (A p * y = B p * x ∧ A p * z = C p * x ∧ B p * z = C p * y ∧ A p * q = D p * x ∧ B p * q = D p * y ∧ C p * q = D p * z)) → PW G M_Rock_hasJoint (zroom 1 0 0) true (fun r h' => ∃ t : Int32, r = .inl (some (.int t)) ∧ h' = h ∧ ((t = 1 ∧ ∃ p, p < jc ∧ A p * y = B p * x ∧ A p * z = C p * x ∧ B p * z = C p * y ∧ A p * q = D p * x ∧ B p * q = D p * y ∧ C p * q = D p * z) ∨ (t = 0 ∧ ¬ ∃ p, p < jc ∧ A p * y = B p * x ∧ A p * z = C p * x ∧ B p * z = C p * y ∧ A p * q = D p * x ∧ B p * q = D p * y ∧ C p * q = D p * z))) 3 [some (.ref 34), some (.int (x)), some (.int (y)), some (.int (z)), some (.int (q)), some (.int (nI i))] [] h 0 0 := by
  intro n
  induction n with
  | zero => intro i  hn; exact absurd hn (Nat.not_lt_zero _)
  | succ n ih =>
    intro i  hn hi hv
    refine pw_iload d_Rock_hasJoint_3 rfl ?_
    refine pw_aload_n d_Rock_hasJoint_5 rfl rfl ?_
    refine pw_get d_Rock_hasJoint_6 fl_Rock_37 hr.1 rfl ?_
    refine pw_icmp_ge 38 d_Rock_hasJoint_9 (by decide) (fun q_c => ?_) (fun q_c => ?_)
    · refine pw_iconst (x := 0) d_Rock_hasJoint_38 (by decide) ?_
      refine pw_zreturn d_Rock_hasJoint_39 rfl (by decide) (by decide) (by decide) ?_
      have hic : i = jc := by have := (nI_leI (a := jc) (b := i) (by omega) (by omega)).mp q_c; omega
      exact ⟨0, rfl, rfl, Or.inr ⟨rfl, by subst hic; exact fun ⟨p, h1, h2⟩ => hv p h1 h2⟩⟩
    · have hic : i < jc := by have := mt (nI_leI (a := jc) (b := i) (by omega) (by omega)).mpr q_c; omega
      refine pw_aload_n d_Rock_hasJoint_12 rfl rfl ?_
      refine pw_get d_Rock_hasJoint_13 fl_Rock_11 hr.1 rfl ?_
      refine pw_iload d_Rock_hasJoint_16 rfl ?_
      refine pw_aald (y := 52 + 2 * i) d_Rock_hasJoint_18 hpl.1 rfl rfl (by omega) (by decide) (zPls_at (by omega)) ?_
      refine pw_iload_n d_Rock_hasJoint_19 rfl rfl ?_
      refine pw_iload_n d_Rock_hasJoint_20 rfl rfl ?_
      refine pw_iload_n d_Rock_hasJoint_21 rfl rfl ?_
      refine pw_iload d_Rock_hasJoint_22 rfl ?_
      refine pw_callV1 (R' := (zroom 0 0 0)) (h2 := h) [.int (x), .int (y), .int (z), .int (q)] (fun _ => rfl) d_Rock_hasJoint_24 lk_Rock_96 (hpl.2.1 i (by omega)) rfl rfl rfl (c_Plane_isSame (hpl.2.1 i (by omega)) (hpl.2.2 i (by omega))) ?_
      refine pw_if_eq 32 d_Rock_hasJoint_27 (by decide) (fun q_1 => ?_) (fun q_1 => ?_)
      · refine pw_iinc (y := nI (i + 1)) d_Rock_hasJoint_32 rfl (nI_1 i) (by decide) (pl' := [some (.ref 34), some (.int (x)), some (.int (y)), some (.int (z)), some (.int (q)), some (.int (nI (i + 1)))]) rfl ?_
        refine pw_goto 3 d_Rock_hasJoint_35 (by decide) ?_
        exact ih (i + 1) (by omega) (by omega) (fun p hp => by rcases Nat.lt_succ_iff_lt_or_eq.mp hp with h1 | rfl; exact hv p h1; grind)
      · refine pw_iconst (x := 1) d_Rock_hasJoint_30 (by decide) ?_
        refine pw_zreturn d_Rock_hasJoint_31 rfl (by decide) (by decide) (by decide) ?_
        exact ⟨1, rfl, rfl, Or.inl ⟨rfl, i, hic, by grind⟩⟩
set_option maxRecDepth 20000 in
set_option maxHeartbeats 2000000 in
theorem c_hasJoint {G : zG} {h : zH} {jc bc : Nat} {sx sy sz kn : Int32} {sd fc cc nu pb so : Nat → Int32} (hr : zRk h jc bc sx sy sz kn sd fc cc nu pb so) (hjc : jc ≤ 6) {A B C D : Nat → Int32} (hpl : zPl h A B C D) {x y z q : Int32} : PW G M_Rock_hasJoint (zroom 1 0 0) true (fun r h' => ∃ t : Int32, r = .inl (some (.int t)) ∧ h' = h ∧ ((t = 1 ∧ ∃ p, p < jc ∧ A p * y = B p * x ∧ A p * z = C p * x ∧ B p * z = C p * y ∧ A p * q = D p * x ∧ B p * q = D p * y ∧ C p * q = D p * z) ∨ (t = 0 ∧ ¬ ∃ p, p < jc ∧ A p * y = B p * x ∧ A p * z = C p * x ∧ B p * z = C p * y ∧ A p * q = D p * x ∧ B p * q = D p * y ∧ C p * q = D p * z))) 0 (zentry 6 [.ref 34, .int (x), .int (y), .int (z), .int (q)]) [] h 0 0 := by
  show PW G M_Rock_hasJoint (zroom 1 0 0) true _ 0 [some (.ref 34), some (.int (x)), some (.int (y)), some (.int (z)), some (.int (q)), none] [] h 0 0
  refine pw_iconst (x := 0) d_Rock_hasJoint_0 (by decide) ?_
  refine pw_istore d_Rock_hasJoint_1 (by decide) (pl' := [some (.ref 34), some (.int (x)), some (.int (y)), some (.int (z)), some (.int (q)), some (.int (0))]) rfl ?_
  exact l_hasJoint hr hjc hpl (jc + 1) 0 (by omega) (by omega) (fun p hp => absurd hp (Nat.not_lt_zero _))
set_option maxRecDepth 20000 in
set_option maxHeartbeats 2000000 in
theorem l_isOnSides {G : zG} {h : zH} {jc bc : Nat} {sx sy sz kn : Int32} {sd fc cc nu pb so : Nat → Int32} (hr : zRk h jc bc sx sy sz kn sd fc cc nu pb so) (hjc : jc ≤ 6) {A B C D : Nat → Int32} (hpl : zPl h A B C D) {wt x y z : Int32} : ∀ (n i : Nat) (o6 : Option Value), jc - i < n → i ≤ jc → (∀ j, j < i → ¬ (A j * x + B j * y + C j * z - D j * 1) = 0 ∧ (0 < (A j * x + B j * y + C j * z - D j * 1) ↔ (wt >>> (nI j &&& 31)) &&& 1 = 1)) → PW G M_Rock_isOnSides (zroom 1 0 0) true (fun r h' => ∃ t : Int32, r = .inl (some (.int t)) ∧ h' = h ∧ ((t = 1 ∧ ∀ j, j < jc → ¬ (A j * x + B j * y + C j * z - D j * 1) = 0 ∧ (0 < (A j * x + B j * y + C j * z - D j * 1) ↔ (wt >>> (nI j &&& 31)) &&& 1 = 1)) ∨ (t = 0 ∧ ¬ (∀ j, j < jc → ¬ (A j * x + B j * y + C j * z - D j * 1) = 0 ∧ (0 < (A j * x + B j * y + C j * z - D j * 1) ↔ (wt >>> (nI j &&& 31)) &&& 1 = 1))))) 3 [some (.ref 34), some (.int (wt)), some (.int (x)), some (.int (y)), some (.int (z)), some (.int (nI i)), o6] [] h 0 0 := by
  intro n
  induction n with
  | zero => intro i o6 hn; exact absurd hn (Nat.not_lt_zero _)
  | succ n ih =>
    intro i o6 hn hi hv
    refine pw_iload d_Rock_isOnSides_3 rfl ?_
    refine pw_aload_n d_Rock_isOnSides_5 rfl rfl ?_
    refine pw_get d_Rock_isOnSides_6 fl_Rock_37 hr.1 rfl ?_
    refine pw_icmp_ge 61 d_Rock_isOnSides_9 (by decide) (fun q_c => ?_) (fun q_c => ?_)
    · refine pw_iconst (x := 1) d_Rock_isOnSides_61 (by decide) ?_
      refine pw_zreturn d_Rock_isOnSides_62 rfl (by decide) (by decide) (by decide) ?_
      have hic : i = jc := by have := (nI_leI (a := jc) (b := i) (by omega) (by omega)).mp q_c; omega
      subst hic
      exact ⟨1, rfl, rfl, Or.inl ⟨rfl, hv⟩⟩
    · have hic : i < jc := by have := mt (nI_leI (a := jc) (b := i) (by omega) (by omega)).mpr q_c; omega
      refine pw_aload_n d_Rock_isOnSides_12 rfl rfl ?_
      refine pw_get d_Rock_isOnSides_13 fl_Rock_11 hr.1 rfl ?_
      refine pw_iload d_Rock_isOnSides_16 rfl ?_
      refine pw_aald (y := 52 + 2 * i) d_Rock_isOnSides_18 hpl.1 rfl rfl (by omega) (by decide) (zPls_at (by omega)) ?_
      refine pw_iload_n d_Rock_isOnSides_19 rfl rfl ?_
      refine pw_iload_n d_Rock_isOnSides_20 rfl rfl ?_
      refine pw_iload d_Rock_isOnSides_21 rfl ?_
      refine pw_iconst (x := 1) d_Rock_isOnSides_23 (by decide) ?_
      refine pw_callV1 (R' := (zroom 0 0 0)) (h2 := h) [.int (x), .int (y), .int (z), .int (1)] (fun _ => rfl) d_Rock_isOnSides_24 lk_Rock_120 (hpl.2.1 i (by omega)) rfl rfl rfl (c_Plane_heightOf (hpl.2.1 i (by omega)) (hpl.2.2 i (by omega))) ?_
      refine pw_istore d_Rock_isOnSides_27 (by decide) (pl' := [some (.ref 34), some (.int (wt)), some (.int (x)), some (.int (y)), some (.int (z)), some (.int (nI i)), some (.int ((A i * x + B i * y + C i * z - D i * 1)))]) rfl ?_
      refine pw_iload d_Rock_isOnSides_29 rfl ?_
      refine pw_if_eq 53 d_Rock_isOnSides_31 (by decide) (fun q_1 => ?_) (fun q_1 => ?_)
      · refine pw_iconst (x := 0) d_Rock_isOnSides_53 (by decide) ?_
        refine pw_zreturn d_Rock_isOnSides_54 rfl (by decide) (by decide) (by decide) ?_
        exact ⟨0, rfl, rfl, Or.inr ⟨rfl, fun hh => by have hq := hh i hic; grind [zlt, zle]⟩⟩
      · refine pw_iload d_Rock_isOnSides_34 rfl ?_
        refine pw_if_le 43 d_Rock_isOnSides_36 (by decide) (fun q_2 => ?_) (fun q_2 => ?_)
        · refine pw_iconst (x := 0) d_Rock_isOnSides_43 (by decide) ?_
          refine pw_iload_n d_Rock_isOnSides_44 rfl rfl ?_
          refine pw_iload d_Rock_isOnSides_45 rfl ?_
          refine pw_callS1 (R' := (zroom 0 0 0)) (h2 := h) [.int (wt), .int (nI i)] (fun _ => rfl) d_Rock_isOnSides_47 lk_Rock_107 rfl rfl c_hasBit ?_
          refine pw_icmp_eq 55 d_Rock_isOnSides_50 (by decide) (fun q_3 => ?_) (fun q_3 => ?_)
          · refine pw_iinc (y := nI (i + 1)) d_Rock_isOnSides_55 rfl (nI_1 i) (by decide) (pl' := [some (.ref 34), some (.int (wt)), some (.int (x)), some (.int (y)), some (.int (z)), some (.int (nI (i + 1))), some (.int ((A i * x + B i * y + C i * z - D i * 1)))]) rfl ?_
            refine pw_goto 3 d_Rock_isOnSides_58 (by decide) ?_
            exact ih (i + 1) _ (by omega) (by omega) (fun j hj => by rcases Nat.lt_succ_iff_lt_or_eq.mp hj with h1 | rfl; exact hv j h1; grind [zlt, zle])
          · refine pw_iconst (x := 0) d_Rock_isOnSides_53 (by decide) ?_
            refine pw_zreturn d_Rock_isOnSides_54 rfl (by decide) (by decide) (by decide) ?_
            exact ⟨0, rfl, rfl, Or.inr ⟨rfl, fun hh => by have hq := hh i hic; grind [zlt, zle]⟩⟩
        · refine pw_iconst (x := 1) d_Rock_isOnSides_39 (by decide) ?_
          refine pw_goto 44 d_Rock_isOnSides_40 (by decide) ?_
          refine pw_iload_n d_Rock_isOnSides_44 rfl rfl ?_
          refine pw_iload d_Rock_isOnSides_45 rfl ?_
          refine pw_callS1 (R' := (zroom 0 0 0)) (h2 := h) [.int (wt), .int (nI i)] (fun _ => rfl) d_Rock_isOnSides_47 lk_Rock_107 rfl rfl c_hasBit ?_
          refine pw_icmp_eq 55 d_Rock_isOnSides_50 (by decide) (fun q_4 => ?_) (fun q_4 => ?_)
          · refine pw_iinc (y := nI (i + 1)) d_Rock_isOnSides_55 rfl (nI_1 i) (by decide) (pl' := [some (.ref 34), some (.int (wt)), some (.int (x)), some (.int (y)), some (.int (z)), some (.int (nI (i + 1))), some (.int ((A i * x + B i * y + C i * z - D i * 1)))]) rfl ?_
            refine pw_goto 3 d_Rock_isOnSides_58 (by decide) ?_
            exact ih (i + 1) _ (by omega) (by omega) (fun j hj => by rcases Nat.lt_succ_iff_lt_or_eq.mp hj with h1 | rfl; exact hv j h1; grind [zlt, zle])
          · refine pw_iconst (x := 0) d_Rock_isOnSides_53 (by decide) ?_
            refine pw_zreturn d_Rock_isOnSides_54 rfl (by decide) (by decide) (by decide) ?_
            exact ⟨0, rfl, rfl, Or.inr ⟨rfl, fun hh => by have hq := hh i hic; grind [zlt, zle]⟩⟩
set_option maxRecDepth 20000 in
set_option maxHeartbeats 2000000 in
theorem c_isOnSides {G : zG} {h : zH} {jc bc : Nat} {sx sy sz kn : Int32} {sd fc cc nu pb so : Nat → Int32} (hr : zRk h jc bc sx sy sz kn sd fc cc nu pb so) (hjc : jc ≤ 6) {A B C D : Nat → Int32} (hpl : zPl h A B C D) {wt x y z : Int32} : PW G M_Rock_isOnSides (zroom 1 0 0) true (fun r h' => ∃ t : Int32, r = .inl (some (.int t)) ∧ h' = h ∧ ((t = 1 ∧ ∀ j, j < jc → ¬ (A j * x + B j * y + C j * z - D j * 1) = 0 ∧ (0 < (A j * x + B j * y + C j * z - D j * 1) ↔ (wt >>> (nI j &&& 31)) &&& 1 = 1)) ∨ (t = 0 ∧ ¬ (∀ j, j < jc → ¬ (A j * x + B j * y + C j * z - D j * 1) = 0 ∧ (0 < (A j * x + B j * y + C j * z - D j * 1) ↔ (wt >>> (nI j &&& 31)) &&& 1 = 1))))) 0 (zentry 7 [.ref 34, .int (wt), .int (x), .int (y), .int (z)]) [] h 0 0 := by
  show PW G M_Rock_isOnSides (zroom 1 0 0) true _ 0 [some (.ref 34), some (.int (wt)), some (.int (x)), some (.int (y)), some (.int (z)), none, none] [] h 0 0
  refine pw_iconst (x := 0) d_Rock_isOnSides_0 (by decide) ?_
  refine pw_istore d_Rock_isOnSides_1 (by decide) (pl' := [some (.ref 34), some (.int (wt)), some (.int (x)), some (.int (y)), some (.int (z)), some (.int (0)), none]) rfl ?_
  exact l_isOnSides hr hjc hpl (jc + 1) 0 _ (by omega) (by omega) (fun p hp => absurd hp (Nat.not_lt_zero _))
set_option maxRecDepth 20000 in
set_option maxHeartbeats 2000000 in
theorem c_isCutBy {G : zG} {h : zH} {jc bc : Nat} {sx sy sz kn : Int32} {sd fc cc nu pb so : Nat → Int32} (hr : zRk h jc bc sx sy sz kn sd fc cc nu pb so) {a b c d : Int32} : PW G M_Rock_isCutBy (zroom 1 0 0) true (zr (some (.int (if ((if a * sx < 0 then a * sx else 0) + (if b * sy < 0 then b * sy else 0) + (if c * sz < 0 then c * sz else 0) < d ∧ d < (if 0 < a * sx then a * sx else 0) + (if 0 < b * sy then b * sy else 0) + (if 0 < c * sz then c * sz else 0)) then 1 else 0))) h) 0 (zentry 7 [.ref 34, .int (a), .int (b), .int (c), .int (d)]) [] h 0 0 := by
  show PW G M_Rock_isCutBy (zroom 1 0 0) true _ 0 [some (.ref 34), some (.int (a)), some (.int (b)), some (.int (c)), some (.int (d)), none, none] [] h 0 0
  refine pw_iconst (x := 0) d_Rock_isCutBy_0 (by decide) ?_
  refine pw_iload_n d_Rock_isCutBy_1 rfl rfl ?_
  refine pw_aload_n d_Rock_isCutBy_2 rfl rfl ?_
  refine pw_get d_Rock_isCutBy_3 fl_Rock_66 hr.1 rfl ?_
  refine pw_imul d_Rock_isCutBy_6 ?_
  refine pw_mmin d_Rock_isCutBy_7 lk_Rock_87 rfl ?_
  refine pw_iconst (x := 0) d_Rock_isCutBy_10 (by decide) ?_
  refine pw_iload_n d_Rock_isCutBy_11 rfl rfl ?_
  refine pw_aload_n d_Rock_isCutBy_12 rfl rfl ?_
  refine pw_get d_Rock_isCutBy_13 fl_Rock_69 hr.1 rfl ?_
  refine pw_imul d_Rock_isCutBy_16 ?_
  refine pw_mmin d_Rock_isCutBy_17 lk_Rock_87 rfl ?_
  refine pw_iadd d_Rock_isCutBy_20 ?_
  refine pw_iconst (x := 0) d_Rock_isCutBy_21 (by decide) ?_
  refine pw_iload_n d_Rock_isCutBy_22 rfl rfl ?_
  refine pw_aload_n d_Rock_isCutBy_23 rfl rfl ?_
  refine pw_get d_Rock_isCutBy_24 fl_Rock_72 hr.1 rfl ?_
  refine pw_imul d_Rock_isCutBy_27 ?_
  refine pw_mmin d_Rock_isCutBy_28 lk_Rock_87 rfl ?_
  refine pw_iadd d_Rock_isCutBy_31 ?_
  refine pw_istore d_Rock_isCutBy_32 (by decide) (pl' := [some (.ref 34), some (.int (a)), some (.int (b)), some (.int (c)), some (.int (d)), some (.int ((((if (a * sx) < 0 then (a * sx) else 0) + (if (b * sy) < 0 then (b * sy) else 0)) + (if (c * sz) < 0 then (c * sz) else 0)))), none]) rfl ?_
  refine pw_iconst (x := 0) d_Rock_isCutBy_34 (by decide) ?_
  refine pw_iload_n d_Rock_isCutBy_35 rfl rfl ?_
  refine pw_aload_n d_Rock_isCutBy_36 rfl rfl ?_
  refine pw_get d_Rock_isCutBy_37 fl_Rock_66 hr.1 rfl ?_
  refine pw_imul d_Rock_isCutBy_40 ?_
  refine pw_mmax d_Rock_isCutBy_41 lk_Rock_93 rfl ?_
  refine pw_iconst (x := 0) d_Rock_isCutBy_44 (by decide) ?_
  refine pw_iload_n d_Rock_isCutBy_45 rfl rfl ?_
  refine pw_aload_n d_Rock_isCutBy_46 rfl rfl ?_
  refine pw_get d_Rock_isCutBy_47 fl_Rock_69 hr.1 rfl ?_
  refine pw_imul d_Rock_isCutBy_50 ?_
  refine pw_mmax d_Rock_isCutBy_51 lk_Rock_93 rfl ?_
  refine pw_iadd d_Rock_isCutBy_54 ?_
  refine pw_iconst (x := 0) d_Rock_isCutBy_55 (by decide) ?_
  refine pw_iload_n d_Rock_isCutBy_56 rfl rfl ?_
  refine pw_aload_n d_Rock_isCutBy_57 rfl rfl ?_
  refine pw_get d_Rock_isCutBy_58 fl_Rock_72 hr.1 rfl ?_
  refine pw_imul d_Rock_isCutBy_61 ?_
  refine pw_mmax d_Rock_isCutBy_62 lk_Rock_93 rfl ?_
  refine pw_iadd d_Rock_isCutBy_65 ?_
  refine pw_istore d_Rock_isCutBy_66 (by decide) (pl' := [some (.ref 34), some (.int (a)), some (.int (b)), some (.int (c)), some (.int (d)), some (.int ((((if (a * sx) < 0 then (a * sx) else 0) + (if (b * sy) < 0 then (b * sy) else 0)) + (if (c * sz) < 0 then (c * sz) else 0)))), some (.int ((((if 0 < (a * sx) then (a * sx) else 0) + (if 0 < (b * sy) then (b * sy) else 0)) + (if 0 < (c * sz) then (c * sz) else 0))))]) rfl ?_
  refine pw_iload d_Rock_isCutBy_68 rfl ?_
  refine pw_iload d_Rock_isCutBy_70 rfl ?_
  refine pw_icmp_ge 86 d_Rock_isCutBy_72 (by decide) (fun q_1 => ?_) (fun q_1 => ?_)
  · refine pw_iconst (x := 0) d_Rock_isCutBy_86 (by decide) ?_
    refine pw_zreturn d_Rock_isCutBy_87 rfl (by decide) (by decide) (by decide) ?_
    exact ⟨by rw [if_neg (by grind [zlt, zle])], rfl⟩
  · refine pw_iload d_Rock_isCutBy_75 rfl ?_
    refine pw_iload d_Rock_isCutBy_77 rfl ?_
    refine pw_icmp_ge 86 d_Rock_isCutBy_79 (by decide) (fun q_2 => ?_) (fun q_2 => ?_)
    · refine pw_iconst (x := 0) d_Rock_isCutBy_86 (by decide) ?_
      refine pw_zreturn d_Rock_isCutBy_87 rfl (by decide) (by decide) (by decide) ?_
      exact ⟨by rw [if_neg (by grind [zlt, zle])], rfl⟩
    · refine pw_iconst (x := 1) d_Rock_isCutBy_82 (by decide) ?_
      refine pw_goto 87 d_Rock_isCutBy_83 (by decide) ?_
      refine pw_zreturn d_Rock_isCutBy_87 rfl (by decide) (by decide) (by decide) ?_
      exact ⟨by rw [if_pos (by grind [zlt, zle])], rfl⟩
theorem z1 {c : Prop} [Decidable c] (h : ¬ (if c then (1 : Int32) else 0) = 0) : c := by
  by_cases hc : c
  · exact hc
  · rw [if_neg hc] at h; exact absurd rfl h
theorem z0 {c : Prop} [Decidable c] (h : (if c then (1 : Int32) else 0) = 0) : ¬ c := by
  intro hc
  rw [if_pos hc] at h
  exact absurd h (by decide)
set_option maxRecDepth 20000 in
set_option maxHeartbeats 2000000 in
theorem c_isJoint {G : zG} {h : zH} {tc dc : Nat} {op : Int32} {tk tb ty : Nat → Int32} (hw : zWp h tc dc op tk tb ty) {jc bc : Nat} {sx sy sz kn : Int32} {sd fc cc nu pb so : Nat → Int32} (hr : zRk h jc bc sx sy sz kn sd fc cc nu pb so) {a b c d : Int32} : PW G M_WP_isJoint (zroom 2 0 0) true (zr (some (.int (if (-6 ≤ a ∧ a ≤ 6) ∧ (-6 ≤ b ∧ b ≤ 6) ∧ (-6 ≤ c ∧ c ≤ 6) ∧ (-100 ≤ d ∧ d ≤ 100) ∧ ((if a * sx < 0 then a * sx else 0) + (if b * sy < 0 then b * sy else 0) + (if c * sz < 0 then c * sz else 0) < d ∧ d < (if 0 < a * sx then a * sx else 0) + (if 0 < b * sy then b * sy else 0) + (if 0 < c * sz then c * sz else 0)) then 1 else 0))) h) 0 (zentry 5 [.ref 0, .int (a), .int (b), .int (c), .int (d)]) [] h 0 0 := by
  show PW G M_WP_isJoint (zroom 2 0 0) true _ 0 [some (.ref 0), some (.int (a)), some (.int (b)), some (.int (c)), some (.int (d))] [] h 0 0
  refine pw_iload_n d_WP_isJoint_0 rfl rfl ?_
  refine pw_bipush (x := 6) d_WP_isJoint_1 (by decide) ?_
  refine pw_callS1 (R' := (zroom 0 0 0)) (h2 := h) [.int (a), .int (6)] (fun _ => rfl) d_WP_isJoint_3 lk_WP_209 rfl rfl c_isWithin ?_
  refine pw_if_eq 56 d_WP_isJoint_6 (by decide) (fun q_1 => ?_) (fun q_1 => ?_)
  · refine pw_iconst (x := 0) d_WP_isJoint_56 (by decide) ?_
    refine pw_zreturn d_WP_isJoint_57 rfl (by decide) (by decide) (by decide) ?_
    exact ⟨by rw [if_neg (fun h => z0 q_1 h.1)], rfl⟩
  · refine pw_iload_n d_WP_isJoint_9 rfl rfl ?_
    refine pw_bipush (x := 6) d_WP_isJoint_10 (by decide) ?_
    refine pw_callS1 (R' := (zroom 0 0 0)) (h2 := h) [.int (b), .int (6)] (fun _ => rfl) d_WP_isJoint_12 lk_WP_209 rfl rfl c_isWithin ?_
    refine pw_if_eq 56 d_WP_isJoint_15 (by decide) (fun q_2 => ?_) (fun q_2 => ?_)
    · refine pw_iconst (x := 0) d_WP_isJoint_56 (by decide) ?_
      refine pw_zreturn d_WP_isJoint_57 rfl (by decide) (by decide) (by decide) ?_
      exact ⟨by rw [if_neg (fun h => z0 q_2 h.2.1)], rfl⟩
    · refine pw_iload_n d_WP_isJoint_18 rfl rfl ?_
      refine pw_bipush (x := 6) d_WP_isJoint_19 (by decide) ?_
      refine pw_callS1 (R' := (zroom 0 0 0)) (h2 := h) [.int (c), .int (6)] (fun _ => rfl) d_WP_isJoint_21 lk_WP_209 rfl rfl c_isWithin ?_
      refine pw_if_eq 56 d_WP_isJoint_24 (by decide) (fun q_3 => ?_) (fun q_3 => ?_)
      · refine pw_iconst (x := 0) d_WP_isJoint_56 (by decide) ?_
        refine pw_zreturn d_WP_isJoint_57 rfl (by decide) (by decide) (by decide) ?_
        exact ⟨by rw [if_neg (fun h => z0 q_3 h.2.2.1)], rfl⟩
      · refine pw_iload d_WP_isJoint_27 rfl ?_
        refine pw_bipush (x := 100) d_WP_isJoint_29 (by decide) ?_
        refine pw_callS1 (R' := (zroom 0 0 0)) (h2 := h) [.int (d), .int (100)] (fun _ => rfl) d_WP_isJoint_31 lk_WP_209 rfl rfl c_isWithin ?_
        refine pw_if_eq 56 d_WP_isJoint_34 (by decide) (fun q_4 => ?_) (fun q_4 => ?_)
        · refine pw_iconst (x := 0) d_WP_isJoint_56 (by decide) ?_
          refine pw_zreturn d_WP_isJoint_57 rfl (by decide) (by decide) (by decide) ?_
          exact ⟨by rw [if_neg (fun h => z0 q_4 h.2.2.2.1)], rfl⟩
        · refine pw_aload_n d_WP_isJoint_37 rfl rfl ?_
          refine pw_get d_WP_isJoint_38 fl_WP_57 hw.1 rfl ?_
          refine pw_iload_n d_WP_isJoint_41 rfl rfl ?_
          refine pw_iload_n d_WP_isJoint_42 rfl rfl ?_
          refine pw_iload_n d_WP_isJoint_43 rfl rfl ?_
          refine pw_iload d_WP_isJoint_44 rfl ?_
          refine pw_callV1 (R' := (zroom 1 0 0)) (h2 := h) [.int (a), .int (b), .int (c), .int (d)] (fun _ => rfl) d_WP_isJoint_46 lk_WP_212 hr.1 rfl rfl rfl (c_isCutBy hr) ?_
          refine pw_if_eq 56 d_WP_isJoint_49 (by decide) (fun q_5 => ?_) (fun q_5 => ?_)
          · refine pw_iconst (x := 0) d_WP_isJoint_56 (by decide) ?_
            refine pw_zreturn d_WP_isJoint_57 rfl (by decide) (by decide) (by decide) ?_
            exact ⟨by rw [if_neg (fun h => z0 q_5 h.2.2.2.2)], rfl⟩
          · refine pw_iconst (x := 1) d_WP_isJoint_52 (by decide) ?_
            refine pw_goto 57 d_WP_isJoint_53 (by decide) ?_
            refine pw_zreturn d_WP_isJoint_57 rfl (by decide) (by decide) (by decide) ?_
            exact ⟨by rw [if_pos ⟨z1 q_1, z1 q_2, z1 q_3, z1 q_4, z1 q_5⟩], rfl⟩
