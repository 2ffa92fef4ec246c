/-- a point put in -/
def zins (mk pt : Nat → Int32) (at_ pn : Nat) : Nat → Int32 := fun x => if x < 4 * at_ then pt x else if x < 4 * at_ + 4 then mk (x - 4 * at_) else if x < 4 * pn + 4 then pt (x - 4) else pt x
/-- what make does to the points -/
def zMk (ms ml : Nat → Int32) (i j k pn : Nat) (pt : Nat → Int32) (pn' : Nat) (pt' : Nat → Int32) : Prop :=
  (pn' = pn ∧ pt' = pt ∧ ∀ a b c d, ¬ gT (iI (mA ml)) (iI (mB ml)) (iI (mC ml)) (iI (mD ml)) (ms 0).toInt (ms 1).toInt (ms 2).toInt i j k a b c d) ∨
  (∃ mk : Nat → Int32, gT (iI (mA ml)) (iI (mB ml)) (iI (mC ml)) (iI (mD ml)) (ms 0).toInt (ms 1).toInt (ms 2).toInt i j k (mk 0).toInt (mk 1).toInt (mk 2).toInt (mk 3).toInt ∧ (∀ a b c d, gT (iI (mA ml)) (iI (mB ml)) (iI (mC ml)) (iI (mD ml)) (ms 0).toInt (ms 1).toInt (ms 2).toInt i j k a b c d → a = (mk 0).toInt ∧ b = (mk 1).toInt ∧ c = (mk 2).toInt ∧ d = (mk 3).toInt) ∧ ∃ at_, at_ ≤ pn ∧ (∀ r, at_ ≤ r → r < pn → ∃ t, zOr mk pt r t ∧ t < 0) ∧ (∀ a, at_ = a + 1 → ∃ t, zOr mk pt a t ∧ ¬ t < 0) ∧
    ((pn' = pn ∧ pt' = pt ∧ ∃ a, at_ = a + 1 ∧ zOr mk pt a 0) ∨ ((∀ a, at_ = a + 1 → ¬ zOr mk pt a 0) ∧ pn' = pn + 1 ∧ pt' = zins mk pt at_ pn)))
def zdn (V : Nat → Int) (q : Int) : Nat → Nat
  | 0 => q.natAbs
  | c + 1 => Nat.gcd (zdn V q c) (V c).natAbs
/-- the points moved up, from m on -/
def zsh (pt : Nat → Int32) (pn m : Nat) : Nat → Int32 := fun x => if m + 4 ≤ x ∧ x < 4 * pn + 4 then pt (x - 4) else pt x
theorem zsh_0 {pt : Nat → Int32} {pn : Nat} : zsh pt pn (4 * pn) = pt := by
  funext x
  unfold zsh
  rw [if_neg (by omega)]
theorem zsh_s {pt : Nat → Int32} {pn m : Nat} (h : m < 4 * pn) : upd (zsh pt pn (m + 1)) (m + 4) (zsh pt pn (m + 1) m) = zsh pt pn m := by
  funext x
  simp only [upd, zsh]
  by_cases h1 : x = m + 4
  · subst h1
    rw [if_pos rfl, if_neg (by omega), if_pos (by omega), Nat.add_sub_cancel]
  · rw [if_neg h1]
    by_cases h2 : m + 1 + 4 ≤ x ∧ x < 4 * pn + 4
    · rw [if_pos h2, if_pos (by omega)]
    · rw [if_neg h2, if_neg (by omega)]
/-- the point made written, c parts of it -/
def zas (mk pt : Nat → Int32) (at_ pn c : Nat) : Nat → Int32 := fun x => if 4 * at_ ≤ x ∧ x < 4 * at_ + c then mk (x - 4 * at_) else zsh pt pn (4 * at_) x
theorem zas_0 {mk pt : Nat → Int32} {at_ pn : Nat} : zas mk pt at_ pn 0 = zsh pt pn (4 * at_) := by
  funext x
  unfold zas
  rw [if_neg (by omega)]
theorem zas_s {mk pt : Nat → Int32} {at_ pn c : Nat} : upd (zas mk pt at_ pn c) (4 * at_ + c) (mk c) = zas mk pt at_ pn (c + 1) := by
  funext x
  simp only [upd, zas]
  by_cases h1 : x = 4 * at_ + c
  · subst h1
    rw [if_pos rfl, if_pos (by omega), Nat.add_sub_cancel_left]
  · rw [if_neg h1]
    by_cases h2 : 4 * at_ ≤ x ∧ x < 4 * at_ + c
    · rw [if_pos h2, if_pos (by omega)]
    · rw [if_neg h2, if_neg (by omega)]
theorem zas_4 {mk pt : Nat → Int32} {at_ pn : Nat} (h : at_ ≤ pn) : zas mk pt at_ pn 4 = zins mk pt at_ pn := by
  funext x
  simp only [zas, zins, zsh]
  by_cases h1 : x < 4 * at_
  · rw [if_neg (by omega), if_neg (by omega), if_pos h1]
  · rw [if_neg h1]
    by_cases h2 : x < 4 * at_ + 4
    · rw [if_pos (by omega), if_pos h2]
    · rw [if_neg (by omega), if_neg h2]
      by_cases h3 : x < 4 * pn + 4
      · rw [if_pos (by omega), if_pos h3]
      · rw [if_neg (by omega), if_neg h3]
set_option maxRecDepth 20000 in
set_option maxHeartbeats 2000000 in
theorem l_mk1 {G : zG} {h0 : zH} {th : Int32} {jn dr pn bl tn : Nat} (hm0 : zMo h0 th jn dr pn bl tn) {ms ml pt : Nat → Int32} (h850 : h0[85]? = some (.inl (0, 3, .inl ms))) (h860 : h0[86]? = some (.inl (0, 48, .inl ml))) (h900 : h0[90]? = some (.inl (0, 880, .inl pt))) {i j k : Nat} (hi : i < 12) (hj : j < 12) (hk : k < 12) {V : Nat → Int} {v3 : Int} (hV : ∀ c, c < 3 → zbd 21600 (zdm ml i j k c) (V c)) {q tu : Int32} {o8 : Option Value} {Q : zO → zH → Prop} (K : ∀ (h : zH) (mk : Nat → Int32) (d : Int32), zsm [94] h0 h → h[94]? = some (.inl (0, 4, .inl mk)) → (∀ c, c < 3 → mk c = zdm ml i j k c) → d.toInt.natAbs = zdn V v3 3 → 0 ≤ d.toInt → PW G M_Md_make (zroom 2 0 0) false Q 77 [some (.ref 84), some (.int (nI i)), some (.int (nI j)), some (.int (nI k)), some (.int q), some (.int tu), some (.int d), some (.int (nI 3)), o8] [] h 0 0) : ∀ (n c : Nat) (h : zH) (mk : Nat → Int32) (d : Int32), 3 - c < n → c ≤ 3 → zsm [94] h0 h → h[94]? = some (.inl (0, 4, .inl mk)) → (∀ e, e < c → mk e = zdm ml i j k e) → d.toInt.natAbs = zdn V v3 c → zbd 2147483647 d d.toInt → (0 < c → 0 ≤ d.toInt) → PW G M_Md_make (zroom 2 0 0) false Q 35 [some (.ref 84), some (.int (nI i)), some (.int (nI j)), some (.int (nI k)), some (.int q), some (.int tu), some (.int d), some (.int (nI c)), o8] [] h 0 0 := by
  intro n
  induction n with
  | zero => intro c h mk d hn; exact absurd hn (Nat.not_lt_zero _)
  | succ n ih =>
    intro c h mk d hn hc hz h94 hmk hdn hd hd0
    have hm := zsm_at hz (by decide) hm0
    have h85 := zsm_at hz (by decide) h850
    have h86 := zsm_at hz (by decide) h860
    refine pw_iload d_Md_make_35 rfl ?_
    refine pw_iconst (x := 3) d_Md_make_37 (by decide) ?_
    refine pw_icmp_ge 77 d_Md_make_38 (by decide) (fun q_c => ?_) (fun q_c => ?_)
    · have hcc : c = 3 := by have := (nI_leI (a := 3) (b := c) (by decide) (by omega)).mp q_c; omega
      subst hcc
      exact K h mk d hz h94 hmk hdn (hd0 (by decide))
    · have hcc : c < 3 := by have := mt (nI_leI (a := 3) (b := c) (by decide) (by omega)).mpr q_c; omega
      have hc4 : c < 4 := by omega
      refine pw_aload_n d_Md_make_41 rfl rfl ?_
      refine pw_get d_Md_make_42 fl_Md_38 hm rfl ?_
      refine pw_iload d_Md_make_45 rfl ?_
      refine pw_aload_n d_Md_make_47 rfl rfl ?_
      refine pw_iload_n d_Md_make_48 rfl rfl ?_
      refine pw_iload_n d_Md_make_49 rfl rfl ?_
      refine pw_iload_n d_Md_make_50 rfl rfl ?_
      refine pw_iload d_Md_make_51 rfl ?_
      refine pw_callV1 (R' := (zroom 1 0 0)) (h2 := h) [.int (nI i), .int (nI j), .int (nI k), .int (nI c)] (fun q => nomatch q) d_Md_make_53 lk_Md_86 hm rfl rfl rfl (c_determinant (c := c) hm h86 hi hj hk hc4) ?_
      obtain ⟨h_1, eh_1⟩ : ∃ x_9, x_9 = List.set h (94) (.inl (0, 4, .inl (upd mk c (zdm ml i j k c)))) := ⟨_, rfl⟩
      refine pw_iast rfl d_Md_make_56 h94 rfl rfl (by omega) (by decide) eh_1.symm ?_
      refine pw_iload d_Md_make_57 rfl ?_
      refine pw_aload_n d_Md_make_59 rfl rfl ?_
      refine pw_get d_Md_make_60 fl_Md_38 (zg_ne eh_1 (by decide) hm) rfl ?_
      refine pw_iload d_Md_make_63 rfl ?_
      refine pw_iald d_Md_make_65 (zg_eq eh_1 h94) rfl rfl (by omega) (by decide) ?_
      refine pw_callSt (R' := (zroom 0 0 0)) [.int (d), .int ((upd mk c (zdm ml i j k c)) c)] (fun q => nomatch q) d_Md_make_66 lk_Md_90 rfl rfl (c_common hd (zbd_wk (M := 21600) (by decide) (by rw [pk_us]; exact hV c hcc))) (fun t ht => ?_)
      refine pw_istore d_Md_make_69 (by decide) (pl' := [some (.ref 84), some (.int (nI i)), some (.int (nI j)), some (.int (nI k)), some (.int (q)), some (.int (tu)), some (.int (t)), some (.int (nI c)), o8]) rfl ?_
      refine pw_iinc (y := nI (c + 1)) d_Md_make_71 rfl (nI_1 c) (by decide) (pl' := [some (.ref 84), some (.int (nI i)), some (.int (nI j)), some (.int (nI k)), some (.int (q)), some (.int (tu)), some (.int (t)), some (.int (nI (c + 1))), o8]) rfl ?_
      refine pw_goto 35 d_Md_make_74 (by decide) ?_
      rw [pk_us] at ht
      have ht0 : 0 ≤ t.toInt := by rw [ht]; exact Int.natCast_nonneg _
      have htl := Int32.toInt_lt t
      refine ih (c + 1) _ _ _ (by omega) (by omega) (zsm_st hz eh_1 (by decide)) (zg_eq eh_1 h94) (fun e9 he9 => ?_) ?_ (zbd_self (by omega) (by omega)) (fun _ => ht0)
      · rcases Nat.lt_succ_iff_lt_or_eq.mp he9 with h1 | rfl
        · rw [pk_un (by omega)]; exact hmk e9 h1
        · exact pk_us
      · show t.toInt.natAbs = Nat.gcd (zdn V v3 c) (V c).natAbs
        rw [← hdn, ht, Int.natAbs_natCast, (hV c hcc).1]
