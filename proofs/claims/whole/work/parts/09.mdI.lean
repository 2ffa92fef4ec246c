theorem zfr_bt (po pa pw : Nat → Int32) (s m : Int32) (n : Nat) {g : Nat} (hg : g < 32) : bt (zfr po pa pw s m n) g = true ↔ ∃ p, p < n ∧ ztp s pa pw p ∧ po p &&& m = m ∧ ¬ bt (po p) g = true := by
  induction n with
  | zero => simp [zfr, b_0]
  | succ n ih =>
    simp only [zfr]
    split
    · next h =>
      rw [b_or, Bool.or_eq_true, ih, bt_not _ hg]
      constructor
      · rintro (⟨p, h1, h2⟩ | h1)
        · exact ⟨p, by omega, h2⟩
        · exact ⟨n, by omega, h.1, h.2, by simpa using h1⟩
      · rintro ⟨p, h1, h2, h3, h4⟩
        rcases Nat.lt_succ_iff_lt_or_eq.mp h1 with h5 | rfl
        · exact Or.inl ⟨p, h5, h2, h3, h4⟩
        · exact Or.inr (by simpa using h4)
    · next h =>
      rw [ih]
      constructor
      · rintro ⟨p, h1, h2⟩
        exact ⟨p, by omega, h2⟩
      · rintro ⟨p, h1, h2, h3, h4⟩
        rcases Nat.lt_succ_iff_lt_or_eq.mp h1 with h5 | rfl
        · exact ⟨p, h5, h2, h3, h4⟩
        · exact absurd ⟨h2, h3⟩ h
theorem zff_bt (po pa pw : Nat → Int32) (jn pn : Nat) (s : Int32) (n : Nat) (hn : n ≤ 12) {g : Nat} (hg : g < 32) : bt (zff po pa pw jn pn s n) g = true ↔ g < n ∧ (6 ≤ g ∨ g < jn) ∧ zfr po pa pw s (1 <<< ((nI g) &&& 31)) pn &&& zkn jn = zkn jn &&& ((1 <<< ((nI g) &&& 31)) ^^^ -1) := by
  induction n with
  | zero => simp [zff, b_0]
  | succ n ih =>
    have ih := ih (by omega)
    simp only [zff]
    split
    · next h =>
      rw [b_or, Bool.or_eq_true, ih, zbt_sh hg (by omega)]
      constructor
      · rintro (⟨h1, h2⟩ | h1)
        · exact ⟨by omega, h2⟩
        · have e : g = n := by simpa using h1
          subst e
          exact ⟨by omega, h⟩
      · rintro ⟨h1, h2⟩
        rcases Nat.lt_succ_iff_lt_or_eq.mp h1 with h5 | rfl
        · exact Or.inl ⟨h5, h2⟩
        · exact Or.inr (by simp)
    · next h =>
      rw [ih]
      constructor
      · rintro ⟨h1, h2⟩
        exact ⟨by omega, h2⟩
      · rintro ⟨h1, h2⟩
        rcases Nat.lt_succ_iff_lt_or_eq.mp h1 with h5 | rfl
        · exact ⟨h5, h2⟩
        · exact absurd h2 h
/-- how many threes of planes are before this one -/
def zR3 (i j k : Nat) : Nat := (List.range i).foldl (fun s a => s + (11 - a) * (10 - a) / 2) 0 + (List.range (j - i - 1)).foldl (fun s b => s + (11 - (i + 1 + b))) 0 + (k - j - 1)
theorem zR3_lt : ∀ i, i < 12 → ∀ j, j < 12 → ∀ k, k < 12 → i < j → j < k → zR3 i j k < 220 := by decide +kernel
theorem zR3_j : ∀ i, i < 12 → ∀ j, j < 12 → i < j → zR3 i j 12 = zR3 i (j + 1) (j + 2) := by decide +kernel
theorem zR3_i : ∀ i, i < 12 → zR3 i 12 13 = zR3 (i + 1) (i + 2) (i + 3) := by decide +kernel
theorem zR3_k (i j k : Nat) (h : j < k) : zR3 i j (k + 1) = zR3 i j k + 1 := by unfold zR3; omega
theorem zR3_e : zR3 12 13 14 = 220 := by decide +kernel
/-- the reference while it makes its points: those of the threes so far -/
def rC (h0 h : zH) (th : Int32) (jn dr bl tn : Nat) (ms ml : Nat → Int32) (pn : Nat) (pt : Nat → Int32) (P : Nat → Nat → Nat → Prop) : Prop := zMo h th jn dr pn bl tn ∧ h[90]? = some (.inl (0, 880, .inl pt)) ∧ (∃ mk, h[94]? = some (.inl (0, 4, .inl mk))) ∧ zsm [84, 90, 94] h0 h ∧ rOk pn pt ∧ ∀ x y z q, zmm (rS pn pt) x y z q ↔ ∃ a b c, a < b ∧ b < c ∧ c < 12 ∧ (6 ≤ a ∨ a < jn) ∧ (6 ≤ b ∨ b < jn) ∧ (6 ≤ c ∨ c < jn) ∧ P a b c ∧ gT (iI (mA ml)) (iI (mB ml)) (iI (mC ml)) (iI (mD ml)) (ms 0).toInt (ms 1).toInt (ms 2).toInt a b c x y z q
theorem rC_cg {h0 h : zH} {th : Int32} {jn dr bl tn : Nat} {ms ml : Nat → Int32} {pn : Nat} {pt : Nat → Int32} {P P' : Nat → Nat → Nat → Prop} (hP : ∀ a b c, a < b → b < c → c < 12 → (6 ≤ a ∨ a < jn) → (6 ≤ b ∨ b < jn) → (6 ≤ c ∨ c < jn) → (P a b c ↔ P' a b c)) (h1 : rC h0 h th jn dr bl tn ms ml pn pt P) : rC h0 h th jn dr bl tn ms ml pn pt P' := by
  obtain ⟨a1, a2, a3, a4, a5, a6⟩ := h1
  refine ⟨a1, a2, a3, a4, a5, fun x y z q => ?_⟩
  rw [a6]
  constructor
  · rintro ⟨a, b, c, e1, e2, e3, e4, e5, e6, e7, e8⟩
    exact ⟨a, b, c, e1, e2, e3, e4, e5, e6, (hP a b c e1 e2 e3 e4 e5 e6).mp e7, e8⟩
  · rintro ⟨a, b, c, e1, e2, e3, e4, e5, e6, e7, e8⟩
    exact ⟨a, b, c, e1, e2, e3, e4, e5, e6, (hP a b c e1 e2 e3 e4 e5 e6).mpr e7, e8⟩
set_option maxRecDepth 20000 in
set_option maxHeartbeats 2000000 in
theorem l_cut3 {G : zG} {h0 : zH} {th : Int32} {jn dr bl tn : Nat} {ms ml : Nat → Int32} (h850 : h0[85]? = some (.inl (0, 3, .inl ms))) (h860 : h0[86]? = some (.inl (0, 48, .inl ml))) (hjn : jn ≤ 6) (hb : zpb (mA ml) (mB ml) (mC ml) (mD ml)) (hs : ∀ c, c < 3 → zsz (ms c)) {i j : Nat} (hi : i < 12) (hj : j < 12) (hij : i < j) {Q : zO → zH → Prop} (K : ∀ (h : zH) (pn : Nat) (pt : Nat → Int32), rC h0 h th jn dr bl tn ms ml pn pt (fun a b c => a < i ∨ (a = i ∧ (b < j ∨ (b = j ∧ c < 12)))) → pn ≤ zR3 i j 12 → PW G M_Md_cut (zroom 3 0 0) false Q 70 [some (.ref 84), some (.int (nI i)), some (.int (nI j)), some (.int (nI 12))] [] h 0 0) : ∀ (n k : Nat) (h : zH) (pn : Nat) (pt : Nat → Int32), 12 - k < n → k ≤ 12 → j < k → rC h0 h th jn dr bl tn ms ml pn pt (fun a b c => a < i ∨ (a = i ∧ (b < j ∨ (b = j ∧ c < k)))) → pn ≤ zR3 i j k → PW G M_Md_cut (zroom 3 0 0) false Q 27 [some (.ref 84), some (.int (nI i)), some (.int (nI j)), some (.int (nI k))] [] h 0 0 := by
  intro n
  induction n with
  | zero => intro k h pn pt hn; exact absurd hn (Nat.not_lt_zero _)
  | succ n ih =>
    intro k h pn pt hn hk hjk hC hpn
    obtain ⟨hm, h90, ⟨mk, h94⟩, hz, -⟩ := id hC
    have h85 := zsm_at hz (by decide) h850
    have h86 := zsm_at hz (by decide) h860
    refine pw_iload_n d_Md_cut_27 rfl rfl ?_
    refine pw_bipush (x := 12) d_Md_cut_28 (by decide) ?_
    refine pw_icmp_ge 70 d_Md_cut_30 (by decide) (fun q_c => ?_) (fun q_c => ?_)
    · have hkc : k = 12 := by have := (nI_leI (a := 12) (b := k) (by decide) (by omega)).mp q_c; omega
      subst hkc
      exact K h pn pt hC hpn
    · have hkc : k < 12 := by have := mt (nI_leI (a := 12) (b := k) (by decide) (by omega)).mpr q_c; omega
      refine pw_aload_n d_Md_cut_33 rfl rfl ?_
      refine pw_iload_n d_Md_cut_34 rfl rfl ?_
      refine pw_callV1 (R' := (zroom 0 0 0)) (h2 := h) [.int (nI i)] (fun q => nomatch q) d_Md_cut_35 lk_Md_100 hm rfl rfl rfl (c_isThere hm hi hjn) ?_
      refine pw_if_eq 64 d_Md_cut_38 (by decide) (fun q_i => ?_) (fun q_i => ?_)
      · refine pw_iinc (y := nI (k + 1)) d_Md_cut_64 rfl (nI_1 k) (by decide) (pl' := [some (.ref 84), some (.int (nI i)), some (.int (nI j)), some (.int (nI (k + 1)))]) rfl ?_
        refine pw_goto 27 d_Md_cut_67 (by decide) ?_
        refine ih (k + 1) h pn pt (by omega) (by omega) (by omega) (rC_cg (fun a b c d1 d2 d3 d4 d5 d6 => ⟨fun e => by omega, fun e => ?_⟩) hC) (by rw [zR3_k i j k hjk]; omega)
        have hno := z0 q_i
        omega
      · refine pw_aload_n d_Md_cut_41 rfl rfl ?_
        refine pw_iload_n d_Md_cut_42 rfl rfl ?_
        refine pw_callV1 (R' := (zroom 0 0 0)) (h2 := h) [.int (nI j)] (fun q => nomatch q) d_Md_cut_43 lk_Md_100 hm rfl rfl rfl (c_isThere hm hj hjn) ?_
        refine pw_if_eq 64 d_Md_cut_46 (by decide) (fun q_j => ?_) (fun q_j => ?_)
        · refine pw_iinc (y := nI (k + 1)) d_Md_cut_64 rfl (nI_1 k) (by decide) (pl' := [some (.ref 84), some (.int (nI i)), some (.int (nI j)), some (.int (nI (k + 1)))]) rfl ?_
          refine pw_goto 27 d_Md_cut_67 (by decide) ?_
          refine ih (k + 1) h pn pt (by omega) (by omega) (by omega) (rC_cg (fun a b c d1 d2 d3 d4 d5 d6 => ⟨fun e => by omega, fun e => ?_⟩) hC) (by rw [zR3_k i j k hjk]; omega)
          have hno := z0 q_j
          omega
        · refine pw_aload_n d_Md_cut_49 rfl rfl ?_
          refine pw_iload_n d_Md_cut_50 rfl rfl ?_
          refine pw_callV1 (R' := (zroom 0 0 0)) (h2 := h) [.int (nI k)] (fun q => nomatch q) d_Md_cut_51 lk_Md_100 hm rfl rfl rfl (c_isThere hm hkc hjn) ?_
          refine pw_if_eq 64 d_Md_cut_54 (by decide) (fun q_k => ?_) (fun q_k => ?_)
          · refine pw_iinc (y := nI (k + 1)) d_Md_cut_64 rfl (nI_1 k) (by decide) (pl' := [some (.ref 84), some (.int (nI i)), some (.int (nI j)), some (.int (nI (k + 1)))]) rfl ?_
            refine pw_goto 27 d_Md_cut_67 (by decide) ?_
            refine ih (k + 1) h pn pt (by omega) (by omega) (by omega) (rC_cg (fun a b c d1 d2 d3 d4 d5 d6 => ⟨fun e => by omega, fun e => ?_⟩) hC) (by rw [zR3_k i j k hjk]; omega)
            have hno := z0 q_k
            omega
          · refine pw_aload_n d_Md_cut_57 rfl rfl ?_
            refine pw_iload_n d_Md_cut_58 rfl rfl ?_
            refine pw_iload_n d_Md_cut_59 rfl rfl ?_
            refine pw_iload_n d_Md_cut_60 rfl rfl ?_
            refine pw_callVu (R' := (zroom 2 0 0)) [.int (nI i), .int (nI j), .int (nI k)] (fun q => nomatch q) d_Md_cut_61 lk_Md_104 hm rfl rfl rfl (c_make hm h85 h86 h90 h94 hi hj hkc hb hs (by have := zR3_lt i hi j hj k hkc hij hjk; omega)) (fun h1 hh => ?_)
            refine pw_iinc (y := nI (k + 1)) d_Md_cut_64 rfl (nI_1 k) (by decide) (pl' := [some (.ref 84), some (.int (nI i)), some (.int (nI j)), some (.int (nI (k + 1)))]) rfl ?_
            refine pw_goto 27 d_Md_cut_67 (by decide) ?_
            obtain ⟨pn', pt', mk', e1, e2, e3, e4, e5⟩ := hh
            obtain ⟨f1, f2, f3⟩ := zMk_ok hb hi hj hkc hs hC.2.2.2.2.1 e5
            refine ih (k + 1) h1 pn' pt' (by omega) (by omega) (by omega) ⟨e1, e2, ⟨_, e3⟩, zsm_tr hz e4 (fun _ q => q), f1, fun x y z q => ?_⟩ (by rw [zR3_k i j k hjk]; omega)
            rw [f3, hC.2.2.2.2.2]
            constructor
            · rintro (⟨a, b, c, d1, d2, d3, d4, d5, d6, d7, d8⟩ | h)
              · exact ⟨a, b, c, d1, d2, d3, d4, d5, d6, by omega, d8⟩
              · exact ⟨i, j, k, hij, hjk, hkc, z1 q_i, z1 q_j, z1 q_k, by omega, h⟩
            · rintro ⟨a, b, c, d1, d2, d3, d4, d5, d6, d7, d8⟩
              by_cases hh9 : a = i ∧ b = j ∧ c = k
              · obtain ⟨rfl, rfl, rfl⟩ := hh9
                exact Or.inr d8
              · exact Or.inl ⟨a, b, c, d1, d2, d3, d4, d5, d6, by omega, d8⟩
set_option maxRecDepth 20000 in
set_option maxHeartbeats 2000000 in
theorem l_cut2 {G : zG} {h0 : zH} {th : Int32} {jn dr bl tn : Nat} {ms ml : Nat → Int32} (h850 : h0[85]? = some (.inl (0, 3, .inl ms))) (h860 : h0[86]? = some (.inl (0, 48, .inl ml))) (hjn : jn ≤ 6) (hb : zpb (mA ml) (mB ml) (mC ml) (mD ml)) (hs : ∀ c, c < 3 → zsz (ms c)) {i : Nat} (hi : i < 12) {Q : zO → zH → Prop} (K : ∀ (h : zH) (pn : Nat) (pt : Nat → Int32) (o3 : Option Value), rC h0 h th jn dr bl tn ms ml pn pt (fun a b c => a < i ∨ (a = i ∧ b < 12)) → pn ≤ zR3 i 12 13 → PW G M_Md_cut (zroom 3 0 0) false Q 76 [some (.ref 84), some (.int (nI i)), some (.int (nI 12)), o3] [] h 0 0) : ∀ (n j : Nat) (h : zH) (pn : Nat) (pt : Nat → Int32) (o3 : Option Value), 12 - j < n → j ≤ 12 → i < j → rC h0 h th jn dr bl tn ms ml pn pt (fun a b c => a < i ∨ (a = i ∧ b < j)) → pn ≤ zR3 i j (j + 1) → PW G M_Md_cut (zroom 3 0 0) false Q 17 [some (.ref 84), some (.int (nI i)), some (.int (nI j)), o3] [] h 0 0 := by
  intro n
  induction n with
  | zero => intro j h pn pt o3 hn; exact absurd hn (Nat.not_lt_zero _)
  | succ n ih =>
    intro j h pn pt o3 hn hj hij hC hpn
    refine pw_iload_n d_Md_cut_17 rfl rfl ?_
    refine pw_bipush (x := 12) d_Md_cut_18 (by decide) ?_
    refine pw_icmp_ge 76 d_Md_cut_20 (by decide) (fun q_c => ?_) (fun q_c => ?_)
    · have hjc : j = 12 := by have := (nI_leI (a := 12) (b := j) (by decide) (by omega)).mp q_c; omega
      subst hjc
      exact K h pn pt _ hC hpn
    · have hjc : j < 12 := by have := mt (nI_leI (a := 12) (b := j) (by decide) (by omega)).mpr q_c; omega
      refine pw_iload_n d_Md_cut_23 rfl rfl ?_
      refine pw_iconst (x := 1) d_Md_cut_24 (by decide) ?_
      refine pw_iadd d_Md_cut_25 ?_
      refine pw_istore_n d_Md_cut_26 rfl (by decide) (pl' := [some (.ref 84), some (.int (nI i)), some (.int (nI j)), some (.int ((nI j + 1)))]) rfl ?_
      rw [nI_1 j]
      refine l_cut3 h850 h860 hjn hb hs hi hjc hij (fun h1 pn1 pt1 c1 c2 => ?_) 13 (j + 1) h pn pt (by omega) (by omega) (by omega) (rC_cg (fun a b c d1 d2 d3 d4 d5 d6 => by omega) hC) hpn
      refine pw_iinc (y := nI (j + 1)) d_Md_cut_70 rfl (nI_1 j) (by decide) (pl' := [some (.ref 84), some (.int (nI i)), some (.int (nI (j + 1))), some (.int (nI 12))]) rfl ?_
      refine pw_goto 17 d_Md_cut_73 (by decide) ?_
      exact ih (j + 1) h1 pn1 pt1 _ (by omega) (by omega) (by omega) (rC_cg (fun a b c d1 d2 d3 d4 d5 d6 => by omega) c1) (by rw [← zR3_j i hi j hjc hij]; exact c2)
set_option maxRecDepth 20000 in
set_option maxHeartbeats 2000000 in
theorem l_cut1 {G : zG} {h0 : zH} {th : Int32} {jn dr bl tn : Nat} {ms ml : Nat → Int32} (h850 : h0[85]? = some (.inl (0, 3, .inl ms))) (h860 : h0[86]? = some (.inl (0, 48, .inl ml))) (hjn : jn ≤ 6) (hb : zpb (mA ml) (mB ml) (mC ml) (mD ml)) (hs : ∀ c, c < 3 → zsz (ms c)) {Q : zO → zH → Prop} (K : ∀ (h : zH) (pn : Nat) (pt : Nat → Int32) (o2 o3 : Option Value), rC h0 h th jn dr bl tn ms ml pn pt (fun _ _ _ => True) → pn ≤ 220 → PW G M_Md_cut (zroom 3 0 0) false Q 82 [some (.ref 84), some (.int (nI 12)), o2, o3] [] h 0 0) : ∀ (n i : Nat) (h : zH) (pn : Nat) (pt : Nat → Int32) (o2 o3 : Option Value), 12 - i < n → i ≤ 12 → rC h0 h th jn dr bl tn ms ml pn pt (fun a b c => a < i) → pn ≤ zR3 i (i + 1) (i + 2) → PW G M_Md_cut (zroom 3 0 0) false Q 7 [some (.ref 84), some (.int (nI i)), o2, o3] [] h 0 0 := by
  intro n
  induction n with
  | zero => intro i h pn pt o2 o3 hn; exact absurd hn (Nat.not_lt_zero _)
  | succ n ih =>
    intro i h pn pt o2 o3 hn hi hC hpn
    refine pw_iload_n d_Md_cut_7 rfl rfl ?_
    refine pw_bipush (x := 12) d_Md_cut_8 (by decide) ?_
    refine pw_icmp_ge 82 d_Md_cut_10 (by decide) (fun q_c => ?_) (fun q_c => ?_)
    · have hic : i = 12 := by have := (nI_leI (a := 12) (b := i) (by decide) (by omega)).mp q_c; omega
      subst hic
      exact K h pn pt _ _ (rC_cg (fun a b c d1 d2 d3 d4 d5 d6 => ⟨fun _ => trivial, fun _ => by omega⟩) hC) (by rw [zR3_e] at hpn; exact hpn)
    · have hic : i < 12 := by have := mt (nI_leI (a := 12) (b := i) (by decide) (by omega)).mpr q_c; omega
      refine pw_iload_n d_Md_cut_13 rfl rfl ?_
      refine pw_iconst (x := 1) d_Md_cut_14 (by decide) ?_
      refine pw_iadd d_Md_cut_15 ?_
      refine pw_istore_n d_Md_cut_16 rfl (by decide) (pl' := [some (.ref 84), some (.int (nI i)), some (.int ((nI i + 1))), o3]) rfl ?_
      rw [nI_1 i]
      refine l_cut2 h850 h860 hjn hb hs hic (fun h1 pn1 pt1 o9 c1 c2 => ?_) 13 (i + 1) h pn pt _ (by omega) (by omega) (by omega) (rC_cg (fun a b c d1 d2 d3 d4 d5 d6 => by omega) hC) hpn
      refine pw_iinc (y := nI (i + 1)) d_Md_cut_76 rfl (nI_1 i) (by decide) (pl' := [some (.ref 84), some (.int (nI (i + 1))), some (.int (nI 12)), o9]) rfl ?_
      refine pw_goto 7 d_Md_cut_79 (by decide) ?_
      exact ih (i + 1) h1 pn1 pt1 _ _ (by omega) (by omega) (rC_cg (fun a b c d1 d2 d3 d4 d5 d6 => by omega) c1) (by rw [← zR3_i i hic]; exact c2)
