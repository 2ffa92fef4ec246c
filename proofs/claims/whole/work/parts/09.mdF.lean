theorem zOr_fn {mk pt : Nat → Int32} {p : Nat} {t u : Int32} (h : zOr mk pt p t) (h' : zOr mk pt p u) : t = u := by
  rcases h with ⟨k, a1, a2, a3, a4⟩ | ⟨e, a⟩
  · rcases h' with ⟨k', b1, b2, b3, b4⟩ | ⟨e', b⟩
    · have : k = k' := by
        rcases Nat.lt_trichotomy k k' with h | h | h
        · exact absurd (b2 k h) a3
        · exact h
        · exact absurd (a2 k' h) b3
      subst this
      rw [a4, b4]
    · exact absurd (b k a1) a3
  · rcases h' with ⟨k', b1, b2, b3, b4⟩ | ⟨e', b⟩
    · exact absurd (a k' b1) b3
    · rw [e, e']
set_option maxRecDepth 20000 in
set_option maxHeartbeats 2000000 in
theorem l_mk6 {G : zG} {h : zH} {th : Int32} {jn dr pn bl tn : Nat} (hm : zMo h th jn dr pn bl tn) {pt mk : Nat → Int32} (h90 : h[90]? = some (.inl (0, 880, .inl pt))) (h94 : h[94]? = some (.inl (0, 4, .inl mk))) (hpn : pn < 220) {i j k : Nat} {q tu d : Int32} {o7 o8 : Option Value} {Q : zO → zH → Prop} (Sa : ∀ a, a ≤ pn → (∀ r, a ≤ r → r < pn → ∃ t, zOr mk pt r t ∧ t < 0) → (∀ b, a = b + 1 → ∃ t, zOr mk pt b t ∧ ¬ t < 0) → (∃ b, a = b + 1 ∧ zOr mk pt b 0) → Q (.inl none) h) (In : ∀ (a : Nat) (h' : zH), a ≤ pn → (∀ r, a ≤ r → r < pn → ∃ t, zOr mk pt r t ∧ t < 0) → (∀ b, a = b + 1 → ∃ t, zOr mk pt b t ∧ ¬ t < 0) → (∀ b, a = b + 1 → ¬ zOr mk pt b 0) → zsm [84, 90] h h' → zMo h' th jn dr (pn + 1) bl tn → h'[90]? = some (.inl (0, 880, .inl (zins mk pt a pn))) → Q (.inl none) h') : PW G M_Md_make (zroom 2 0 0) false Q 161 [some (.ref 84), some (.int (nI i)), some (.int (nI j)), some (.int (nI k)), some (.int q), some (.int tu), some (.int d), o7, o8] [] h 0 0 := by
  refine pw_aload_n d_Md_make_161 rfl rfl ?_
  refine pw_get d_Md_make_162 fl_Md_94 hm rfl ?_
  refine pw_istore d_Md_make_165 (by decide) (pl' := [some (.ref 84), some (.int (nI i)), some (.int (nI j)), some (.int (nI k)), some (.int q), some (.int tu), some (.int d), some (.int (nI pn)), o8]) rfl ?_
  refine l_mk3 hm h90 h94 hpn (fun a hap a1 a2 => ?_) pn (Nat.le_refl _) (fun r h1 h2 => by omega)
  cases a with
  | zero =>
    refine pw_iload d_Md_make_189 rfl ?_
    refine pw_if_le 206 d_Md_make_191 (by decide) (fun _ => ?_) (fun q => absurd (show nI 0 ≤ 0 by decide) q)
    refine pw_iconst (x := 4) d_Md_make_206 (by decide) ?_
    refine pw_aload_n d_Md_make_207 rfl rfl ?_
    refine pw_get d_Md_make_208 fl_Md_94 hm rfl ?_
    refine pw_imul d_Md_make_211 ?_
    refine pw_iconst (x := 1) d_Md_make_212 (by decide) ?_
    refine pw_isub d_Md_make_213 ?_
    refine pw_istore d_Md_make_214 (by decide) (pl' := [some (.ref 84), some (.int (nI i)), some (.int (nI j)), some (.int (nI k)), some (.int (q)), some (.int (tu)), some (.int (d)), some (.int (nI 0)), some (.int (((4 * nI pn) - 1)))]) rfl ?_
    rw [n40]
    refine l_mk4 (a := 0) hm hpn hap (fun h1 v9 z1 k1 => ?_) (4 * pn + 1) (4 * pn) h (by omega) (Nat.le_refl _) (by omega) zsm_rf (by rw [zsh_0]; exact h90)
    refine pw_iconst (x := 0) d_Md_make_247 (by decide) ?_
    refine pw_istore d_Md_make_248 (by decide) (pl' := [some (.ref 84), some (.int (nI i)), some (.int (nI j)), some (.int (nI k)), some (.int q), some (.int tu), some (.int d), some (.int (nI 0)), some (.int 0)]) rfl ?_
    refine l_mk5 (a := 0) (zsm_at z1 (by decide) hm) hpn (zsm_at z1 (by decide) h94) hap (fun h2 z2 k2 k3 => In _ h2 hap a1 a2 (fun b9 e9 => by cases e9) (zsm_tr (zsm_tr zsm_rf z1 (by decide)) z2 (fun _ q => q)) k2 k3) 5 0 h1 (by decide) (by decide) zsm_rf (by rw [zas_0]; exact k1)
  | succ b =>
    refine pw_iload d_Md_make_189 rfl ?_
    refine pw_if_le 206 d_Md_make_191 (by decide) (fun q => absurd q (nI_nle (by omega) (by omega))) (fun _ => ?_)
    refine pw_aload_n d_Md_make_194 rfl rfl ?_
    refine pw_iload d_Md_make_195 rfl ?_
    refine pw_iconst (x := 1) d_Md_make_197 (by decide) ?_
    refine pw_isub d_Md_make_198 ?_
    rw [nI_pred b]
    refine pw_callVt (R' := (zroom 0 0 0)) [.int (nI b)] (fun q => nomatch q) d_Md_make_199 lk_Md_97 hm rfl rfl rfl (c_orderP (p := b) hm h90 h94 (by omega)) (fun t ht => ?_)
    refine pw_if_ne 206 d_Md_make_202 (by decide) (fun q_z => ?_) (fun q_z => ?_)
    · refine pw_iconst (x := 4) d_Md_make_206 (by decide) ?_
      refine pw_aload_n d_Md_make_207 rfl rfl ?_
      refine pw_get d_Md_make_208 fl_Md_94 hm rfl ?_
      refine pw_imul d_Md_make_211 ?_
      refine pw_iconst (x := 1) d_Md_make_212 (by decide) ?_
      refine pw_isub d_Md_make_213 ?_
      refine pw_istore d_Md_make_214 (by decide) (pl' := [some (.ref 84), some (.int (nI i)), some (.int (nI j)), some (.int (nI k)), some (.int (q)), some (.int (tu)), some (.int (d)), some (.int (nI (b + 1))), some (.int (((4 * nI pn) - 1)))]) rfl ?_
      rw [n40]
      refine l_mk4 (a := (b + 1)) hm hpn hap (fun h1 v9 z1 k1 => ?_) (4 * pn + 1) (4 * pn) h (by omega) (Nat.le_refl _) (by omega) zsm_rf (by rw [zsh_0]; exact h90)
      refine pw_iconst (x := 0) d_Md_make_247 (by decide) ?_
      refine pw_istore d_Md_make_248 (by decide) (pl' := [some (.ref 84), some (.int (nI i)), some (.int (nI j)), some (.int (nI k)), some (.int q), some (.int tu), some (.int d), some (.int (nI (b + 1))), some (.int 0)]) rfl ?_
      refine l_mk5 (a := (b + 1)) (zsm_at z1 (by decide) hm) hpn (zsm_at z1 (by decide) h94) hap (fun h2 z2 k2 k3 => In _ h2 hap a1 a2 (fun b9 e9 z9 => by cases e9; exact q_z (zOr_fn ht z9)) (zsm_tr (zsm_tr zsm_rf z1 (by decide)) z2 (fun _ q => q)) k2 k3) 5 0 h1 (by decide) (by decide) zsm_rf (by rw [zas_0]; exact k1)
    · refine pw_return d_Md_make_205 rfl (by decide) (by decide) ?_
      exact Sa _ hap a1 a2 ⟨b, rfl, by rw [q_z] at ht; exact ht⟩
theorem zbxx {u v g s : Int} (hg : 0 < g) (hu : g ∣ u) (hv : g ∣ v) (h : 0 ≤ u / g ∧ u / g ≤ s * (v / g)) : 0 ≤ u ∧ u ≤ s * v := by
  obtain ⟨a, rfl⟩ := hu
  obtain ⟨b, rfl⟩ := hv
  rw [Int.mul_ediv_cancel_left _ (by omega), Int.mul_ediv_cancel_left _ (by omega)] at h
  refine ⟨Int.mul_nonneg (by omega) h.1, ?_⟩
  have := Int.mul_le_mul_of_nonneg_left h.2 (Int.le_of_lt hg)
  have e : g * (s * b) = s * (g * b) := by grind
  omega
set_option maxRecDepth 20000 in
set_option maxHeartbeats 2000000 in
theorem c_make {G : zG} {h : zH} {th : Int32} {jn dr pn bl tn : Nat} (hm : zMo h th jn dr pn bl tn) {ms ml pt mk : Nat → Int32} (h85 : h[85]? = some (.inl (0, 3, .inl ms))) (h86 : h[86]? = some (.inl (0, 48, .inl ml))) (h90 : h[90]? = some (.inl (0, 880, .inl pt))) (h94 : h[94]? = some (.inl (0, 4, .inl mk))) {i j k : Nat} (hi : i < 12) (hj : j < 12) (hk : k < 12) (hb : zpb (mA ml) (mB ml) (mC ml) (mD ml)) (hs : ∀ c, c < 3 → zsz (ms c)) (hpn : pn < 220) : PW G M_Md_make (zroom 2 0 0) false (fun r h' => r = .inl none ∧ ∃ pn' pt' mk', zMo h' th jn dr pn' bl tn ∧ h'[90]? = some (.inl (0, 880, .inl pt')) ∧ h'[94]? = some (.inl (0, 4, .inl mk')) ∧ zsm [84, 90, 94] h h' ∧ zMk ms ml i j k pn pt pn' pt') 0 (zentry 9 [.ref 84, .int (nI i), .int (nI j), .int (nI k)]) [] h 0 0 := by
  show PW G M_Md_make (zroom 2 0 0) false _ 0 [some (.ref 84), some (.int (nI i)), some (.int (nI j)), some (.int (nI k)), none, none, none, none, none] [] h 0 0
  obtain ⟨v0, v1, v2, v3, b0, b1, b2, b3, e3, g1, g2, g3⟩ := zdm_ok hb hi hj hk
  refine pw_aload_n d_Md_make_0 rfl rfl ?_
  refine pw_iload_n d_Md_make_1 rfl rfl ?_
  refine pw_iload_n d_Md_make_2 rfl rfl ?_
  refine pw_iload_n d_Md_make_3 rfl rfl ?_
  refine pw_iconst (x := 3) d_Md_make_4 (by decide) ?_
  refine pw_callV1 (R' := (zroom 1 0 0)) (h2 := h) [.int (nI i), .int (nI j), .int (nI k), .int (3)] (fun q => nomatch q) d_Md_make_5 lk_Md_86 hm rfl rfl rfl (c_determinant (c := 3) hm h86 hi hj hk (by decide)) ?_
  refine pw_istore d_Md_make_8 (by decide) (pl' := [some (.ref 84), some (.int (nI i)), some (.int (nI j)), some (.int (nI k)), some (.int (zdm ml i j k 3)), none, none, none, none]) rfl ?_
  refine pw_iload d_Md_make_10 rfl ?_
  refine pw_if_ne 16 d_Md_make_12 (by decide) (fun q_q => ?_) (fun q_q => ?_)
  · have hv3 : v3 ≠ 0 := fun e9 => q_q (Int32.toInt_inj.mp (by rw [b3.1, e9]; rfl))
    refine pw_iload d_Md_make_16 rfl ?_
    refine pw_if_ge 25 d_Md_make_18 (by decide) (fun q_s => ?_) (fun q_s => ?_)
    · have hsg : 0 ≤ v3 := by have := Int32.le_iff_toInt_le.mp q_s; rw [b3.1] at this; exact this
      refine pw_iconst (x := 1) d_Md_make_25 (by decide) ?_
      refine pw_istore d_Md_make_26 (by decide) (pl' := [some (.ref 84), some (.int (nI i)), some (.int (nI j)), some (.int (nI k)), some (.int (zdm ml i j k 3)), some (.int (1)), none, none, none]) rfl ?_
      refine pw_iload d_Md_make_28 rfl ?_
      refine pw_istore d_Md_make_30 (by decide) (pl' := [some (.ref 84), some (.int (nI i)), some (.int (nI j)), some (.int (nI k)), some (.int (zdm ml i j k 3)), some (.int (1)), some (.int (zdm ml i j k 3)), none, none]) rfl ?_
      refine pw_iconst (x := 0) d_Md_make_32 (by decide) ?_
      refine pw_istore d_Md_make_33 (by decide) (pl' := [some (.ref 84), some (.int (nI i)), some (.int (nI j)), some (.int (nI k)), some (.int (zdm ml i j k 3)), some (.int (1)), some (.int (zdm ml i j k 3)), some (.int (0)), none]) rfl ?_
      have hV : ∀ c, c < 3 → zbd 21600 (zdm ml i j k c) ((fun c : Nat => if c = 0 then v0 else if c = 1 then v1 else if c = 2 then v2 else v3) c) := fun c hc => by
        have hcc : c = 0 ∨ c = 1 ∨ c = 2 := by omega
        rcases hcc with rfl | rfl | rfl
        · exact b0
        · exact b1
        · exact b2
      refine l_mk1 hm h85 h86 h90 hi hj hk (V := (fun c : Nat => if c = 0 then v0 else if c = 1 then v1 else if c = 2 then v2 else v3)) (v3 := v3) hV (fun h1 mk1 d z1 k94 k2 k3 k4 => ?_) 4 0 h mk _ (by decide) (by decide) zsm_rf h94 (fun e he => absurd he (Nat.not_lt_zero _)) (by rw [b3.1]; rfl) (zbd_wk (M := 1296) (by decide) (by rw [b3.1]; exact b3)) (fun q => absurd q (by decide))
      obtain ⟨U, hUe⟩ : ∃ U : Nat → Int, U = (fun c : Nat => 1 * (fun c : Nat => if c = 0 then v0 else if c = 1 then v1 else if c = 2 then v2 else v3) c) := ⟨_, rfl⟩
      have hU0 : U 0 = 1 * v0 := by rw [hUe]; rfl
      have hU1 : U 1 = 1 * v1 := by rw [hUe]; rfl
      have hU2 : U 2 = 1 * v2 := by rw [hUe]; rfl
      have hU3 : U 3 = 1 * v3 := by rw [hUe]; rfl
      obtain ⟨g, hge⟩ : ∃ g : Int, g = ((g4 (U 0) (U 1) (U 2) (U 3) : Nat) : Int) := ⟨_, rfl⟩
      have hgn : zdn (fun c : Nat => if c = 0 then v0 else if c = 1 then v1 else if c = 2 then v2 else v3) v3 3 = g4 (U 0) (U 1) (U 2) (U 3) := by
        rw [hU0, hU1, hU2, hU3, g4_sg _ _ _ _ _ (by decide)]
        exact g4_as v0 v1 v2 v3
      have hdg : d.toInt = g := by rw [hge, ← hgn, ← k3]; omega
      have hu30 : 0 < U 3 := by rw [hU3]; omega
      have hg0 : 0 < g := by rw [hge]; exact Int.ofNat_lt.mpr (g4_pos hu30)
      have hd0 : ¬ d = 0 := fun e => absurd (e ▸ hdg) (fun e2 => by have : (0 : Int32).toInt = 0 := (by decide); omega)
      have hdv : ∀ c, c < 4 → g ∣ U c := fun c hc => by
        have hcc : c = 0 ∨ c = 1 ∨ c = 2 ∨ c = 3 := by omega
        rw [hge]
        rcases hcc with rfl | rfl | rfl | rfl
        · exact g4_d1 _ _ _ _
        · exact g4_d2 _ _ _ _
        · exact g4_d3 _ _ _ _
        · exact g4_d4 _ _ _ _
      have hu3 : 0 ≤ U 3 / g ∧ U 3 / g ≤ 1296 := ⟨Int.ediv_nonneg (by omega) (by omega), Int.le_trans (Int.ediv_le_self _ (by omega)) (by have := b3.2; omega)⟩
      have htu : zbd 1 (1 : Int32) (1) := ⟨rfl, by decide, by decide⟩
      have hUc : ∀ c, c < 3 → ((1 : Int32) * zdm ml i j k c).toInt = U c := fun c hc => by rw [(zbd_mul htu (hV c hc) (by decide)).1, hUe]
      have hU3c : ((1 : Int32) * zdm ml i j k 3).toInt = U 3 := by rw [(zbd_mul htu b3 (by decide)).1, hU3]
      have hH : ∀ f, gh (iI (mA ml)) (iI (mB ml)) (iI (mC ml)) (iI (mD ml)) f v0 v1 v2 v3 = 0 → gh (iI (mA ml)) (iI (mB ml)) (iI (mC ml)) (iI (mD ml)) f (U 0) (U 1) (U 2) (U 3) = 0 := fun f hf => by rw [hU0, hU1, hU2, hU3]; exact g_scl hf
      have hgd : gd (iI (mA ml)) (iI (mB ml)) (iI (mC ml)) i j k ≠ 0 := by rw [← e3]; omega
      have hT := gT_iff (sx := (ms 0).toInt) (sy := (ms 1).toInt) (sz := (ms 2).toInt) hu30 hgd (hH i g1) (hH j g2) (hH k g3)
      rw [← hge] at hT
      refine pw_aload_n d_Md_make_77 rfl rfl ?_
      refine pw_get d_Md_make_78 fl_Md_38 (zsm_at z1 (by decide) hm) rfl ?_
      refine pw_iconst (x := 3) d_Md_make_81 (by decide) ?_
      refine pw_iload d_Md_make_82 rfl ?_
      refine pw_iload d_Md_make_84 rfl ?_
      refine pw_imul d_Md_make_86 ?_
      refine pw_iload d_Md_make_87 rfl ?_
      refine pw_idiv d_Md_make_89 hd0 ?_
      obtain ⟨h_61, eh_61⟩ : ∃ x_9, x_9 = List.set h1 (94) (.inl (0, 4, .inl (upd mk1 3 (((1 * zdm ml i j k 3) / d))))) := ⟨_, rfl⟩
      refine pw_iast rfl d_Md_make_90 k94 rfl rfl (by decide) (by decide) eh_61.symm ?_
      refine pw_iconst (x := 0) d_Md_make_91 (by decide) ?_
      refine pw_istore d_Md_make_92 (by decide) (pl' := [some (.ref 84), some (.int (nI i)), some (.int (nI j)), some (.int (nI k)), some (.int (zdm ml i j k 3)), some (.int (1)), some (.int (d)), some (.int (0)), none]) rfl ?_
      refine l_mk2 hm h85 h86 h90 (U := U) (g := g) hs hUc hdg hg0 hd0 hdv hu3 (fun h2 z2 k5 c hc hbx => ?_) (fun h2 mk2 z2 k5 k6 k7 => ?_) 4 0 _ _ (by decide) (by decide) (zsm_st z1 eh_61 (by decide)) (zg_eq eh_61 k94) (fun e9 he9 => absurd he9 (Nat.not_lt_zero _)) (fun e9 h1 h2 => by rw [pk_un (by omega)]; exact k2 e9 h2) (by rw [pk_us]; exact zdivx hU3c hdg hg0 (hdv 3 (by decide))) (fun e9 he9 => absurd he9 (Nat.not_lt_zero _))
      · obtain ⟨mk9, k5⟩ := k5
        refine ⟨rfl, pn, pt, mk9, zsm_at z2 (by decide) hm, zsm_at z2 (by decide) h90, k5, zsm_tr zsm_rf z2 (by decide), Or.inl ⟨rfl, rfl, fun a b c9 d9 hh => ?_⟩⟩
        obtain ⟨-, rfl, rfl, rfl, rfl⟩ := (hT a b c9 d9).mp hh
        obtain ⟨-, -, ⟨x1, x2, x3⟩, -⟩ := hh
        have hcc : c = 0 ∨ c = 1 ∨ c = 2 := by omega
        rcases hcc with rfl | rfl | rfl
        · exact hbx x1
        · exact hbx x2
        · exact hbx x3
      · have hTm : gT (iI (mA ml)) (iI (mB ml)) (iI (mC ml)) (iI (mD ml)) (ms 0).toInt (ms 1).toInt (ms 2).toInt i j k (mk2 0).toInt (mk2 1).toInt (mk2 2).toInt (mk2 3).toInt := by
          rw [k6 0 (by decide), k6 1 (by decide), k6 2 (by decide), k6 3 (by decide)]
          refine (hT _ _ _ _).mpr ⟨⟨?_, ?_, ?_⟩, rfl, rfl, rfl, rfl⟩
          · exact zbxx hg0 (hdv 0 (by decide)) (hdv 3 (by decide)) (k7 0 (by decide))
          · exact zbxx hg0 (hdv 1 (by decide)) (hdv 3 (by decide)) (k7 1 (by decide))
          · exact zbxx hg0 (hdv 2 (by decide)) (hdv 3 (by decide)) (k7 2 (by decide))
        have hTu : ∀ a b c d, gT (iI (mA ml)) (iI (mB ml)) (iI (mC ml)) (iI (mD ml)) (ms 0).toInt (ms 1).toInt (ms 2).toInt i j k a b c d → a = (mk2 0).toInt ∧ b = (mk2 1).toInt ∧ c = (mk2 2).toInt ∧ d = (mk2 3).toInt := fun a b c d hh => by
          rw [k6 0 (by decide), k6 1 (by decide), k6 2 (by decide), k6 3 (by decide)]
          exact ((hT a b c d).mp hh).2
        refine l_mk6 (zsm_at z2 (by decide) hm) (zsm_at z2 (by decide) h90) k5 hpn (fun a hap o1 o2 o3 => ?_) (fun a h3 hap o1 o2 o3 z3 o4 o5 => ?_)
        · exact ⟨rfl, pn, pt, mk2, zsm_at z2 (by decide) hm, zsm_at z2 (by decide) h90, k5, zsm_tr zsm_rf z2 (by decide), Or.inr ⟨mk2, hTm, hTu, a, hap, o1, o2, Or.inl ⟨rfl, rfl, o3⟩⟩⟩
        · exact ⟨rfl, pn + 1, _, mk2, o4, o5, zsm_at z3 (by decide) k5, zsm_tr (zsm_tr zsm_rf z2 (by decide)) z3 (by decide), Or.inr ⟨mk2, hTm, hTu, a, hap, o1, o2, Or.inr ⟨o3, rfl, rfl⟩⟩⟩
    · have hsg : v3 < 0 := by have := Int32.lt_iff_toInt_lt.mp (zle.mp q_s); rw [b3.1] at this; exact this
      refine pw_iconst (x := (-1)) d_Md_make_21 (by decide) ?_
      refine pw_goto 26 d_Md_make_22 (by decide) ?_
      refine pw_istore d_Md_make_26 (by decide) (pl' := [some (.ref 84), some (.int (nI i)), some (.int (nI j)), some (.int (nI k)), some (.int (zdm ml i j k 3)), some (.int ((-1))), none, none, none]) rfl ?_
      refine pw_iload d_Md_make_28 rfl ?_
      refine pw_istore d_Md_make_30 (by decide) (pl' := [some (.ref 84), some (.int (nI i)), some (.int (nI j)), some (.int (nI k)), some (.int (zdm ml i j k 3)), some (.int ((-1))), some (.int (zdm ml i j k 3)), none, none]) rfl ?_
      refine pw_iconst (x := 0) d_Md_make_32 (by decide) ?_
      refine pw_istore d_Md_make_33 (by decide) (pl' := [some (.ref 84), some (.int (nI i)), some (.int (nI j)), some (.int (nI k)), some (.int (zdm ml i j k 3)), some (.int ((-1))), some (.int (zdm ml i j k 3)), some (.int (0)), none]) rfl ?_
      have hV : ∀ c, c < 3 → zbd 21600 (zdm ml i j k c) ((fun c : Nat => if c = 0 then v0 else if c = 1 then v1 else if c = 2 then v2 else v3) c) := fun c hc => by
        have hcc : c = 0 ∨ c = 1 ∨ c = 2 := by omega
        rcases hcc with rfl | rfl | rfl
        · exact b0
        · exact b1
        · exact b2
      refine l_mk1 hm h85 h86 h90 hi hj hk (V := (fun c : Nat => if c = 0 then v0 else if c = 1 then v1 else if c = 2 then v2 else v3)) (v3 := v3) hV (fun h1 mk1 d z1 k94 k2 k3 k4 => ?_) 4 0 h mk _ (by decide) (by decide) zsm_rf h94 (fun e he => absurd he (Nat.not_lt_zero _)) (by rw [b3.1]; rfl) (zbd_wk (M := 1296) (by decide) (by rw [b3.1]; exact b3)) (fun q => absurd q (by decide))
      obtain ⟨U, hUe⟩ : ∃ U : Nat → Int, U = (fun c : Nat => (-1) * (fun c : Nat => if c = 0 then v0 else if c = 1 then v1 else if c = 2 then v2 else v3) c) := ⟨_, rfl⟩
      have hU0 : U 0 = (-1) * v0 := by rw [hUe]; rfl
      have hU1 : U 1 = (-1) * v1 := by rw [hUe]; rfl
      have hU2 : U 2 = (-1) * v2 := by rw [hUe]; rfl
      have hU3 : U 3 = (-1) * v3 := by rw [hUe]; rfl
      obtain ⟨g, hge⟩ : ∃ g : Int, g = ((g4 (U 0) (U 1) (U 2) (U 3) : Nat) : Int) := ⟨_, rfl⟩
      have hgn : zdn (fun c : Nat => if c = 0 then v0 else if c = 1 then v1 else if c = 2 then v2 else v3) v3 3 = g4 (U 0) (U 1) (U 2) (U 3) := by
        rw [hU0, hU1, hU2, hU3, g4_sg _ _ _ _ _ (by decide)]
        exact g4_as v0 v1 v2 v3
      have hdg : d.toInt = g := by rw [hge, ← hgn, ← k3]; omega
      have hu30 : 0 < U 3 := by rw [hU3]; omega
      have hg0 : 0 < g := by rw [hge]; exact Int.ofNat_lt.mpr (g4_pos hu30)
      have hd0 : ¬ d = 0 := fun e => absurd (e ▸ hdg) (fun e2 => by have : (0 : Int32).toInt = 0 := (by decide); omega)
      have hdv : ∀ c, c < 4 → g ∣ U c := fun c hc => by
        have hcc : c = 0 ∨ c = 1 ∨ c = 2 ∨ c = 3 := by omega
        rw [hge]
        rcases hcc with rfl | rfl | rfl | rfl
        · exact g4_d1 _ _ _ _
        · exact g4_d2 _ _ _ _
        · exact g4_d3 _ _ _ _
        · exact g4_d4 _ _ _ _
      have hu3 : 0 ≤ U 3 / g ∧ U 3 / g ≤ 1296 := ⟨Int.ediv_nonneg (by omega) (by omega), Int.le_trans (Int.ediv_le_self _ (by omega)) (by have := b3.2; omega)⟩
      have htu : zbd 1 ((-1) : Int32) ((-1)) := ⟨rfl, by decide, by decide⟩
      have hUc : ∀ c, c < 3 → (((-1) : Int32) * zdm ml i j k c).toInt = U c := fun c hc => by rw [(zbd_mul htu (hV c hc) (by decide)).1, hUe]
      have hU3c : (((-1) : Int32) * zdm ml i j k 3).toInt = U 3 := by rw [(zbd_mul htu b3 (by decide)).1, hU3]
      have hH : ∀ f, gh (iI (mA ml)) (iI (mB ml)) (iI (mC ml)) (iI (mD ml)) f v0 v1 v2 v3 = 0 → gh (iI (mA ml)) (iI (mB ml)) (iI (mC ml)) (iI (mD ml)) f (U 0) (U 1) (U 2) (U 3) = 0 := fun f hf => by rw [hU0, hU1, hU2, hU3]; exact g_scl hf
      have hgd : gd (iI (mA ml)) (iI (mB ml)) (iI (mC ml)) i j k ≠ 0 := by rw [← e3]; omega
      have hT := gT_iff (sx := (ms 0).toInt) (sy := (ms 1).toInt) (sz := (ms 2).toInt) hu30 hgd (hH i g1) (hH j g2) (hH k g3)
      rw [← hge] at hT
      refine pw_aload_n d_Md_make_77 rfl rfl ?_
      refine pw_get d_Md_make_78 fl_Md_38 (zsm_at z1 (by decide) hm) rfl ?_
      refine pw_iconst (x := 3) d_Md_make_81 (by decide) ?_
      refine pw_iload d_Md_make_82 rfl ?_
      refine pw_iload d_Md_make_84 rfl ?_
      refine pw_imul d_Md_make_86 ?_
      refine pw_iload d_Md_make_87 rfl ?_
      refine pw_idiv d_Md_make_89 hd0 ?_
      obtain ⟨h_61, eh_61⟩ : ∃ x_9, x_9 = List.set h1 (94) (.inl (0, 4, .inl (upd mk1 3 ((((-1) * zdm ml i j k 3) / d))))) := ⟨_, rfl⟩
      refine pw_iast rfl d_Md_make_90 k94 rfl rfl (by decide) (by decide) eh_61.symm ?_
      refine pw_iconst (x := 0) d_Md_make_91 (by decide) ?_
      refine pw_istore d_Md_make_92 (by decide) (pl' := [some (.ref 84), some (.int (nI i)), some (.int (nI j)), some (.int (nI k)), some (.int (zdm ml i j k 3)), some (.int ((-1))), some (.int (d)), some (.int (0)), none]) rfl ?_
      refine l_mk2 hm h85 h86 h90 (U := U) (g := g) hs hUc hdg hg0 hd0 hdv hu3 (fun h2 z2 k5 c hc hbx => ?_) (fun h2 mk2 z2 k5 k6 k7 => ?_) 4 0 _ _ (by decide) (by decide) (zsm_st z1 eh_61 (by decide)) (zg_eq eh_61 k94) (fun e9 he9 => absurd he9 (Nat.not_lt_zero _)) (fun e9 h1 h2 => by rw [pk_un (by omega)]; exact k2 e9 h2) (by rw [pk_us]; exact zdivx hU3c hdg hg0 (hdv 3 (by decide))) (fun e9 he9 => absurd he9 (Nat.not_lt_zero _))
      · obtain ⟨mk9, k5⟩ := k5
        refine ⟨rfl, pn, pt, mk9, zsm_at z2 (by decide) hm, zsm_at z2 (by decide) h90, k5, zsm_tr zsm_rf z2 (by decide), Or.inl ⟨rfl, rfl, fun a b c9 d9 hh => ?_⟩⟩
        obtain ⟨-, rfl, rfl, rfl, rfl⟩ := (hT a b c9 d9).mp hh
        obtain ⟨-, -, ⟨x1, x2, x3⟩, -⟩ := hh
        have hcc : c = 0 ∨ c = 1 ∨ c = 2 := by omega
        rcases hcc with rfl | rfl | rfl
        · exact hbx x1
        · exact hbx x2
        · exact hbx x3
      · have hTm : gT (iI (mA ml)) (iI (mB ml)) (iI (mC ml)) (iI (mD ml)) (ms 0).toInt (ms 1).toInt (ms 2).toInt i j k (mk2 0).toInt (mk2 1).toInt (mk2 2).toInt (mk2 3).toInt := by
          rw [k6 0 (by decide), k6 1 (by decide), k6 2 (by decide), k6 3 (by decide)]
          refine (hT _ _ _ _).mpr ⟨⟨?_, ?_, ?_⟩, rfl, rfl, rfl, rfl⟩
          · exact zbxx hg0 (hdv 0 (by decide)) (hdv 3 (by decide)) (k7 0 (by decide))
          · exact zbxx hg0 (hdv 1 (by decide)) (hdv 3 (by decide)) (k7 1 (by decide))
          · exact zbxx hg0 (hdv 2 (by decide)) (hdv 3 (by decide)) (k7 2 (by decide))
        have hTu : ∀ a b c d, gT (iI (mA ml)) (iI (mB ml)) (iI (mC ml)) (iI (mD ml)) (ms 0).toInt (ms 1).toInt (ms 2).toInt i j k a b c d → a = (mk2 0).toInt ∧ b = (mk2 1).toInt ∧ c = (mk2 2).toInt ∧ d = (mk2 3).toInt := fun a b c d hh => by
          rw [k6 0 (by decide), k6 1 (by decide), k6 2 (by decide), k6 3 (by decide)]
          exact ((hT a b c d).mp hh).2
        refine l_mk6 (zsm_at z2 (by decide) hm) (zsm_at z2 (by decide) h90) k5 hpn (fun a hap o1 o2 o3 => ?_) (fun a h3 hap o1 o2 o3 z3 o4 o5 => ?_)
        · exact ⟨rfl, pn, pt, mk2, zsm_at z2 (by decide) hm, zsm_at z2 (by decide) h90, k5, zsm_tr zsm_rf z2 (by decide), Or.inr ⟨mk2, hTm, hTu, a, hap, o1, o2, Or.inl ⟨rfl, rfl, o3⟩⟩⟩
        · exact ⟨rfl, pn + 1, _, mk2, o4, o5, zsm_at z3 (by decide) k5, zsm_tr (zsm_tr zsm_rf z2 (by decide)) z3 (by decide), Or.inr ⟨mk2, hTm, hTu, a, hap, o1, o2, Or.inr ⟨o3, rfl, rfl⟩⟩⟩
  · refine pw_return d_Md_make_15 rfl (by decide) (by decide) ?_
    refine ⟨rfl, pn, pt, mk, hm, h90, h94, zsm_rf, Or.inl ⟨rfl, rfl, fun a b c d hh => ?_⟩⟩
    have e9 : v3 = 0 := by rw [← b3.1, q_q]; rfl
    exact hh.2.2.2.1 (by rw [← e3]; exact e9)
