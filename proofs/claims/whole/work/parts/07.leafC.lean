/-- what findBlock gathers of the first i points: corners, left, once, twice, thrice -/
def zfb (kn f : Int32) (a b : Nat → Int32) : Nat → Int32 × Int32 × Int32 × Int32 × Int32
  | 0 => (0, 0, 0, 0, 0)
  | i + 1 => if a i &&& (f ^^^ -1) = 0 ∧ b i &&& f = 0 then ((zfb kn f a b i).1 + 1, (zfb kn f a b i).2.1 ||| (a i ||| b i), (zfb kn f a b i).2.2.1 ||| (kn &&& ((a i ||| b i) ^^^ -1)), (zfb kn f a b i).2.2.2.1 ||| ((zfb kn f a b i).2.2.1 &&& (kn &&& ((a i ||| b i) ^^^ -1))), (zfb kn f a b i).2.2.2.2 ||| ((zfb kn f a b i).2.2.2.1 &&& (kn &&& ((a i ||| b i) ^^^ -1)))) else zfb kn f a b i
set_option maxRecDepth 20000 in
set_option maxHeartbeats 2000000 in
theorem l_findBlock {G : zG} {h : zH} {c : Nat} {x y z q a b : Nat → Int32} (hp : zPt h c x y z q a b) (hc : c ≤ 220) {jc bc : Nat} {sx sy sz kn : Int32} {sd fc cc nu pb so : Nat → Int32} (hr : zRk h jc bc sx sy sz kn sd fc cc nu pb so) (hbc : bc < 64) {s : Nat} (hs : s < 64) : ∀ (n i : Nat) (cN l o t th : Int32) (o8 o9 : Option Value), c - i < n → i ≤ c → (zfb kn (nI s ||| 1344) a b i = (cN, l, o, t, th)) → PW G M_Rock_findBlock (zroom 1 0 0) false (fun r h' => r = .inl none ∧ ((zfb kn (nI s ||| 1344) a b c).2.1 = kn → zRk h' jc (bc + 1) sx sy sz kn (upd sd bc (nI s)) (upd fc bc (zfb kn (nI s ||| 1344) a b c).2.2.2.2) (upd cc bc (zfb kn (nI s ||| 1344) a b c).1) (upd nu s (nI bc)) pb so ∧ zsm [34, 43, 44, 45, 46] h h') ∧ (¬ (zfb kn (nI s ||| 1344) a b c).2.1 = kn → h' = h)) 16 [some (.ref 34), some (.int (nI s)), some (.int (cN)), some (.int (l)), some (.int (o)), some (.int (t)), some (.int (th)), some (.int (nI i)), o8, o9] [] h 0 0 := by
  intro n
  induction n with
  | zero => intro i cN l o t th o8 o9 hn; exact absurd hn (Nat.not_lt_zero _)
  | succ n ih =>
    intro i cN l o t th o8 o9 hn hi hv
    refine pw_iload d_Rock_findBlock_16 rfl ?_
    refine pw_aload_n d_Rock_findBlock_18 rfl rfl ?_
    refine pw_get d_Rock_findBlock_19 fl_Rock_20 hr.1 rfl ?_
    refine pw_get d_Rock_findBlock_22 fl_Rock_100 hp.1 rfl ?_
    refine pw_icmp_ge 120 d_Rock_findBlock_25 (by decide) (fun q_c => ?_) (fun q_c => ?_)
    · have hic : i = c := by have := (nI_leI (a := c) (b := i) (by omega) (by omega)).mp q_c; omega
      subst hic
      refine pw_iload_n d_Rock_findBlock_120 rfl rfl ?_
      refine pw_aload_n d_Rock_findBlock_121 rfl rfl ?_
      refine pw_get d_Rock_findBlock_122 fl_Rock_63 hr.1 rfl ?_
      refine pw_icmp_ne 136 d_Rock_findBlock_125 (by decide) (fun q_l => ?_) (fun q_l => ?_)
      · refine pw_return d_Rock_findBlock_136 rfl (by decide) (by decide) ?_
        exact ⟨rfl, fun hn => absurd (by rw [hv] at hn; exact hn) q_l, fun _ => rfl⟩
      · refine pw_aload_n d_Rock_findBlock_128 rfl rfl ?_
        refine pw_iload_n d_Rock_findBlock_129 rfl rfl ?_
        refine pw_iload d_Rock_findBlock_130 rfl ?_
        refine pw_iload_n d_Rock_findBlock_132 rfl rfl ?_
        refine pw_callVu (R' := (zroom 0 0 0)) [.int (nI s), .int (th), .int (cN)] (fun q => nomatch q) d_Rock_findBlock_133 lk_Rock_182 hr.1 rfl rfl rfl (c_addBlock hr hbc hs) (fun h1 hh => ?_)
        refine pw_return d_Rock_findBlock_136 rfl (by decide) (by decide) ?_
        refine ⟨rfl, fun _ => ?_, fun hn => absurd q_l (by rw [hv] at hn; exact hn)⟩
        rw [hv]
        exact hh
    · have hic : i < c := by have := mt (nI_leI (a := c) (b := i) (by omega) (by omega)).mpr q_c; omega
      refine pw_aload_n d_Rock_findBlock_28 rfl rfl ?_
      refine pw_get d_Rock_findBlock_29 fl_Rock_20 hr.1 rfl ?_
      refine pw_iload d_Rock_findBlock_32 rfl ?_
      refine pw_iload_n d_Rock_findBlock_34 rfl rfl ?_
      refine pw_sipush (x := 1344) d_Rock_findBlock_35 (by decide) ?_
      refine pw_ior d_Rock_findBlock_38 ?_
      refine pw_callV1 (R' := (zroom 0 0 0)) (h2 := h) [.int (nI i), .int ((nI s ||| 1344))] (fun q => nomatch q) d_Rock_findBlock_39 lk_Rock_111 hp.1 rfl rfl rfl (c_touches hp (show i < 220 by omega)) ?_
      refine pw_if_eq 114 d_Rock_findBlock_42 (by decide) (fun q_b => ?_) (fun q_b => ?_)
      · refine pw_iinc (y := nI (i + 1)) d_Rock_findBlock_114 rfl (nI_1 i) (by decide) (pl' := [some (.ref 34), some (.int (nI s)), some (.int (cN)), some (.int (l)), some (.int (o)), some (.int (t)), some (.int (th)), some (.int (nI (i + 1))), o8, o9]) rfl ?_
        refine pw_goto 16 d_Rock_findBlock_117 (by decide) ?_
        exact ih (i + 1) _ _ _ _ _ _ _ (by omega) (by omega) (by simp only [zfb]; rw [if_neg (z0 q_b), hv])
      · refine pw_aload_n d_Rock_findBlock_45 rfl rfl ?_
        refine pw_get d_Rock_findBlock_46 fl_Rock_20 hr.1 rfl ?_
        refine pw_get d_Rock_findBlock_49 fl_Rock_176 hp.1 rfl ?_
        refine pw_iload d_Rock_findBlock_52 rfl ?_
        refine pw_iald d_Rock_findBlock_54 hp.2.2.2.2.2.1 rfl rfl (show i < 220 by omega) (by decide) ?_
        refine pw_aload_n d_Rock_findBlock_55 rfl rfl ?_
        refine pw_get d_Rock_findBlock_56 fl_Rock_20 hr.1 rfl ?_
        refine pw_get d_Rock_findBlock_59 fl_Rock_179 hp.1 rfl ?_
        refine pw_iload d_Rock_findBlock_62 rfl ?_
        refine pw_iald d_Rock_findBlock_64 hp.2.2.2.2.2.2 rfl rfl (show i < 220 by omega) (by decide) ?_
        refine pw_ior d_Rock_findBlock_65 ?_
        refine pw_istore d_Rock_findBlock_66 (by decide) (pl' := [some (.ref 34), some (.int (nI s)), some (.int (cN)), some (.int (l)), some (.int (o)), some (.int (t)), some (.int (th)), some (.int (nI i)), some (.int ((a i ||| b i))), o9]) rfl ?_
        refine pw_aload_n d_Rock_findBlock_68 rfl rfl ?_
        refine pw_get d_Rock_findBlock_69 fl_Rock_63 hr.1 rfl ?_
        refine pw_iload d_Rock_findBlock_72 rfl ?_
        refine pw_iconst (x := (-1)) d_Rock_findBlock_74 (by decide) ?_
        refine pw_ixor d_Rock_findBlock_75 ?_
        refine pw_iand d_Rock_findBlock_76 ?_
        refine pw_istore d_Rock_findBlock_77 (by decide) (pl' := [some (.ref 34), some (.int (nI s)), some (.int (cN)), some (.int (l)), some (.int (o)), some (.int (t)), some (.int (th)), some (.int (nI i)), some (.int ((a i ||| b i))), some (.int ((kn &&& ((a i ||| b i) ^^^ (-1)))))]) rfl ?_
        refine pw_iinc (y := cN + 1) d_Rock_findBlock_79 rfl rfl (by decide) (pl' := [some (.ref 34), some (.int (nI s)), some (.int (cN + 1)), some (.int (l)), some (.int (o)), some (.int (t)), some (.int (th)), some (.int (nI i)), some (.int ((a i ||| b i))), some (.int ((kn &&& ((a i ||| b i) ^^^ (-1)))))]) rfl ?_
        refine pw_iload_n d_Rock_findBlock_82 rfl rfl ?_
        refine pw_iload d_Rock_findBlock_83 rfl ?_
        refine pw_ior d_Rock_findBlock_85 ?_
        refine pw_istore_n d_Rock_findBlock_86 rfl (by decide) (pl' := [some (.ref 34), some (.int (nI s)), some (.int (cN + 1)), some (.int ((l ||| (a i ||| b i)))), some (.int (o)), some (.int (t)), some (.int (th)), some (.int (nI i)), some (.int ((a i ||| b i))), some (.int ((kn &&& ((a i ||| b i) ^^^ (-1)))))]) rfl ?_
        refine pw_iload d_Rock_findBlock_87 rfl ?_
        refine pw_iload d_Rock_findBlock_89 rfl ?_
        refine pw_iload d_Rock_findBlock_91 rfl ?_
        refine pw_iand d_Rock_findBlock_93 ?_
        refine pw_ior d_Rock_findBlock_94 ?_
        refine pw_istore d_Rock_findBlock_95 (by decide) (pl' := [some (.ref 34), some (.int (nI s)), some (.int (cN + 1)), some (.int ((l ||| (a i ||| b i)))), some (.int (o)), some (.int (t)), some (.int ((th ||| (t &&& (kn &&& ((a i ||| b i) ^^^ (-1))))))), some (.int (nI i)), some (.int ((a i ||| b i))), some (.int ((kn &&& ((a i ||| b i) ^^^ (-1)))))]) rfl ?_
        refine pw_iload d_Rock_findBlock_97 rfl ?_
        refine pw_iload d_Rock_findBlock_99 rfl ?_
        refine pw_iload d_Rock_findBlock_101 rfl ?_
        refine pw_iand d_Rock_findBlock_103 ?_
        refine pw_ior d_Rock_findBlock_104 ?_
        refine pw_istore d_Rock_findBlock_105 (by decide) (pl' := [some (.ref 34), some (.int (nI s)), some (.int (cN + 1)), some (.int ((l ||| (a i ||| b i)))), some (.int (o)), some (.int ((t ||| (o &&& (kn &&& ((a i ||| b i) ^^^ (-1))))))), some (.int ((th ||| (t &&& (kn &&& ((a i ||| b i) ^^^ (-1))))))), some (.int (nI i)), some (.int ((a i ||| b i))), some (.int ((kn &&& ((a i ||| b i) ^^^ (-1)))))]) rfl ?_
        refine pw_iload d_Rock_findBlock_107 rfl ?_
        refine pw_iload d_Rock_findBlock_109 rfl ?_
        refine pw_ior d_Rock_findBlock_111 ?_
        refine pw_istore d_Rock_findBlock_112 (by decide) (pl' := [some (.ref 34), some (.int (nI s)), some (.int (cN + 1)), some (.int ((l ||| (a i ||| b i)))), some (.int ((o ||| (kn &&& ((a i ||| b i) ^^^ (-1)))))), some (.int ((t ||| (o &&& (kn &&& ((a i ||| b i) ^^^ (-1))))))), some (.int ((th ||| (t &&& (kn &&& ((a i ||| b i) ^^^ (-1))))))), some (.int (nI i)), some (.int ((a i ||| b i))), some (.int ((kn &&& ((a i ||| b i) ^^^ (-1)))))]) rfl ?_
        refine pw_iinc (y := nI (i + 1)) d_Rock_findBlock_114 rfl (nI_1 i) (by decide) (pl' := [some (.ref 34), some (.int (nI s)), some (.int (cN + 1)), some (.int ((l ||| (a i ||| b i)))), some (.int ((o ||| (kn &&& ((a i ||| b i) ^^^ (-1)))))), some (.int ((t ||| (o &&& (kn &&& ((a i ||| b i) ^^^ (-1))))))), some (.int ((th ||| (t &&& (kn &&& ((a i ||| b i) ^^^ (-1))))))), some (.int (nI (i + 1))), some (.int ((a i ||| b i))), some (.int ((kn &&& ((a i ||| b i) ^^^ (-1)))))]) rfl ?_
        refine pw_goto 16 d_Rock_findBlock_117 (by decide) ?_
        exact ih (i + 1) _ _ _ _ _ _ _ (by omega) (by omega) (by simp only [zfb]; rw [if_pos (z1 q_b), hv])
set_option maxRecDepth 20000 in
set_option maxHeartbeats 2000000 in
theorem c_findBlock {G : zG} {h : zH} {c : Nat} {x y z q a b : Nat → Int32} (hp : zPt h c x y z q a b) (hc : c ≤ 220) {jc bc : Nat} {sx sy sz kn : Int32} {sd fc cc nu pb so : Nat → Int32} (hr : zRk h jc bc sx sy sz kn sd fc cc nu pb so) (hbc : bc < 64) {s : Nat} (hs : s < 64) : PW G M_Rock_findBlock (zroom 1 0 0) false (fun r h' => r = .inl none ∧ ((zfb kn (nI s ||| 1344) a b c).2.1 = kn → zRk h' jc (bc + 1) sx sy sz kn (upd sd bc (nI s)) (upd fc bc (zfb kn (nI s ||| 1344) a b c).2.2.2.2) (upd cc bc (zfb kn (nI s ||| 1344) a b c).1) (upd nu s (nI bc)) pb so ∧ zsm [34, 43, 44, 45, 46] h h') ∧ (¬ (zfb kn (nI s ||| 1344) a b c).2.1 = kn → h' = h)) 0 (zentry 10 [.ref 34, .int (nI s)]) [] h 0 0 := by
  show PW G M_Rock_findBlock (zroom 1 0 0) false _ 0 [some (.ref 34), some (.int (nI s)), none, none, none, none, none, none, none, none] [] h 0 0
  refine pw_iconst (x := 0) d_Rock_findBlock_0 (by decide) ?_
  refine pw_istore_n d_Rock_findBlock_1 rfl (by decide) (pl' := [some (.ref 34), some (.int (nI s)), some (.int (0)), none, none, none, none, none, none, none]) rfl ?_
  refine pw_iconst (x := 0) d_Rock_findBlock_2 (by decide) ?_
  refine pw_istore_n d_Rock_findBlock_3 rfl (by decide) (pl' := [some (.ref 34), some (.int (nI s)), some (.int (0)), some (.int (0)), none, none, none, none, none, none]) rfl ?_
  refine pw_iconst (x := 0) d_Rock_findBlock_4 (by decide) ?_
  refine pw_istore d_Rock_findBlock_5 (by decide) (pl' := [some (.ref 34), some (.int (nI s)), some (.int (0)), some (.int (0)), some (.int (0)), none, none, none, none, none]) rfl ?_
  refine pw_iconst (x := 0) d_Rock_findBlock_7 (by decide) ?_
  refine pw_istore d_Rock_findBlock_8 (by decide) (pl' := [some (.ref 34), some (.int (nI s)), some (.int (0)), some (.int (0)), some (.int (0)), some (.int (0)), none, none, none, none]) rfl ?_
  refine pw_iconst (x := 0) d_Rock_findBlock_10 (by decide) ?_
  refine pw_istore d_Rock_findBlock_11 (by decide) (pl' := [some (.ref 34), some (.int (nI s)), some (.int (0)), some (.int (0)), some (.int (0)), some (.int (0)), some (.int (0)), none, none, none]) rfl ?_
  refine pw_iconst (x := 0) d_Rock_findBlock_13 (by decide) ?_
  refine pw_istore d_Rock_findBlock_14 (by decide) (pl' := [some (.ref 34), some (.int (nI s)), some (.int (0)), some (.int (0)), some (.int (0)), some (.int (0)), some (.int (0)), some (.int (0)), none, none]) rfl ?_
  exact l_findBlock hp hc hr hbc hs (c + 1) 0 _ _ _ _ _ _ _ (by omega) (by omega) rfl
