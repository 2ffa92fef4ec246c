set_option maxRecDepth 20000 in
set_option maxHeartbeats 2000000 in
theorem c_misSame {G : zG} {h : zH} {th : Int32} {jn dr pn bl tn : Nat} (hm : zMo h th jn dr pn bl tn) {ml : Nat → Int32} (h86 : h[86]? = some (.inl (0, 48, .inl ml))) {a b c d : Int32} {j : Nat} (hj : j < 12) : PW G M_Md_isSame (zroom 0 0 0) true (zr (some (.int (if (a * ml (4 * j + 1) = b * ml (4 * j) ∧ a * ml (4 * j + 2) = c * ml (4 * j) ∧ b * ml (4 * j + 2) = c * ml (4 * j + 1) ∧ a * ml (4 * j + 3) = d * ml (4 * j) ∧ b * ml (4 * j + 3) = d * ml (4 * j + 1) ∧ c * ml (4 * j + 3) = d * ml (4 * j + 2)) then 1 else 0))) h) 0 (zentry 10 [.ref 84, .int (a), .int (b), .int (c), .int (d), .int (nI j)]) [] h 0 0 := by
  show PW G M_Md_isSame (zroom 0 0 0) true _ 0 [some (.ref 84), some (.int (a)), some (.int (b)), some (.int (c)), some (.int (d)), some (.int (nI j)), none, none, none, none] [] h 0 0
  refine pw_aload_n d_Md_isSame_0 rfl rfl ?_
  refine pw_get d_Md_isSame_1 fl_Md_13 hm rfl ?_
  refine pw_iconst (x := 4) d_Md_isSame_4 (by decide) ?_
  refine pw_iload d_Md_isSame_5 rfl ?_
  refine pw_imul d_Md_isSame_7 ?_
  refine pw_iald d_Md_isSame_8 h86 rfl (n40 j) (by omega) (by decide) ?_
  refine pw_istore d_Md_isSame_9 (by decide) (pl' := [some (.ref 84), some (.int (a)), some (.int (b)), some (.int (c)), some (.int (d)), some (.int (nI j)), some (.int (ml (4 * j))), none, none, none]) rfl ?_
  refine pw_aload_n d_Md_isSame_11 rfl rfl ?_
  refine pw_get d_Md_isSame_12 fl_Md_13 hm rfl ?_
  refine pw_iconst (x := 4) d_Md_isSame_15 (by decide) ?_
  refine pw_iload d_Md_isSame_16 rfl ?_
  refine pw_imul d_Md_isSame_18 ?_
  refine pw_iconst (x := 1) d_Md_isSame_19 (by decide) ?_
  refine pw_iadd d_Md_isSame_20 ?_
  refine pw_iald d_Md_isSame_21 h86 rfl (n4 j 1) (by omega) (by decide) ?_
  refine pw_istore d_Md_isSame_22 (by decide) (pl' := [some (.ref 84), some (.int (a)), some (.int (b)), some (.int (c)), some (.int (d)), some (.int (nI j)), some (.int (ml (4 * j))), some (.int (ml (4 * j + 1))), none, none]) rfl ?_
  refine pw_aload_n d_Md_isSame_24 rfl rfl ?_
  refine pw_get d_Md_isSame_25 fl_Md_13 hm rfl ?_
  refine pw_iconst (x := 4) d_Md_isSame_28 (by decide) ?_
  refine pw_iload d_Md_isSame_29 rfl ?_
  refine pw_imul d_Md_isSame_31 ?_
  refine pw_iconst (x := 2) d_Md_isSame_32 (by decide) ?_
  refine pw_iadd d_Md_isSame_33 ?_
  refine pw_iald d_Md_isSame_34 h86 rfl (n4 j 2) (by omega) (by decide) ?_
  refine pw_istore d_Md_isSame_35 (by decide) (pl' := [some (.ref 84), some (.int (a)), some (.int (b)), some (.int (c)), some (.int (d)), some (.int (nI j)), some (.int (ml (4 * j))), some (.int (ml (4 * j + 1))), some (.int (ml (4 * j + 2))), none]) rfl ?_
  refine pw_aload_n d_Md_isSame_37 rfl rfl ?_
  refine pw_get d_Md_isSame_38 fl_Md_13 hm rfl ?_
  refine pw_iconst (x := 4) d_Md_isSame_41 (by decide) ?_
  refine pw_iload d_Md_isSame_42 rfl ?_
  refine pw_imul d_Md_isSame_44 ?_
  refine pw_iconst (x := 3) d_Md_isSame_45 (by decide) ?_
  refine pw_iadd d_Md_isSame_46 ?_
  refine pw_iald d_Md_isSame_47 h86 rfl (n4 j 3) (by omega) (by decide) ?_
  refine pw_istore d_Md_isSame_48 (by decide) (pl' := [some (.ref 84), some (.int (a)), some (.int (b)), some (.int (c)), some (.int (d)), some (.int (nI j)), some (.int (ml (4 * j))), some (.int (ml (4 * j + 1))), some (.int (ml (4 * j + 2))), some (.int (ml (4 * j + 3)))]) rfl ?_
  refine pw_iload_n d_Md_isSame_50 rfl rfl ?_
  refine pw_iload d_Md_isSame_51 rfl ?_
  refine pw_imul d_Md_isSame_53 ?_
  refine pw_iload_n d_Md_isSame_54 rfl rfl ?_
  refine pw_iload d_Md_isSame_55 rfl ?_
  refine pw_imul d_Md_isSame_57 ?_
  refine pw_icmp_ne 123 d_Md_isSame_58 (by decide) (fun q_1 => ?_) (fun q_1 => ?_)
  · refine pw_iconst (x := 0) d_Md_isSame_123 (by decide) ?_
    refine pw_zreturn d_Md_isSame_124 rfl (by decide) (by decide) (by decide) ?_
    exact ⟨by rw [if_neg (fun h => q_1 h.1)], rfl⟩
  · refine pw_iload_n d_Md_isSame_61 rfl rfl ?_
    refine pw_iload d_Md_isSame_62 rfl ?_
    refine pw_imul d_Md_isSame_64 ?_
    refine pw_iload_n d_Md_isSame_65 rfl rfl ?_
    refine pw_iload d_Md_isSame_66 rfl ?_
    refine pw_imul d_Md_isSame_68 ?_
    refine pw_icmp_ne 123 d_Md_isSame_69 (by decide) (fun q_2 => ?_) (fun q_2 => ?_)
    · refine pw_iconst (x := 0) d_Md_isSame_123 (by decide) ?_
      refine pw_zreturn d_Md_isSame_124 rfl (by decide) (by decide) (by decide) ?_
      exact ⟨by rw [if_neg (fun h => q_2 h.2.1)], rfl⟩
    · refine pw_iload_n d_Md_isSame_72 rfl rfl ?_
      refine pw_iload d_Md_isSame_73 rfl ?_
      refine pw_imul d_Md_isSame_75 ?_
      refine pw_iload_n d_Md_isSame_76 rfl rfl ?_
      refine pw_iload d_Md_isSame_77 rfl ?_
      refine pw_imul d_Md_isSame_79 ?_
      refine pw_icmp_ne 123 d_Md_isSame_80 (by decide) (fun q_3 => ?_) (fun q_3 => ?_)
      · refine pw_iconst (x := 0) d_Md_isSame_123 (by decide) ?_
        refine pw_zreturn d_Md_isSame_124 rfl (by decide) (by decide) (by decide) ?_
        exact ⟨by rw [if_neg (fun h => q_3 h.2.2.1)], rfl⟩
      · refine pw_iload_n d_Md_isSame_83 rfl rfl ?_
        refine pw_iload d_Md_isSame_84 rfl ?_
        refine pw_imul d_Md_isSame_86 ?_
        refine pw_iload d_Md_isSame_87 rfl ?_
        refine pw_iload d_Md_isSame_89 rfl ?_
        refine pw_imul d_Md_isSame_91 ?_
        refine pw_icmp_ne 123 d_Md_isSame_92 (by decide) (fun q_4 => ?_) (fun q_4 => ?_)
        · refine pw_iconst (x := 0) d_Md_isSame_123 (by decide) ?_
          refine pw_zreturn d_Md_isSame_124 rfl (by decide) (by decide) (by decide) ?_
          exact ⟨by rw [if_neg (fun h => q_4 h.2.2.2.1)], rfl⟩
        · refine pw_iload_n d_Md_isSame_95 rfl rfl ?_
          refine pw_iload d_Md_isSame_96 rfl ?_
          refine pw_imul d_Md_isSame_98 ?_
          refine pw_iload d_Md_isSame_99 rfl ?_
          refine pw_iload d_Md_isSame_101 rfl ?_
          refine pw_imul d_Md_isSame_103 ?_
          refine pw_icmp_ne 123 d_Md_isSame_104 (by decide) (fun q_5 => ?_) (fun q_5 => ?_)
          · refine pw_iconst (x := 0) d_Md_isSame_123 (by decide) ?_
            refine pw_zreturn d_Md_isSame_124 rfl (by decide) (by decide) (by decide) ?_
            exact ⟨by rw [if_neg (fun h => q_5 h.2.2.2.2.1)], rfl⟩
          · refine pw_iload_n d_Md_isSame_107 rfl rfl ?_
            refine pw_iload d_Md_isSame_108 rfl ?_
            refine pw_imul d_Md_isSame_110 ?_
            refine pw_iload d_Md_isSame_111 rfl ?_
            refine pw_iload d_Md_isSame_113 rfl ?_
            refine pw_imul d_Md_isSame_115 ?_
            refine pw_icmp_ne 123 d_Md_isSame_116 (by decide) (fun q_6 => ?_) (fun q_6 => ?_)
            · refine pw_iconst (x := 0) d_Md_isSame_123 (by decide) ?_
              refine pw_zreturn d_Md_isSame_124 rfl (by decide) (by decide) (by decide) ?_
              exact ⟨by rw [if_neg (fun h => q_6 h.2.2.2.2.2)], rfl⟩
            · refine pw_iconst (x := 1) d_Md_isSame_119 (by decide) ?_
              refine pw_goto 124 d_Md_isSame_120 (by decide) ?_
              refine pw_zreturn d_Md_isSame_124 rfl (by decide) (by decide) (by decide) ?_
              exact ⟨by rw [if_pos ⟨q_1, q_2, q_3, q_4, q_5, q_6⟩], rfl⟩
set_option maxRecDepth 20000 in
set_option maxHeartbeats 2000000 in
theorem c_isVector {G : zG} {h : zH} {u v w : Int32} : PW G M_Md_isVector (zroom 1 0 0) true (zr (some (.int (if (-9 ≤ u ∧ u ≤ 9) ∧ (-9 ≤ v ∧ v ≤ 9) ∧ (-9 ≤ w ∧ w ≤ 9) then 1 else 0))) h) 0 (zentry 3 [.int (u), .int (v), .int (w)]) [] h 0 0 := by
  show PW G M_Md_isVector (zroom 1 0 0) true _ 0 [some (.int (u)), some (.int (v)), some (.int (w))] [] h 0 0
  refine pw_iload_n d_Md_isVector_0 rfl rfl ?_
  refine pw_bipush (x := (-9)) d_Md_isVector_1 (by decide) ?_
  refine pw_bipush (x := 9) d_Md_isVector_3 (by decide) ?_
  refine pw_callS1 (R' := (zroom 0 0 0)) (h2 := h) [.int (u), .int ((-9)), .int (9)] (fun _ => rfl) d_Md_isVector_5 lk_Md_131 rfl rfl c_in ?_
  refine pw_if_eq 37 d_Md_isVector_8 (by decide) (fun q_1 => ?_) (fun q_1 => ?_)
  · refine pw_iconst (x := 0) d_Md_isVector_37 (by decide) ?_
    refine pw_zreturn d_Md_isVector_38 rfl (by decide) (by decide) (by decide) ?_
    exact ⟨by rw [if_neg (fun h => z0 q_1 h.1)], rfl⟩
  · refine pw_iload_n d_Md_isVector_11 rfl rfl ?_
    refine pw_bipush (x := (-9)) d_Md_isVector_12 (by decide) ?_
    refine pw_bipush (x := 9) d_Md_isVector_14 (by decide) ?_
    refine pw_callS1 (R' := (zroom 0 0 0)) (h2 := h) [.int (v), .int ((-9)), .int (9)] (fun _ => rfl) d_Md_isVector_16 lk_Md_131 rfl rfl c_in ?_
    refine pw_if_eq 37 d_Md_isVector_19 (by decide) (fun q_2 => ?_) (fun q_2 => ?_)
    · refine pw_iconst (x := 0) d_Md_isVector_37 (by decide) ?_
      refine pw_zreturn d_Md_isVector_38 rfl (by decide) (by decide) (by decide) ?_
      exact ⟨by rw [if_neg (fun h => z0 q_2 h.2.1)], rfl⟩
    · refine pw_iload_n d_Md_isVector_22 rfl rfl ?_
      refine pw_bipush (x := (-9)) d_Md_isVector_23 (by decide) ?_
      refine pw_bipush (x := 9) d_Md_isVector_25 (by decide) ?_
      refine pw_callS1 (R' := (zroom 0 0 0)) (h2 := h) [.int (w), .int ((-9)), .int (9)] (fun _ => rfl) d_Md_isVector_27 lk_Md_131 rfl rfl c_in ?_
      refine pw_if_eq 37 d_Md_isVector_30 (by decide) (fun q_3 => ?_) (fun q_3 => ?_)
      · refine pw_iconst (x := 0) d_Md_isVector_37 (by decide) ?_
        refine pw_zreturn d_Md_isVector_38 rfl (by decide) (by decide) (by decide) ?_
        exact ⟨by rw [if_neg (fun h => z0 q_3 h.2.2)], rfl⟩
      · refine pw_iconst (x := 1) d_Md_isVector_33 (by decide) ?_
        refine pw_goto 38 d_Md_isVector_34 (by decide) ?_
        refine pw_zreturn d_Md_isVector_38 rfl (by decide) (by decide) (by decide) ?_
        exact ⟨by rw [if_pos ⟨z1 q_1, z1 q_2, z1 q_3⟩], rfl⟩
/-- what a plane reaches in the box, below and above -/
def zlo (w : Nat → Int32) : Nat → Int32
  | 0 => 0
  | k + 1 => if w k < 0 then zlo w k + w k else zlo w k
def zhi (w : Nat → Int32) : Nat → Int32
  | 0 => 0
  | k + 1 => if 0 < w k then zhi w k + w k else zhi w k
theorem zlo_n {w : Nat → Int32} {k : Nat} (h : ¬ w k < 0) : zlo w (k + 1) = zlo w k := if_neg h
theorem zlo_p {w : Nat → Int32} {k : Nat} (h : w k < 0) : zlo w (k + 1) = zlo w k + w k := if_pos h
theorem zhi_n {w : Nat → Int32} {k : Nat} (h : ¬ 0 < w k) : zhi w (k + 1) = zhi w k := if_neg h
theorem zhi_p {w : Nat → Int32} {k : Nat} (h : 0 < w k) : zhi w (k + 1) = zhi w k + w k := if_pos h
def z3 (a b c : Int32) (k : Nat) : Int32 := if k = 0 then a else if k = 1 then b else c
def zwk (a b c : Int32) (ms : Nat → Int32) : Nat → Int32 := fun k => z3 a b c k * ms k
set_option maxRecDepth 20000 in
set_option maxHeartbeats 2000000 in
theorem l_rt3 {G : zG} {h : zH} {th : Int32} {jn dr pn bl tn : Nat} (hm : zMo h th jn dr pn bl tn) {ms ml : Nat → Int32} (h85 : h[85]? = some (.inl (0, 3, .inl ms))) (h86 : h[86]? = some (.inl (0, 48, .inl ml))) (hjn : jn ≤ 6) {a b c d : Int32} (hrg : ((-6 ≤ a ∧ a ≤ 6) ∧ (-6 ≤ b ∧ b ≤ 6) ∧ (-6 ≤ c ∧ c ≤ 6) ∧ (-100 ≤ d ∧ d ≤ 100) ∧ ¬ (a = 0 ∧ b = 0 ∧ c = 0))) {o6 o7 o9 : Option Value} : ∀ (n i : Nat) (r9 : Int32), jn - i < n → i ≤ jn → ((r9 = 1 ∧ (zlo (zwk a b c ms) 3 < d ∧ d < zhi (zwk a b c ms) 3) ∧ ∀ j, j < i → ¬ (a * ml (4 * j + 1) = b * ml (4 * j) ∧ a * ml (4 * j + 2) = c * ml (4 * j) ∧ b * ml (4 * j + 2) = c * ml (4 * j + 1) ∧ a * ml (4 * j + 3) = d * ml (4 * j) ∧ b * ml (4 * j + 3) = d * ml (4 * j + 1) ∧ c * ml (4 * j + 3) = d * ml (4 * j + 2))) ∨ (r9 = 0 ∧ ¬ ((zlo (zwk a b c ms) 3 < d ∧ d < zhi (zwk a b c ms) 3) ∧ ∀ j, j < jn → ¬ (a * ml (4 * j + 1) = b * ml (4 * j) ∧ a * ml (4 * j + 2) = c * ml (4 * j) ∧ b * ml (4 * j + 2) = c * ml (4 * j + 1) ∧ a * ml (4 * j + 3) = d * ml (4 * j) ∧ b * ml (4 * j + 3) = d * ml (4 * j + 1) ∧ c * ml (4 * j + 3) = d * ml (4 * j + 2))))) → PW G M_Md_isRight (zroom 1 0 0) true (fun r h' => ∃ t : Int32, r = .inl (some (.int t)) ∧ h' = h ∧ ((t = 1 ∧ (((-6 ≤ a ∧ a ≤ 6) ∧ (-6 ≤ b ∧ b ≤ 6) ∧ (-6 ≤ c ∧ c ≤ 6) ∧ (-100 ≤ d ∧ d ≤ 100) ∧ ¬ (a = 0 ∧ b = 0 ∧ c = 0)) ∧ (zlo (zwk a b c ms) 3 < d ∧ d < zhi (zwk a b c ms) 3) ∧ ∀ j, j < jn → ¬ (a * ml (4 * j + 1) = b * ml (4 * j) ∧ a * ml (4 * j + 2) = c * ml (4 * j) ∧ b * ml (4 * j + 2) = c * ml (4 * j + 1) ∧ a * ml (4 * j + 3) = d * ml (4 * j) ∧ b * ml (4 * j + 3) = d * ml (4 * j + 1) ∧ c * ml (4 * j + 3) = d * ml (4 * j + 2)))) ∨ (t = 0 ∧ ¬ (((-6 ≤ a ∧ a ≤ 6) ∧ (-6 ≤ b ∧ b ≤ 6) ∧ (-6 ≤ c ∧ c ≤ 6) ∧ (-100 ≤ d ∧ d ≤ 100) ∧ ¬ (a = 0 ∧ b = 0 ∧ c = 0)) ∧ (zlo (zwk a b c ms) 3 < d ∧ d < zhi (zwk a b c ms) 3) ∧ ∀ j, j < jn → ¬ (a * ml (4 * j + 1) = b * ml (4 * j) ∧ a * ml (4 * j + 2) = c * ml (4 * j) ∧ b * ml (4 * j + 2) = c * ml (4 * j + 1) ∧ a * ml (4 * j + 3) = d * ml (4 * j) ∧ b * ml (4 * j + 3) = d * ml (4 * j + 1) ∧ c * ml (4 * j + 3) = d * ml (4 * j + 2)))))) 180 [some (.ref 84), some (.int a), some (.int b), some (.int c), some (.int d), some (.int r9), o6, o7, some (.int (nI i)), o9] [] h 0 0 := by
  intro n
  induction n with
  | zero => intro i r9 hn; exact absurd hn (Nat.not_lt_zero _)
  | succ n ih =>
    intro i r9 hn hi hI
    refine pw_iload d_Md_isRight_180 rfl ?_
    refine pw_aload_n d_Md_isRight_182 rfl rfl ?_
    refine pw_get d_Md_isRight_183 fl_Md_83 hm rfl ?_
    refine pw_icmp_ge 221 d_Md_isRight_186 (by decide) (fun q_c => ?_) (fun q_c => ?_)
    · refine pw_iload d_Md_isRight_221 rfl ?_
      refine pw_zreturn d_Md_isRight_223 rfl (by rcases hI with ⟨e, -⟩ | ⟨e, -⟩; exact Or.inr e; exact Or.inl e) (by decide) (by decide) ?_
      have hic : i = jn := by have := (nI_leI (a := jn) (b := i) (by omega) (by omega)).mp q_c; omega
      subst hic
      rcases hI with ⟨e, e1, e2⟩ | ⟨e, e1⟩
      · exact ⟨r9, rfl, rfl, Or.inl ⟨e, hrg, e1, e2⟩⟩
      · exact ⟨r9, rfl, rfl, Or.inr ⟨e, fun z => e1 z.2⟩⟩
    · have hic : i < jn := by have := mt (nI_leI (a := jn) (b := i) (by omega) (by omega)).mpr q_c; omega
      refine pw_iload d_Md_isRight_189 rfl ?_
      refine pw_if_eq 212 d_Md_isRight_191 (by decide) (fun q_r => ?_) (fun q_r => ?_)
      · refine pw_iconst (x := 0) d_Md_isRight_212 (by decide) ?_
        refine pw_istore d_Md_isRight_213 (by decide) (pl' := [some (.ref 84), some (.int (a)), some (.int (b)), some (.int (c)), some (.int (d)), some (.int (0)), o6, o7, some (.int (nI i)), o9]) rfl ?_
        refine pw_iinc (y := nI (i + 1)) d_Md_isRight_215 rfl (nI_1 i) (by decide) (pl' := [some (.ref 84), some (.int (a)), some (.int (b)), some (.int (c)), some (.int (d)), some (.int (0)), o6, o7, some (.int (nI (i + 1))), o9]) rfl ?_
        refine pw_goto 180 d_Md_isRight_218 (by decide) ?_
        exact ih (i + 1) 0 (by omega) (by omega) (Or.inr ⟨rfl, (hI.resolve_left (fun z => absurd (z.1.symm.trans q_r) (by decide))).2⟩)
      · refine pw_aload_n d_Md_isRight_194 rfl rfl ?_
        refine pw_iload_n d_Md_isRight_195 rfl rfl ?_
        refine pw_iload_n d_Md_isRight_196 rfl rfl ?_
        refine pw_iload_n d_Md_isRight_197 rfl rfl ?_
        refine pw_iload d_Md_isRight_198 rfl ?_
        refine pw_iload d_Md_isRight_200 rfl ?_
        refine pw_callV1 (R' := (zroom 0 0 0)) (h2 := h) [.int (a), .int (b), .int (c), .int (d), .int (nI i)] (fun _ => rfl) d_Md_isRight_202 lk_Md_135 hm rfl rfl rfl (c_misSame hm h86 (show i < 12 by omega)) ?_
        refine pw_if_ne 212 d_Md_isRight_205 (by decide) (fun q_s => ?_) (fun q_s => ?_)
        · refine pw_iconst (x := 0) d_Md_isRight_212 (by decide) ?_
          refine pw_istore d_Md_isRight_213 (by decide) (pl' := [some (.ref 84), some (.int (a)), some (.int (b)), some (.int (c)), some (.int (d)), some (.int (0)), o6, o7, some (.int (nI i)), o9]) rfl ?_
          refine pw_iinc (y := nI (i + 1)) d_Md_isRight_215 rfl (nI_1 i) (by decide) (pl' := [some (.ref 84), some (.int (a)), some (.int (b)), some (.int (c)), some (.int (d)), some (.int (0)), o6, o7, some (.int (nI (i + 1))), o9]) rfl ?_
          refine pw_goto 180 d_Md_isRight_218 (by decide) ?_
          exact ih (i + 1) 0 (by omega) (by omega) (Or.inr ⟨rfl, fun z => z.2 i hic (z1 q_s)⟩)
        · refine pw_iconst (x := 1) d_Md_isRight_208 (by decide) ?_
          refine pw_goto 213 d_Md_isRight_209 (by decide) ?_
          refine pw_istore d_Md_isRight_213 (by decide) (pl' := [some (.ref 84), some (.int (a)), some (.int (b)), some (.int (c)), some (.int (d)), some (.int (1)), o6, o7, some (.int (nI i)), o9]) rfl ?_
          refine pw_iinc (y := nI (i + 1)) d_Md_isRight_215 rfl (nI_1 i) (by decide) (pl' := [some (.ref 84), some (.int (a)), some (.int (b)), some (.int (c)), some (.int (d)), some (.int (1)), o6, o7, some (.int (nI (i + 1))), o9]) rfl ?_
          refine pw_goto 180 d_Md_isRight_218 (by decide) ?_
          exact ih (i + 1) 1 (by omega) (by omega) (Or.inl ⟨rfl, (hI.resolve_right (fun z => q_r z.1)).2.1, fun j hj => by rcases Nat.lt_succ_iff_lt_or_eq.mp hj with h1 | rfl; exact (hI.resolve_right (fun z => q_r z.1)).2.2 j h1; exact z0 q_s⟩)
set_option maxRecDepth 20000 in
set_option maxHeartbeats 2000000 in
theorem l_rt2 {G : zG} {h : zH} {th : Int32} {jn dr pn bl tn : Nat} (hm : zMo h th jn dr pn bl tn) {ms ml : Nat → Int32} (h85 : h[85]? = some (.inl (0, 3, .inl ms))) (h86 : h[86]? = some (.inl (0, 48, .inl ml))) (hjn : jn ≤ 6) {a b c d : Int32} (hrg : ((-6 ≤ a ∧ a ≤ 6) ∧ (-6 ≤ b ∧ b ≤ 6) ∧ (-6 ≤ c ∧ c ≤ 6) ∧ (-100 ≤ d ∧ d ≤ 100) ∧ ¬ (a = 0 ∧ b = 0 ∧ c = 0))) {o5 : Option Value} : ∀ (n i : Nat) (lo hi_ : Int32) (o9 : Option Value), 3 - i < n → i ≤ 3 → lo = zlo (zwk a b c ms) i → hi_ = zhi (zwk a b c ms) i → PW G M_Md_isRight (zroom 1 0 0) true (fun r h' => ∃ t : Int32, r = .inl (some (.int t)) ∧ h' = h ∧ ((t = 1 ∧ (((-6 ≤ a ∧ a ≤ 6) ∧ (-6 ≤ b ∧ b ≤ 6) ∧ (-6 ≤ c ∧ c ≤ 6) ∧ (-100 ≤ d ∧ d ≤ 100) ∧ ¬ (a = 0 ∧ b = 0 ∧ c = 0)) ∧ (zlo (zwk a b c ms) 3 < d ∧ d < zhi (zwk a b c ms) 3) ∧ ∀ j, j < jn → ¬ (a * ml (4 * j + 1) = b * ml (4 * j) ∧ a * ml (4 * j + 2) = c * ml (4 * j) ∧ b * ml (4 * j + 2) = c * ml (4 * j + 1) ∧ a * ml (4 * j + 3) = d * ml (4 * j) ∧ b * ml (4 * j + 3) = d * ml (4 * j + 1) ∧ c * ml (4 * j + 3) = d * ml (4 * j + 2)))) ∨ (t = 0 ∧ ¬ (((-6 ≤ a ∧ a ≤ 6) ∧ (-6 ≤ b ∧ b ≤ 6) ∧ (-6 ≤ c ∧ c ≤ 6) ∧ (-100 ≤ d ∧ d ≤ 100) ∧ ¬ (a = 0 ∧ b = 0 ∧ c = 0)) ∧ (zlo (zwk a b c ms) 3 < d ∧ d < zhi (zwk a b c ms) 3) ∧ ∀ j, j < jn → ¬ (a * ml (4 * j + 1) = b * ml (4 * j) ∧ a * ml (4 * j + 2) = c * ml (4 * j) ∧ b * ml (4 * j + 2) = c * ml (4 * j + 1) ∧ a * ml (4 * j + 3) = d * ml (4 * j) ∧ b * ml (4 * j + 3) = d * ml (4 * j + 1) ∧ c * ml (4 * j + 3) = d * ml (4 * j + 2)))))) 80 [some (.ref 84), some (.int a), some (.int b), some (.int c), some (.int d), o5, some (.int lo), some (.int hi_), some (.int (nI i)), o9] [] h 0 0 := by
  intro n
  induction n with
  | zero => intro i lo hi_ o9 hn; exact absurd hn (Nat.not_lt_zero _)
  | succ n ih =>
    intro i lo hi_ o9 hn hi hlo hhi
    refine pw_iload d_Md_isRight_80 rfl ?_
    refine pw_iconst (x := 3) d_Md_isRight_82 (by decide) ?_
    refine pw_icmp_ge 156 d_Md_isRight_83 (by decide) (fun q_c => ?_) (fun q_c => ?_)
    · refine pw_iload d_Md_isRight_156 rfl ?_
      refine pw_iload d_Md_isRight_158 rfl ?_
      refine pw_icmp_ge 174 d_Md_isRight_160 (by decide) (fun q_x => ?_) (fun q_x => ?_)
      · refine pw_iconst (x := 0) d_Md_isRight_174 (by decide) ?_
        refine pw_istore d_Md_isRight_175 (by decide) (pl' := [some (.ref 84), some (.int (a)), some (.int (b)), some (.int (c)), some (.int (d)), some (.int (0)), some (.int (lo)), some (.int (hi_)), some (.int (nI i)), o9]) rfl ?_
        refine pw_iconst (x := 0) d_Md_isRight_177 (by decide) ?_
        refine pw_istore d_Md_isRight_178 (by decide) (pl' := [some (.ref 84), some (.int (a)), some (.int (b)), some (.int (c)), some (.int (d)), some (.int (0)), some (.int (lo)), some (.int (hi_)), some (.int (0)), o9]) rfl ?_
        have hic : i = 3 := by have := (nI_leI (a := 3) (b := i) (by decide) (by omega)).mp q_c; omega
        subst hic
        rw [hlo] at q_x
        exact l_rt3 hm h85 h86 hjn hrg (jn + 1) 0 0 (by omega) (by omega) (Or.inr ⟨rfl, fun z => absurd z.1.1 (zlt.mpr q_x)⟩)
      · refine pw_iload d_Md_isRight_163 rfl ?_
        refine pw_iload d_Md_isRight_165 rfl ?_
        refine pw_icmp_ge 174 d_Md_isRight_167 (by decide) (fun q_y => ?_) (fun q_y => ?_)
        · refine pw_iconst (x := 0) d_Md_isRight_174 (by decide) ?_
          refine pw_istore d_Md_isRight_175 (by decide) (pl' := [some (.ref 84), some (.int (a)), some (.int (b)), some (.int (c)), some (.int (d)), some (.int (0)), some (.int (lo)), some (.int (hi_)), some (.int (nI i)), o9]) rfl ?_
          refine pw_iconst (x := 0) d_Md_isRight_177 (by decide) ?_
          refine pw_istore d_Md_isRight_178 (by decide) (pl' := [some (.ref 84), some (.int (a)), some (.int (b)), some (.int (c)), some (.int (d)), some (.int (0)), some (.int (lo)), some (.int (hi_)), some (.int (0)), o9]) rfl ?_
          have hic : i = 3 := by have := (nI_leI (a := 3) (b := i) (by decide) (by omega)).mp q_c; omega
          subst hic
          rw [hlo] at q_x
          rw [hhi] at q_y
          exact l_rt3 hm h85 h86 hjn hrg (jn + 1) 0 0 (by omega) (by omega) (Or.inr ⟨rfl, fun z => absurd z.1.2 (zlt.mpr q_y)⟩)
        · refine pw_iconst (x := 1) d_Md_isRight_170 (by decide) ?_
          refine pw_goto 175 d_Md_isRight_171 (by decide) ?_
          refine pw_istore d_Md_isRight_175 (by decide) (pl' := [some (.ref 84), some (.int (a)), some (.int (b)), some (.int (c)), some (.int (d)), some (.int (1)), some (.int (lo)), some (.int (hi_)), some (.int (nI i)), o9]) rfl ?_
          refine pw_iconst (x := 0) d_Md_isRight_177 (by decide) ?_
          refine pw_istore d_Md_isRight_178 (by decide) (pl' := [some (.ref 84), some (.int (a)), some (.int (b)), some (.int (c)), some (.int (d)), some (.int (1)), some (.int (lo)), some (.int (hi_)), some (.int (0)), o9]) rfl ?_
          have hic : i = 3 := by have := (nI_leI (a := 3) (b := i) (by decide) (by omega)).mp q_c; omega
          subst hic
          rw [hlo] at q_x
          rw [hhi] at q_y
          exact l_rt3 hm h85 h86 hjn hrg (jn + 1) 0 1 (by omega) (by omega) (Or.inl ⟨rfl, ⟨zle.mp q_x, zle.mp q_y⟩, fun j hj => absurd hj (Nat.not_lt_zero _)⟩)
    · have hic : i < 3 := by have := mt (nI_leI (a := 3) (b := i) (by decide) (by omega)).mpr q_c; omega
      refine pw_iload d_Md_isRight_86 rfl ?_
      refine pw_if_ne 95 d_Md_isRight_88 (by decide) (fun q_0 => ?_) (fun q_0 => ?_)
      · refine pw_iload d_Md_isRight_95 rfl ?_
        refine pw_iconst (x := 1) d_Md_isRight_97 (by decide) ?_
        refine pw_icmp_ne 105 d_Md_isRight_98 (by decide) (fun q_1 => ?_) (fun q_1 => ?_)
        · refine pw_iload_n d_Md_isRight_105 rfl rfl ?_
          refine pw_aload_n d_Md_isRight_106 rfl rfl ?_
          refine pw_get d_Md_isRight_107 fl_Md_7 hm rfl ?_
          refine pw_iload d_Md_isRight_110 rfl ?_
          refine pw_iald d_Md_isRight_112 h85 rfl rfl hic (by decide) ?_
          refine pw_imul d_Md_isRight_113 ?_
          refine pw_istore d_Md_isRight_114 (by decide) (pl' := [some (.ref 84), some (.int (a)), some (.int (b)), some (.int (c)), some (.int (d)), o5, some (.int (lo)), some (.int (hi_)), some (.int (nI i)), some (.int ((c * ms i)))]) rfl ?_
          refine pw_iload d_Md_isRight_116 rfl ?_
          refine pw_if_ge 129 d_Md_isRight_118 (by decide) (fun q_l => ?_) (fun q_l => ?_)
          · refine pw_iload d_Md_isRight_129 rfl ?_
            refine pw_istore d_Md_isRight_131 (by decide) (pl' := [some (.ref 84), some (.int (a)), some (.int (b)), some (.int (c)), some (.int (d)), o5, some (.int (lo)), some (.int (hi_)), some (.int (nI i)), some (.int ((c * ms i)))]) rfl ?_
            refine pw_iload d_Md_isRight_133 rfl ?_
            refine pw_if_le 146 d_Md_isRight_135 (by decide) (fun q_h => ?_) (fun q_h => ?_)
            · refine pw_iload d_Md_isRight_146 rfl ?_
              refine pw_istore d_Md_isRight_148 (by decide) (pl' := [some (.ref 84), some (.int (a)), some (.int (b)), some (.int (c)), some (.int (d)), o5, some (.int (lo)), some (.int (hi_)), some (.int (nI i)), some (.int ((c * ms i)))]) rfl ?_
              refine pw_iinc (y := nI (i + 1)) d_Md_isRight_150 rfl (nI_1 i) (by decide) (pl' := [some (.ref 84), some (.int (a)), some (.int (b)), some (.int (c)), some (.int (d)), o5, some (.int (lo)), some (.int (hi_)), some (.int (nI (i + 1))), some (.int ((c * ms i)))]) rfl ?_
              refine pw_goto 80 d_Md_isRight_153 (by decide) ?_
              have hz0 : ¬ i = 0 := fun e => q_0 (by rw [e]; rfl)
              have hz1 : ¬ i = 1 := fun e => q_1 (by rw [e]; rfl)
              have hw : z3 a b c i = c := by unfold z3; rw [if_neg hz0, if_neg hz1]
              have hw2 : (zwk a b c ms) i = c * ms i := by unfold zwk; rw [hw]
              refine ih (i + 1) _ _ _ (by omega) (by omega) ?_ ?_
              · exact hlo.trans (zlo_n (w := (zwk a b c ms)) (by rw [hw2]; exact zlt.mpr q_l)).symm
              · exact hhi.trans (zhi_n (w := (zwk a b c ms)) (by rw [hw2]; exact zlt.mpr q_h)).symm
            · refine pw_iload d_Md_isRight_138 rfl ?_
              refine pw_iload d_Md_isRight_140 rfl ?_
              refine pw_iadd d_Md_isRight_142 ?_
              refine pw_goto 148 d_Md_isRight_143 (by decide) ?_
              refine pw_istore d_Md_isRight_148 (by decide) (pl' := [some (.ref 84), some (.int (a)), some (.int (b)), some (.int (c)), some (.int (d)), o5, some (.int (lo)), some (.int ((hi_ + (c * ms i)))), some (.int (nI i)), some (.int ((c * ms i)))]) rfl ?_
              refine pw_iinc (y := nI (i + 1)) d_Md_isRight_150 rfl (nI_1 i) (by decide) (pl' := [some (.ref 84), some (.int (a)), some (.int (b)), some (.int (c)), some (.int (d)), o5, some (.int (lo)), some (.int ((hi_ + (c * ms i)))), some (.int (nI (i + 1))), some (.int ((c * ms i)))]) rfl ?_
              refine pw_goto 80 d_Md_isRight_153 (by decide) ?_
              have hz0 : ¬ i = 0 := fun e => q_0 (by rw [e]; rfl)
              have hz1 : ¬ i = 1 := fun e => q_1 (by rw [e]; rfl)
              have hw : z3 a b c i = c := by unfold z3; rw [if_neg hz0, if_neg hz1]
              have hw2 : (zwk a b c ms) i = c * ms i := by unfold zwk; rw [hw]
              refine ih (i + 1) _ _ _ (by omega) (by omega) ?_ ?_
              · exact hlo.trans (zlo_n (w := (zwk a b c ms)) (by rw [hw2]; exact zlt.mpr q_l)).symm
              · rw [zhi_p (w := (zwk a b c ms)) (by rw [hw2]; exact zle.mp q_h), ← hhi, hw2]
          · refine pw_iload d_Md_isRight_121 rfl ?_
            refine pw_iload d_Md_isRight_123 rfl ?_
            refine pw_iadd d_Md_isRight_125 ?_
            refine pw_goto 131 d_Md_isRight_126 (by decide) ?_
            refine pw_istore d_Md_isRight_131 (by decide) (pl' := [some (.ref 84), some (.int (a)), some (.int (b)), some (.int (c)), some (.int (d)), o5, some (.int ((lo + (c * ms i)))), some (.int (hi_)), some (.int (nI i)), some (.int ((c * ms i)))]) rfl ?_
            refine pw_iload d_Md_isRight_133 rfl ?_
            refine pw_if_le 146 d_Md_isRight_135 (by decide) (fun q_h => ?_) (fun q_h => ?_)
            · refine pw_iload d_Md_isRight_146 rfl ?_
              refine pw_istore d_Md_isRight_148 (by decide) (pl' := [some (.ref 84), some (.int (a)), some (.int (b)), some (.int (c)), some (.int (d)), o5, some (.int ((lo + (c * ms i)))), some (.int (hi_)), some (.int (nI i)), some (.int ((c * ms i)))]) rfl ?_
              refine pw_iinc (y := nI (i + 1)) d_Md_isRight_150 rfl (nI_1 i) (by decide) (pl' := [some (.ref 84), some (.int (a)), some (.int (b)), some (.int (c)), some (.int (d)), o5, some (.int ((lo + (c * ms i)))), some (.int (hi_)), some (.int (nI (i + 1))), some (.int ((c * ms i)))]) rfl ?_
              refine pw_goto 80 d_Md_isRight_153 (by decide) ?_
              have hz0 : ¬ i = 0 := fun e => q_0 (by rw [e]; rfl)
              have hz1 : ¬ i = 1 := fun e => q_1 (by rw [e]; rfl)
              have hw : z3 a b c i = c := by unfold z3; rw [if_neg hz0, if_neg hz1]
              have hw2 : (zwk a b c ms) i = c * ms i := by unfold zwk; rw [hw]
              refine ih (i + 1) _ _ _ (by omega) (by omega) ?_ ?_
              · rw [zlo_p (w := (zwk a b c ms)) (by rw [hw2]; exact zle.mp q_l), ← hlo, hw2]
              · exact hhi.trans (zhi_n (w := (zwk a b c ms)) (by rw [hw2]; exact zlt.mpr q_h)).symm
            · refine pw_iload d_Md_isRight_138 rfl ?_
              refine pw_iload d_Md_isRight_140 rfl ?_
              refine pw_iadd d_Md_isRight_142 ?_
              refine pw_goto 148 d_Md_isRight_143 (by decide) ?_
              refine pw_istore d_Md_isRight_148 (by decide) (pl' := [some (.ref 84), some (.int (a)), some (.int (b)), some (.int (c)), some (.int (d)), o5, some (.int ((lo + (c * ms i)))), some (.int ((hi_ + (c * ms i)))), some (.int (nI i)), some (.int ((c * ms i)))]) rfl ?_
              refine pw_iinc (y := nI (i + 1)) d_Md_isRight_150 rfl (nI_1 i) (by decide) (pl' := [some (.ref 84), some (.int (a)), some (.int (b)), some (.int (c)), some (.int (d)), o5, some (.int ((lo + (c * ms i)))), some (.int ((hi_ + (c * ms i)))), some (.int (nI (i + 1))), some (.int ((c * ms i)))]) rfl ?_
              refine pw_goto 80 d_Md_isRight_153 (by decide) ?_
              have hz0 : ¬ i = 0 := fun e => q_0 (by rw [e]; rfl)
              have hz1 : ¬ i = 1 := fun e => q_1 (by rw [e]; rfl)
              have hw : z3 a b c i = c := by unfold z3; rw [if_neg hz0, if_neg hz1]
              have hw2 : (zwk a b c ms) i = c * ms i := by unfold zwk; rw [hw]
              refine ih (i + 1) _ _ _ (by omega) (by omega) ?_ ?_
              · rw [zlo_p (w := (zwk a b c ms)) (by rw [hw2]; exact zle.mp q_l), ← hlo, hw2]
              · rw [zhi_p (w := (zwk a b c ms)) (by rw [hw2]; exact zle.mp q_h), ← hhi, hw2]
        · refine pw_iload_n d_Md_isRight_101 rfl rfl ?_
          refine pw_goto 106 d_Md_isRight_102 (by decide) ?_
          refine pw_aload_n d_Md_isRight_106 rfl rfl ?_
          refine pw_get d_Md_isRight_107 fl_Md_7 hm rfl ?_
          refine pw_iload d_Md_isRight_110 rfl ?_
          refine pw_iald d_Md_isRight_112 h85 rfl rfl hic (by decide) ?_
          refine pw_imul d_Md_isRight_113 ?_
          refine pw_istore d_Md_isRight_114 (by decide) (pl' := [some (.ref 84), some (.int (a)), some (.int (b)), some (.int (c)), some (.int (d)), o5, some (.int (lo)), some (.int (hi_)), some (.int (nI i)), some (.int ((b * ms i)))]) rfl ?_
          refine pw_iload d_Md_isRight_116 rfl ?_
          refine pw_if_ge 129 d_Md_isRight_118 (by decide) (fun q_l => ?_) (fun q_l => ?_)
          · refine pw_iload d_Md_isRight_129 rfl ?_
            refine pw_istore d_Md_isRight_131 (by decide) (pl' := [some (.ref 84), some (.int (a)), some (.int (b)), some (.int (c)), some (.int (d)), o5, some (.int (lo)), some (.int (hi_)), some (.int (nI i)), some (.int ((b * ms i)))]) rfl ?_
            refine pw_iload d_Md_isRight_133 rfl ?_
            refine pw_if_le 146 d_Md_isRight_135 (by decide) (fun q_h => ?_) (fun q_h => ?_)
            · refine pw_iload d_Md_isRight_146 rfl ?_
              refine pw_istore d_Md_isRight_148 (by decide) (pl' := [some (.ref 84), some (.int (a)), some (.int (b)), some (.int (c)), some (.int (d)), o5, some (.int (lo)), some (.int (hi_)), some (.int (nI i)), some (.int ((b * ms i)))]) rfl ?_
              refine pw_iinc (y := nI (i + 1)) d_Md_isRight_150 rfl (nI_1 i) (by decide) (pl' := [some (.ref 84), some (.int (a)), some (.int (b)), some (.int (c)), some (.int (d)), o5, some (.int (lo)), some (.int (hi_)), some (.int (nI (i + 1))), some (.int ((b * ms i)))]) rfl ?_
              refine pw_goto 80 d_Md_isRight_153 (by decide) ?_
              have hz0 : ¬ i = 0 := fun e => q_0 (by rw [e]; rfl)
              have hz1 : i = 1 := (nI_eq (a := i) (b := 1) (by omega) (by decide)).mp q_1
              have hw : z3 a b c i = b := by unfold z3; rw [if_neg hz0, if_pos hz1]
              have hw2 : (zwk a b c ms) i = b * ms i := by unfold zwk; rw [hw]
              refine ih (i + 1) _ _ _ (by omega) (by omega) ?_ ?_
              · exact hlo.trans (zlo_n (w := (zwk a b c ms)) (by rw [hw2]; exact zlt.mpr q_l)).symm
              · exact hhi.trans (zhi_n (w := (zwk a b c ms)) (by rw [hw2]; exact zlt.mpr q_h)).symm
            · refine pw_iload d_Md_isRight_138 rfl ?_
              refine pw_iload d_Md_isRight_140 rfl ?_
              refine pw_iadd d_Md_isRight_142 ?_
              refine pw_goto 148 d_Md_isRight_143 (by decide) ?_
              refine pw_istore d_Md_isRight_148 (by decide) (pl' := [some (.ref 84), some (.int (a)), some (.int (b)), some (.int (c)), some (.int (d)), o5, some (.int (lo)), some (.int ((hi_ + (b * ms i)))), some (.int (nI i)), some (.int ((b * ms i)))]) rfl ?_
              refine pw_iinc (y := nI (i + 1)) d_Md_isRight_150 rfl (nI_1 i) (by decide) (pl' := [some (.ref 84), some (.int (a)), some (.int (b)), some (.int (c)), some (.int (d)), o5, some (.int (lo)), some (.int ((hi_ + (b * ms i)))), some (.int (nI (i + 1))), some (.int ((b * ms i)))]) rfl ?_
              refine pw_goto 80 d_Md_isRight_153 (by decide) ?_
              have hz0 : ¬ i = 0 := fun e => q_0 (by rw [e]; rfl)
              have hz1 : i = 1 := (nI_eq (a := i) (b := 1) (by omega) (by decide)).mp q_1
              have hw : z3 a b c i = b := by unfold z3; rw [if_neg hz0, if_pos hz1]
              have hw2 : (zwk a b c ms) i = b * ms i := by unfold zwk; rw [hw]
              refine ih (i + 1) _ _ _ (by omega) (by omega) ?_ ?_
              · exact hlo.trans (zlo_n (w := (zwk a b c ms)) (by rw [hw2]; exact zlt.mpr q_l)).symm
              · rw [zhi_p (w := (zwk a b c ms)) (by rw [hw2]; exact zle.mp q_h), ← hhi, hw2]
          · refine pw_iload d_Md_isRight_121 rfl ?_
            refine pw_iload d_Md_isRight_123 rfl ?_
            refine pw_iadd d_Md_isRight_125 ?_
            refine pw_goto 131 d_Md_isRight_126 (by decide) ?_
            refine pw_istore d_Md_isRight_131 (by decide) (pl' := [some (.ref 84), some (.int (a)), some (.int (b)), some (.int (c)), some (.int (d)), o5, some (.int ((lo + (b * ms i)))), some (.int (hi_)), some (.int (nI i)), some (.int ((b * ms i)))]) rfl ?_
            refine pw_iload d_Md_isRight_133 rfl ?_
            refine pw_if_le 146 d_Md_isRight_135 (by decide) (fun q_h => ?_) (fun q_h => ?_)
            · refine pw_iload d_Md_isRight_146 rfl ?_
              refine pw_istore d_Md_isRight_148 (by decide) (pl' := [some (.ref 84), some (.int (a)), some (.int (b)), some (.int (c)), some (.int (d)), o5, some (.int ((lo + (b * ms i)))), some (.int (hi_)), some (.int (nI i)), some (.int ((b * ms i)))]) rfl ?_
              refine pw_iinc (y := nI (i + 1)) d_Md_isRight_150 rfl (nI_1 i) (by decide) (pl' := [some (.ref 84), some (.int (a)), some (.int (b)), some (.int (c)), some (.int (d)), o5, some (.int ((lo + (b * ms i)))), some (.int (hi_)), some (.int (nI (i + 1))), some (.int ((b * ms i)))]) rfl ?_
              refine pw_goto 80 d_Md_isRight_153 (by decide) ?_
              have hz0 : ¬ i = 0 := fun e => q_0 (by rw [e]; rfl)
              have hz1 : i = 1 := (nI_eq (a := i) (b := 1) (by omega) (by decide)).mp q_1
              have hw : z3 a b c i = b := by unfold z3; rw [if_neg hz0, if_pos hz1]
              have hw2 : (zwk a b c ms) i = b * ms i := by unfold zwk; rw [hw]
              refine ih (i + 1) _ _ _ (by omega) (by omega) ?_ ?_
              · rw [zlo_p (w := (zwk a b c ms)) (by rw [hw2]; exact zle.mp q_l), ← hlo, hw2]
              · exact hhi.trans (zhi_n (w := (zwk a b c ms)) (by rw [hw2]; exact zlt.mpr q_h)).symm
            · refine pw_iload d_Md_isRight_138 rfl ?_
              refine pw_iload d_Md_isRight_140 rfl ?_
              refine pw_iadd d_Md_isRight_142 ?_
              refine pw_goto 148 d_Md_isRight_143 (by decide) ?_
              refine pw_istore d_Md_isRight_148 (by decide) (pl' := [some (.ref 84), some (.int (a)), some (.int (b)), some (.int (c)), some (.int (d)), o5, some (.int ((lo + (b * ms i)))), some (.int ((hi_ + (b * ms i)))), some (.int (nI i)), some (.int ((b * ms i)))]) rfl ?_
              refine pw_iinc (y := nI (i + 1)) d_Md_isRight_150 rfl (nI_1 i) (by decide) (pl' := [some (.ref 84), some (.int (a)), some (.int (b)), some (.int (c)), some (.int (d)), o5, some (.int ((lo + (b * ms i)))), some (.int ((hi_ + (b * ms i)))), some (.int (nI (i + 1))), some (.int ((b * ms i)))]) rfl ?_
              refine pw_goto 80 d_Md_isRight_153 (by decide) ?_
              have hz0 : ¬ i = 0 := fun e => q_0 (by rw [e]; rfl)
              have hz1 : i = 1 := (nI_eq (a := i) (b := 1) (by omega) (by decide)).mp q_1
              have hw : z3 a b c i = b := by unfold z3; rw [if_neg hz0, if_pos hz1]
              have hw2 : (zwk a b c ms) i = b * ms i := by unfold zwk; rw [hw]
              refine ih (i + 1) _ _ _ (by omega) (by omega) ?_ ?_
              · rw [zlo_p (w := (zwk a b c ms)) (by rw [hw2]; exact zle.mp q_l), ← hlo, hw2]
              · rw [zhi_p (w := (zwk a b c ms)) (by rw [hw2]; exact zle.mp q_h), ← hhi, hw2]
      · refine pw_iload_n d_Md_isRight_91 rfl rfl ?_
        refine pw_goto 106 d_Md_isRight_92 (by decide) ?_
        refine pw_aload_n d_Md_isRight_106 rfl rfl ?_
        refine pw_get d_Md_isRight_107 fl_Md_7 hm rfl ?_
        refine pw_iload d_Md_isRight_110 rfl ?_
        refine pw_iald d_Md_isRight_112 h85 rfl rfl hic (by decide) ?_
        refine pw_imul d_Md_isRight_113 ?_
        refine pw_istore d_Md_isRight_114 (by decide) (pl' := [some (.ref 84), some (.int (a)), some (.int (b)), some (.int (c)), some (.int (d)), o5, some (.int (lo)), some (.int (hi_)), some (.int (nI i)), some (.int ((a * ms i)))]) rfl ?_
        refine pw_iload d_Md_isRight_116 rfl ?_
        refine pw_if_ge 129 d_Md_isRight_118 (by decide) (fun q_l => ?_) (fun q_l => ?_)
        · refine pw_iload d_Md_isRight_129 rfl ?_
          refine pw_istore d_Md_isRight_131 (by decide) (pl' := [some (.ref 84), some (.int (a)), some (.int (b)), some (.int (c)), some (.int (d)), o5, some (.int (lo)), some (.int (hi_)), some (.int (nI i)), some (.int ((a * ms i)))]) rfl ?_
          refine pw_iload d_Md_isRight_133 rfl ?_
          refine pw_if_le 146 d_Md_isRight_135 (by decide) (fun q_h => ?_) (fun q_h => ?_)
          · refine pw_iload d_Md_isRight_146 rfl ?_
            refine pw_istore d_Md_isRight_148 (by decide) (pl' := [some (.ref 84), some (.int (a)), some (.int (b)), some (.int (c)), some (.int (d)), o5, some (.int (lo)), some (.int (hi_)), some (.int (nI i)), some (.int ((a * ms i)))]) rfl ?_
            refine pw_iinc (y := nI (i + 1)) d_Md_isRight_150 rfl (nI_1 i) (by decide) (pl' := [some (.ref 84), some (.int (a)), some (.int (b)), some (.int (c)), some (.int (d)), o5, some (.int (lo)), some (.int (hi_)), some (.int (nI (i + 1))), some (.int ((a * ms i)))]) rfl ?_
            refine pw_goto 80 d_Md_isRight_153 (by decide) ?_
            have hz0 : i = 0 := (nI_eq (a := i) (b := 0) (by omega) (by decide)).mp q_0
            have hw : z3 a b c i = a := by unfold z3; rw [if_pos hz0]
            have hw2 : (zwk a b c ms) i = a * ms i := by unfold zwk; rw [hw]
            refine ih (i + 1) _ _ _ (by omega) (by omega) ?_ ?_
            · exact hlo.trans (zlo_n (w := (zwk a b c ms)) (by rw [hw2]; exact zlt.mpr q_l)).symm
            · exact hhi.trans (zhi_n (w := (zwk a b c ms)) (by rw [hw2]; exact zlt.mpr q_h)).symm
          · refine pw_iload d_Md_isRight_138 rfl ?_
            refine pw_iload d_Md_isRight_140 rfl ?_
            refine pw_iadd d_Md_isRight_142 ?_
            refine pw_goto 148 d_Md_isRight_143 (by decide) ?_
            refine pw_istore d_Md_isRight_148 (by decide) (pl' := [some (.ref 84), some (.int (a)), some (.int (b)), some (.int (c)), some (.int (d)), o5, some (.int (lo)), some (.int ((hi_ + (a * ms i)))), some (.int (nI i)), some (.int ((a * ms i)))]) rfl ?_
            refine pw_iinc (y := nI (i + 1)) d_Md_isRight_150 rfl (nI_1 i) (by decide) (pl' := [some (.ref 84), some (.int (a)), some (.int (b)), some (.int (c)), some (.int (d)), o5, some (.int (lo)), some (.int ((hi_ + (a * ms i)))), some (.int (nI (i + 1))), some (.int ((a * ms i)))]) rfl ?_
            refine pw_goto 80 d_Md_isRight_153 (by decide) ?_
            have hz0 : i = 0 := (nI_eq (a := i) (b := 0) (by omega) (by decide)).mp q_0
            have hw : z3 a b c i = a := by unfold z3; rw [if_pos hz0]
            have hw2 : (zwk a b c ms) i = a * ms i := by unfold zwk; rw [hw]
            refine ih (i + 1) _ _ _ (by omega) (by omega) ?_ ?_
            · exact hlo.trans (zlo_n (w := (zwk a b c ms)) (by rw [hw2]; exact zlt.mpr q_l)).symm
            · rw [zhi_p (w := (zwk a b c ms)) (by rw [hw2]; exact zle.mp q_h), ← hhi, hw2]
        · refine pw_iload d_Md_isRight_121 rfl ?_
          refine pw_iload d_Md_isRight_123 rfl ?_
          refine pw_iadd d_Md_isRight_125 ?_
          refine pw_goto 131 d_Md_isRight_126 (by decide) ?_
          refine pw_istore d_Md_isRight_131 (by decide) (pl' := [some (.ref 84), some (.int (a)), some (.int (b)), some (.int (c)), some (.int (d)), o5, some (.int ((lo + (a * ms i)))), some (.int (hi_)), some (.int (nI i)), some (.int ((a * ms i)))]) rfl ?_
          refine pw_iload d_Md_isRight_133 rfl ?_
          refine pw_if_le 146 d_Md_isRight_135 (by decide) (fun q_h => ?_) (fun q_h => ?_)
          · refine pw_iload d_Md_isRight_146 rfl ?_
            refine pw_istore d_Md_isRight_148 (by decide) (pl' := [some (.ref 84), some (.int (a)), some (.int (b)), some (.int (c)), some (.int (d)), o5, some (.int ((lo + (a * ms i)))), some (.int (hi_)), some (.int (nI i)), some (.int ((a * ms i)))]) rfl ?_
            refine pw_iinc (y := nI (i + 1)) d_Md_isRight_150 rfl (nI_1 i) (by decide) (pl' := [some (.ref 84), some (.int (a)), some (.int (b)), some (.int (c)), some (.int (d)), o5, some (.int ((lo + (a * ms i)))), some (.int (hi_)), some (.int (nI (i + 1))), some (.int ((a * ms i)))]) rfl ?_
            refine pw_goto 80 d_Md_isRight_153 (by decide) ?_
            have hz0 : i = 0 := (nI_eq (a := i) (b := 0) (by omega) (by decide)).mp q_0
            have hw : z3 a b c i = a := by unfold z3; rw [if_pos hz0]
            have hw2 : (zwk a b c ms) i = a * ms i := by unfold zwk; rw [hw]
            refine ih (i + 1) _ _ _ (by omega) (by omega) ?_ ?_
            · rw [zlo_p (w := (zwk a b c ms)) (by rw [hw2]; exact zle.mp q_l), ← hlo, hw2]
            · exact hhi.trans (zhi_n (w := (zwk a b c ms)) (by rw [hw2]; exact zlt.mpr q_h)).symm
          · refine pw_iload d_Md_isRight_138 rfl ?_
            refine pw_iload d_Md_isRight_140 rfl ?_
            refine pw_iadd d_Md_isRight_142 ?_
            refine pw_goto 148 d_Md_isRight_143 (by decide) ?_
            refine pw_istore d_Md_isRight_148 (by decide) (pl' := [some (.ref 84), some (.int (a)), some (.int (b)), some (.int (c)), some (.int (d)), o5, some (.int ((lo + (a * ms i)))), some (.int ((hi_ + (a * ms i)))), some (.int (nI i)), some (.int ((a * ms i)))]) rfl ?_
            refine pw_iinc (y := nI (i + 1)) d_Md_isRight_150 rfl (nI_1 i) (by decide) (pl' := [some (.ref 84), some (.int (a)), some (.int (b)), some (.int (c)), some (.int (d)), o5, some (.int ((lo + (a * ms i)))), some (.int ((hi_ + (a * ms i)))), some (.int (nI (i + 1))), some (.int ((a * ms i)))]) rfl ?_
            refine pw_goto 80 d_Md_isRight_153 (by decide) ?_
            have hz0 : i = 0 := (nI_eq (a := i) (b := 0) (by omega) (by decide)).mp q_0
            have hw : z3 a b c i = a := by unfold z3; rw [if_pos hz0]
            have hw2 : (zwk a b c ms) i = a * ms i := by unfold zwk; rw [hw]
            refine ih (i + 1) _ _ _ (by omega) (by omega) ?_ ?_
            · rw [zlo_p (w := (zwk a b c ms)) (by rw [hw2]; exact zle.mp q_l), ← hlo, hw2]
            · rw [zhi_p (w := (zwk a b c ms)) (by rw [hw2]; exact zle.mp q_h), ← hhi, hw2]
set_option maxRecDepth 20000 in
set_option maxHeartbeats 2000000 in
theorem c_isRight {G : zG} {h : zH} {th : Int32} {jn dr pn bl tn : Nat} (hm : zMo h th jn dr pn bl tn) {ms ml : Nat → Int32} (h85 : h[85]? = some (.inl (0, 3, .inl ms))) (h86 : h[86]? = some (.inl (0, 48, .inl ml))) (hjn : jn ≤ 6) {a b c d : Int32} : PW G M_Md_isRight (zroom 1 0 0) true (fun r h' => ∃ t : Int32, r = .inl (some (.int t)) ∧ h' = h ∧ ((t = 1 ∧ (((-6 ≤ a ∧ a ≤ 6) ∧ (-6 ≤ b ∧ b ≤ 6) ∧ (-6 ≤ c ∧ c ≤ 6) ∧ (-100 ≤ d ∧ d ≤ 100) ∧ ¬ (a = 0 ∧ b = 0 ∧ c = 0)) ∧ (zlo (zwk a b c ms) 3 < d ∧ d < zhi (zwk a b c ms) 3) ∧ ∀ j, j < jn → ¬ (a * ml (4 * j + 1) = b * ml (4 * j) ∧ a * ml (4 * j + 2) = c * ml (4 * j) ∧ b * ml (4 * j + 2) = c * ml (4 * j + 1) ∧ a * ml (4 * j + 3) = d * ml (4 * j) ∧ b * ml (4 * j + 3) = d * ml (4 * j + 1) ∧ c * ml (4 * j + 3) = d * ml (4 * j + 2)))) ∨ (t = 0 ∧ ¬ (((-6 ≤ a ∧ a ≤ 6) ∧ (-6 ≤ b ∧ b ≤ 6) ∧ (-6 ≤ c ∧ c ≤ 6) ∧ (-100 ≤ d ∧ d ≤ 100) ∧ ¬ (a = 0 ∧ b = 0 ∧ c = 0)) ∧ (zlo (zwk a b c ms) 3 < d ∧ d < zhi (zwk a b c ms) 3) ∧ ∀ j, j < jn → ¬ (a * ml (4 * j + 1) = b * ml (4 * j) ∧ a * ml (4 * j + 2) = c * ml (4 * j) ∧ b * ml (4 * j + 2) = c * ml (4 * j + 1) ∧ a * ml (4 * j + 3) = d * ml (4 * j) ∧ b * ml (4 * j + 3) = d * ml (4 * j + 1) ∧ c * ml (4 * j + 3) = d * ml (4 * j + 2)))))) 0 (zentry 10 [.ref 84, .int (a), .int (b), .int (c), .int (d)]) [] h 0 0 := by
  show PW G M_Md_isRight (zroom 1 0 0) true _ 0 [some (.ref 84), some (.int (a)), some (.int (b)), some (.int (c)), some (.int (d)), none, none, none, none, none] [] h 0 0
  refine pw_iload_n d_Md_isRight_0 rfl rfl ?_
  refine pw_bipush (x := (-6)) d_Md_isRight_1 (by decide) ?_
  refine pw_bipush (x := 6) d_Md_isRight_3 (by decide) ?_
  refine pw_callS1 (R' := (zroom 0 0 0)) (h2 := h) [.int (a), .int ((-6)), .int (6)] (fun _ => rfl) d_Md_isRight_5 lk_Md_131 rfl rfl c_in ?_
  refine pw_if_eq 61 d_Md_isRight_8 (by decide) (fun q_a => ?_) (fun q_a => ?_)
  · refine pw_iconst (x := 0) d_Md_isRight_61 (by decide) ?_
    refine pw_istore d_Md_isRight_62 (by decide) (pl' := [some (.ref 84), some (.int (a)), some (.int (b)), some (.int (c)), some (.int (d)), some (.int (0)), none, none, none, none]) rfl ?_
    refine pw_iload d_Md_isRight_64 rfl ?_
    refine pw_if_ne 71 d_Md_isRight_66 (by decide) (fun q_z => ?_) (fun q_z => ?_)
    · exact absurd rfl q_z
    · refine pw_iconst (x := 0) d_Md_isRight_69 (by decide) ?_
      refine pw_zreturn d_Md_isRight_70 rfl (by decide) (by decide) (by decide) ?_
      exact ⟨0, rfl, rfl, Or.inr ⟨rfl, fun z => z0 q_a z.1.1⟩⟩
  · refine pw_iload_n d_Md_isRight_11 rfl rfl ?_
    refine pw_bipush (x := (-6)) d_Md_isRight_12 (by decide) ?_
    refine pw_bipush (x := 6) d_Md_isRight_14 (by decide) ?_
    refine pw_callS1 (R' := (zroom 0 0 0)) (h2 := h) [.int (b), .int ((-6)), .int (6)] (fun _ => rfl) d_Md_isRight_16 lk_Md_131 rfl rfl c_in ?_
    refine pw_if_eq 61 d_Md_isRight_19 (by decide) (fun q_b => ?_) (fun q_b => ?_)
    · refine pw_iconst (x := 0) d_Md_isRight_61 (by decide) ?_
      refine pw_istore d_Md_isRight_62 (by decide) (pl' := [some (.ref 84), some (.int (a)), some (.int (b)), some (.int (c)), some (.int (d)), some (.int (0)), none, none, none, none]) rfl ?_
      refine pw_iload d_Md_isRight_64 rfl ?_
      refine pw_if_ne 71 d_Md_isRight_66 (by decide) (fun q_z => ?_) (fun q_z => ?_)
      · exact absurd rfl q_z
      · refine pw_iconst (x := 0) d_Md_isRight_69 (by decide) ?_
        refine pw_zreturn d_Md_isRight_70 rfl (by decide) (by decide) (by decide) ?_
        exact ⟨0, rfl, rfl, Or.inr ⟨rfl, fun z => z0 q_b z.1.2.1⟩⟩
    · refine pw_iload_n d_Md_isRight_22 rfl rfl ?_
      refine pw_bipush (x := (-6)) d_Md_isRight_23 (by decide) ?_
      refine pw_bipush (x := 6) d_Md_isRight_25 (by decide) ?_
      refine pw_callS1 (R' := (zroom 0 0 0)) (h2 := h) [.int (c), .int ((-6)), .int (6)] (fun _ => rfl) d_Md_isRight_27 lk_Md_131 rfl rfl c_in ?_
      refine pw_if_eq 61 d_Md_isRight_30 (by decide) (fun q_c9 => ?_) (fun q_c9 => ?_)
      · refine pw_iconst (x := 0) d_Md_isRight_61 (by decide) ?_
        refine pw_istore d_Md_isRight_62 (by decide) (pl' := [some (.ref 84), some (.int (a)), some (.int (b)), some (.int (c)), some (.int (d)), some (.int (0)), none, none, none, none]) rfl ?_
        refine pw_iload d_Md_isRight_64 rfl ?_
        refine pw_if_ne 71 d_Md_isRight_66 (by decide) (fun q_z => ?_) (fun q_z => ?_)
        · exact absurd rfl q_z
        · refine pw_iconst (x := 0) d_Md_isRight_69 (by decide) ?_
          refine pw_zreturn d_Md_isRight_70 rfl (by decide) (by decide) (by decide) ?_
          exact ⟨0, rfl, rfl, Or.inr ⟨rfl, fun z => z0 q_c9 z.1.2.2.1⟩⟩
      · refine pw_iload d_Md_isRight_33 rfl ?_
        refine pw_bipush (x := (-100)) d_Md_isRight_35 (by decide) ?_
        refine pw_bipush (x := 100) d_Md_isRight_37 (by decide) ?_
        refine pw_callS1 (R' := (zroom 0 0 0)) (h2 := h) [.int (d), .int ((-100)), .int (100)] (fun _ => rfl) d_Md_isRight_39 lk_Md_131 rfl rfl c_in ?_
        refine pw_if_eq 61 d_Md_isRight_42 (by decide) (fun q_d => ?_) (fun q_d => ?_)
        · refine pw_iconst (x := 0) d_Md_isRight_61 (by decide) ?_
          refine pw_istore d_Md_isRight_62 (by decide) (pl' := [some (.ref 84), some (.int (a)), some (.int (b)), some (.int (c)), some (.int (d)), some (.int (0)), none, none, none, none]) rfl ?_
          refine pw_iload d_Md_isRight_64 rfl ?_
          refine pw_if_ne 71 d_Md_isRight_66 (by decide) (fun q_z => ?_) (fun q_z => ?_)
          · exact absurd rfl q_z
          · refine pw_iconst (x := 0) d_Md_isRight_69 (by decide) ?_
            refine pw_zreturn d_Md_isRight_70 rfl (by decide) (by decide) (by decide) ?_
            exact ⟨0, rfl, rfl, Or.inr ⟨rfl, fun z => z0 q_d z.1.2.2.2.1⟩⟩
        · refine pw_iload_n d_Md_isRight_45 rfl rfl ?_
          refine pw_if_ne 57 d_Md_isRight_46 (by decide) (fun q_1 => ?_) (fun q_1 => ?_)
          · refine pw_iconst (x := 1) d_Md_isRight_57 (by decide) ?_
            refine pw_goto 62 d_Md_isRight_58 (by decide) ?_
            refine pw_istore d_Md_isRight_62 (by decide) (pl' := [some (.ref 84), some (.int (a)), some (.int (b)), some (.int (c)), some (.int (d)), some (.int (1)), none, none, none, none]) rfl ?_
            refine pw_iload d_Md_isRight_64 rfl ?_
            refine pw_if_ne 71 d_Md_isRight_66 (by decide) (fun q_z => ?_) (fun q_z => ?_)
            · have hrg : ((-6 ≤ a ∧ a ≤ 6) ∧ (-6 ≤ b ∧ b ≤ 6) ∧ (-6 ≤ c ∧ c ≤ 6) ∧ (-100 ≤ d ∧ d ≤ 100) ∧ ¬ (a = 0 ∧ b = 0 ∧ c = 0)) := ⟨z1 q_a, z1 q_b, z1 q_c9, z1 q_d, fun z => q_1 z.1⟩
              refine pw_iconst (x := 0) d_Md_isRight_71 (by decide) ?_
              refine pw_istore d_Md_isRight_72 (by decide) (pl' := [some (.ref 84), some (.int a), some (.int b), some (.int c), some (.int d), some (.int 1), some (.int 0), none, none, none]) rfl ?_
              refine pw_iconst (x := 0) d_Md_isRight_74 (by decide) ?_
              refine pw_istore d_Md_isRight_75 (by decide) (pl' := [some (.ref 84), some (.int a), some (.int b), some (.int c), some (.int d), some (.int 1), some (.int 0), some (.int 0), none, none]) rfl ?_
              refine pw_iconst (x := 0) d_Md_isRight_77 (by decide) ?_
              refine pw_istore d_Md_isRight_78 (by decide) (pl' := [some (.ref 84), some (.int a), some (.int b), some (.int c), some (.int d), some (.int 1), some (.int 0), some (.int 0), some (.int 0), none]) rfl ?_
              exact l_rt2 hm h85 h86 hjn hrg 4 0 0 0 _ (by decide) (by decide) rfl rfl
            · exact absurd q_z (by decide)
          · refine pw_iload_n d_Md_isRight_49 rfl rfl ?_
            refine pw_if_ne 57 d_Md_isRight_50 (by decide) (fun q_2 => ?_) (fun q_2 => ?_)
            · refine pw_iconst (x := 1) d_Md_isRight_57 (by decide) ?_
              refine pw_goto 62 d_Md_isRight_58 (by decide) ?_
              refine pw_istore d_Md_isRight_62 (by decide) (pl' := [some (.ref 84), some (.int (a)), some (.int (b)), some (.int (c)), some (.int (d)), some (.int (1)), none, none, none, none]) rfl ?_
              refine pw_iload d_Md_isRight_64 rfl ?_
              refine pw_if_ne 71 d_Md_isRight_66 (by decide) (fun q_z => ?_) (fun q_z => ?_)
              · have hrg : ((-6 ≤ a ∧ a ≤ 6) ∧ (-6 ≤ b ∧ b ≤ 6) ∧ (-6 ≤ c ∧ c ≤ 6) ∧ (-100 ≤ d ∧ d ≤ 100) ∧ ¬ (a = 0 ∧ b = 0 ∧ c = 0)) := ⟨z1 q_a, z1 q_b, z1 q_c9, z1 q_d, fun z => q_2 z.2.1⟩
                refine pw_iconst (x := 0) d_Md_isRight_71 (by decide) ?_
                refine pw_istore d_Md_isRight_72 (by decide) (pl' := [some (.ref 84), some (.int a), some (.int b), some (.int c), some (.int d), some (.int 1), some (.int 0), none, none, none]) rfl ?_
                refine pw_iconst (x := 0) d_Md_isRight_74 (by decide) ?_
                refine pw_istore d_Md_isRight_75 (by decide) (pl' := [some (.ref 84), some (.int a), some (.int b), some (.int c), some (.int d), some (.int 1), some (.int 0), some (.int 0), none, none]) rfl ?_
                refine pw_iconst (x := 0) d_Md_isRight_77 (by decide) ?_
                refine pw_istore d_Md_isRight_78 (by decide) (pl' := [some (.ref 84), some (.int a), some (.int b), some (.int c), some (.int d), some (.int 1), some (.int 0), some (.int 0), some (.int 0), none]) rfl ?_
                exact l_rt2 hm h85 h86 hjn hrg 4 0 0 0 _ (by decide) (by decide) rfl rfl
              · exact absurd q_z (by decide)
            · refine pw_iload_n d_Md_isRight_53 rfl rfl ?_
              refine pw_if_eq 61 d_Md_isRight_54 (by decide) (fun q_3 => ?_) (fun q_3 => ?_)
              · refine pw_iconst (x := 0) d_Md_isRight_61 (by decide) ?_
                refine pw_istore d_Md_isRight_62 (by decide) (pl' := [some (.ref 84), some (.int (a)), some (.int (b)), some (.int (c)), some (.int (d)), some (.int (0)), none, none, none, none]) rfl ?_
                refine pw_iload d_Md_isRight_64 rfl ?_
                refine pw_if_ne 71 d_Md_isRight_66 (by decide) (fun q_z => ?_) (fun q_z => ?_)
                · exact absurd rfl q_z
                · refine pw_iconst (x := 0) d_Md_isRight_69 (by decide) ?_
                  refine pw_zreturn d_Md_isRight_70 rfl (by decide) (by decide) (by decide) ?_
                  exact ⟨0, rfl, rfl, Or.inr ⟨rfl, fun z => z.1.2.2.2.2 ⟨q_1, q_2, q_3⟩⟩⟩
              · refine pw_iconst (x := 1) d_Md_isRight_57 (by decide) ?_
                refine pw_goto 62 d_Md_isRight_58 (by decide) ?_
                refine pw_istore d_Md_isRight_62 (by decide) (pl' := [some (.ref 84), some (.int (a)), some (.int (b)), some (.int (c)), some (.int (d)), some (.int (1)), none, none, none, none]) rfl ?_
                refine pw_iload d_Md_isRight_64 rfl ?_
                refine pw_if_ne 71 d_Md_isRight_66 (by decide) (fun q_z => ?_) (fun q_z => ?_)
                · have hrg : ((-6 ≤ a ∧ a ≤ 6) ∧ (-6 ≤ b ∧ b ≤ 6) ∧ (-6 ≤ c ∧ c ≤ 6) ∧ (-100 ≤ d ∧ d ≤ 100) ∧ ¬ (a = 0 ∧ b = 0 ∧ c = 0)) := ⟨z1 q_a, z1 q_b, z1 q_c9, z1 q_d, fun z => q_3 z.2.2⟩
                  refine pw_iconst (x := 0) d_Md_isRight_71 (by decide) ?_
                  refine pw_istore d_Md_isRight_72 (by decide) (pl' := [some (.ref 84), some (.int a), some (.int b), some (.int c), some (.int d), some (.int 1), some (.int 0), none, none, none]) rfl ?_
                  refine pw_iconst (x := 0) d_Md_isRight_74 (by decide) ?_
                  refine pw_istore d_Md_isRight_75 (by decide) (pl' := [some (.ref 84), some (.int a), some (.int b), some (.int c), some (.int d), some (.int 1), some (.int 0), some (.int 0), none, none]) rfl ?_
                  refine pw_iconst (x := 0) d_Md_isRight_77 (by decide) ?_
                  refine pw_istore d_Md_isRight_78 (by decide) (pl' := [some (.ref 84), some (.int a), some (.int b), some (.int c), some (.int d), some (.int 1), some (.int 0), some (.int 0), some (.int 0), none]) rfl ?_
                  exact l_rt2 hm h85 h86 hjn hrg 4 0 0 0 _ (by decide) (by decide) rfl rfl
                · exact absurd q_z (by decide)
