set_option maxRecDepth 20000 in
set_option maxHeartbeats 2000000 in
theorem c_compare {G : zG} {h : zH} {x y : Int32} : PW G M_Integer_compare (zroom 0 0 0) true (zr (some (.int (if x < y then -1 else if x = y then 0 else 1))) h) 0 (zentry 2 [.int (x), .int (y)]) [] h 0 0 := by
  show PW G M_Integer_compare (zroom 0 0 0) true _ 0 [some (.int (x)), some (.int (y))] [] h 0 0
  refine pw_iload_n d_Integer_compare_0 rfl rfl ?_
  refine pw_iload_n d_Integer_compare_1 rfl rfl ?_
  refine pw_icmp_ge 9 d_Integer_compare_2 (by decide) (fun q_1 => ?_) (fun q_1 => ?_)
  · refine pw_iload_n d_Integer_compare_9 rfl rfl ?_
    refine pw_iload_n d_Integer_compare_10 rfl rfl ?_
    refine pw_icmp_ne 18 d_Integer_compare_11 (by decide) (fun q_2 => ?_) (fun q_2 => ?_)
    · refine pw_iconst (x := 1) d_Integer_compare_18 (by decide) ?_
      refine pw_ireturn d_Integer_compare_19 rfl (by decide) (by decide) ?_
      exact ⟨by grind [zlt, zle], rfl⟩
    · refine pw_iconst (x := 0) d_Integer_compare_14 (by decide) ?_
      refine pw_goto 19 d_Integer_compare_15 (by decide) ?_
      refine pw_ireturn d_Integer_compare_19 rfl (by decide) (by decide) ?_
      exact ⟨by grind [zlt, zle], rfl⟩
  · refine pw_iconst (x := (-1)) d_Integer_compare_5 (by decide) ?_
    refine pw_goto 19 d_Integer_compare_6 (by decide) ?_
    refine pw_ireturn d_Integer_compare_19 rfl (by decide) (by decide) ?_
    exact ⟨by grind [zlt, zle], rfl⟩
theorem zcmp {x y : Int32} : ((if x < y then (-1 : Int32) else if x = y then 0 else 1) < 0 ↔ x < y) ∧ ((if x < y then (-1 : Int32) else if x = y then 0 else 1) = 0 ↔ x = y) := by
  by_cases h : x < y
  · rw [if_pos h]
    refine ⟨⟨fun _ => h, fun _ => by decide⟩, ⟨fun q => absurd q (by decide), fun q => ?_⟩⟩
    subst q
    exact absurd h (Int32.lt_irrefl)
  · rw [if_neg h]
    by_cases e : x = y
    · rw [if_pos e]
      exact ⟨⟨fun q => absurd q (by decide), fun q => absurd q h⟩, ⟨fun _ => e, fun _ => rfl⟩⟩
    · rw [if_neg e]
      exact ⟨⟨fun q => absurd q (by decide), fun q => absurd q h⟩, ⟨fun q => absurd q (by decide), fun q => absurd q e⟩⟩
set_option maxRecDepth 20000 in
set_option maxHeartbeats 2000000 in
theorem c_isBefore {G : zG} {h : zH} {c : Nat} {x y z q a b : Nat → Int32} (hp : zPt h c x y z q a b) {i j : Nat} (hi : i < 220) (hj : j < 220) : PW G M_Points_isBefore (zroom 1 0 0) true (zr (some (.int (if x i * q j < x j * q i ∨ (x i * q j = x j * q i ∧ (y i * q j < y j * q i ∨ (y i * q j = y j * q i ∧ z i * q j < z j * q i))) then 1 else 0))) h) 0 (zentry 6 [.ref 36, .int (nI i), .int (nI j)]) [] h 0 0 := by
  show PW G M_Points_isBefore (zroom 1 0 0) true _ 0 [some (.ref 36), some (.int (nI i)), some (.int (nI j)), none, none, none] [] h 0 0
  refine pw_aload_n d_Points_isBefore_0 rfl rfl ?_
  refine pw_get d_Points_isBefore_1 fl_Points_9 hp.1 rfl ?_
  refine pw_iload_n d_Points_isBefore_4 rfl rfl ?_
  refine pw_iald d_Points_isBefore_5 hp.2.1 rfl rfl hi (by decide) ?_
  refine pw_aload_n d_Points_isBefore_6 rfl rfl ?_
  refine pw_get d_Points_isBefore_7 fl_Points_19 hp.1 rfl ?_
  refine pw_iload_n d_Points_isBefore_10 rfl rfl ?_
  refine pw_iald d_Points_isBefore_11 hp.2.2.2.2.1 rfl rfl hj (by decide) ?_
  refine pw_imul d_Points_isBefore_12 ?_
  refine pw_aload_n d_Points_isBefore_13 rfl rfl ?_
  refine pw_get d_Points_isBefore_14 fl_Points_9 hp.1 rfl ?_
  refine pw_iload_n d_Points_isBefore_17 rfl rfl ?_
  refine pw_iald d_Points_isBefore_18 hp.2.1 rfl rfl hj (by decide) ?_
  refine pw_aload_n d_Points_isBefore_19 rfl rfl ?_
  refine pw_get d_Points_isBefore_20 fl_Points_19 hp.1 rfl ?_
  refine pw_iload_n d_Points_isBefore_23 rfl rfl ?_
  refine pw_iald d_Points_isBefore_24 hp.2.2.2.2.1 rfl rfl hi (by decide) ?_
  refine pw_imul d_Points_isBefore_25 ?_
  refine pw_callS1 (R' := (zroom 0 0 0)) (h2 := h) [.int ((x i * q j)), .int ((x j * q i))] (fun _ => rfl) d_Points_isBefore_26 lk_Points_38 rfl rfl c_compare ?_
  refine pw_istore_n d_Points_isBefore_29 rfl (by decide) (pl' := [some (.ref 36), some (.int (nI i)), some (.int (nI j)), some (.int ((if (x i * q j) < (x j * q i) then -1 else if (x i * q j) = (x j * q i) then 0 else 1))), none, none]) rfl ?_
  refine pw_aload_n d_Points_isBefore_30 rfl rfl ?_
  refine pw_get d_Points_isBefore_31 fl_Points_13 hp.1 rfl ?_
  refine pw_iload_n d_Points_isBefore_34 rfl rfl ?_
  refine pw_iald d_Points_isBefore_35 hp.2.2.1 rfl rfl hi (by decide) ?_
  refine pw_aload_n d_Points_isBefore_36 rfl rfl ?_
  refine pw_get d_Points_isBefore_37 fl_Points_19 hp.1 rfl ?_
  refine pw_iload_n d_Points_isBefore_40 rfl rfl ?_
  refine pw_iald d_Points_isBefore_41 hp.2.2.2.2.1 rfl rfl hj (by decide) ?_
  refine pw_imul d_Points_isBefore_42 ?_
  refine pw_aload_n d_Points_isBefore_43 rfl rfl ?_
  refine pw_get d_Points_isBefore_44 fl_Points_13 hp.1 rfl ?_
  refine pw_iload_n d_Points_isBefore_47 rfl rfl ?_
  refine pw_iald d_Points_isBefore_48 hp.2.2.1 rfl rfl hj (by decide) ?_
  refine pw_aload_n d_Points_isBefore_49 rfl rfl ?_
  refine pw_get d_Points_isBefore_50 fl_Points_19 hp.1 rfl ?_
  refine pw_iload_n d_Points_isBefore_53 rfl rfl ?_
  refine pw_iald d_Points_isBefore_54 hp.2.2.2.2.1 rfl rfl hi (by decide) ?_
  refine pw_imul d_Points_isBefore_55 ?_
  refine pw_callS1 (R' := (zroom 0 0 0)) (h2 := h) [.int ((y i * q j)), .int ((y j * q i))] (fun _ => rfl) d_Points_isBefore_56 lk_Points_38 rfl rfl c_compare ?_
  refine pw_istore d_Points_isBefore_59 (by decide) (pl' := [some (.ref 36), some (.int (nI i)), some (.int (nI j)), some (.int ((if (x i * q j) < (x j * q i) then -1 else if (x i * q j) = (x j * q i) then 0 else 1))), some (.int ((if (y i * q j) < (y j * q i) then -1 else if (y i * q j) = (y j * q i) then 0 else 1))), none]) rfl ?_
  refine pw_aload_n d_Points_isBefore_61 rfl rfl ?_
  refine pw_get d_Points_isBefore_62 fl_Points_16 hp.1 rfl ?_
  refine pw_iload_n d_Points_isBefore_65 rfl rfl ?_
  refine pw_iald d_Points_isBefore_66 hp.2.2.2.1 rfl rfl hi (by decide) ?_
  refine pw_aload_n d_Points_isBefore_67 rfl rfl ?_
  refine pw_get d_Points_isBefore_68 fl_Points_19 hp.1 rfl ?_
  refine pw_iload_n d_Points_isBefore_71 rfl rfl ?_
  refine pw_iald d_Points_isBefore_72 hp.2.2.2.2.1 rfl rfl hj (by decide) ?_
  refine pw_imul d_Points_isBefore_73 ?_
  refine pw_aload_n d_Points_isBefore_74 rfl rfl ?_
  refine pw_get d_Points_isBefore_75 fl_Points_16 hp.1 rfl ?_
  refine pw_iload_n d_Points_isBefore_78 rfl rfl ?_
  refine pw_iald d_Points_isBefore_79 hp.2.2.2.1 rfl rfl hj (by decide) ?_
  refine pw_aload_n d_Points_isBefore_80 rfl rfl ?_
  refine pw_get d_Points_isBefore_81 fl_Points_19 hp.1 rfl ?_
  refine pw_iload_n d_Points_isBefore_84 rfl rfl ?_
  refine pw_iald d_Points_isBefore_85 hp.2.2.2.2.1 rfl rfl hi (by decide) ?_
  refine pw_imul d_Points_isBefore_86 ?_
  refine pw_callS1 (R' := (zroom 0 0 0)) (h2 := h) [.int ((z i * q j)), .int ((z j * q i))] (fun _ => rfl) d_Points_isBefore_87 lk_Points_38 rfl rfl c_compare ?_
  refine pw_istore d_Points_isBefore_90 (by decide) (pl' := [some (.ref 36), some (.int (nI i)), some (.int (nI j)), some (.int ((if (x i * q j) < (x j * q i) then -1 else if (x i * q j) = (x j * q i) then 0 else 1))), some (.int ((if (y i * q j) < (y j * q i) then -1 else if (y i * q j) = (y j * q i) then 0 else 1))), some (.int ((if (z i * q j) < (z j * q i) then -1 else if (z i * q j) = (z j * q i) then 0 else 1)))]) rfl ?_
  refine pw_iload_n d_Points_isBefore_92 rfl rfl ?_
  refine pw_if_lt 115 d_Points_isBefore_93 (by decide) (fun q_1 => ?_) (fun q_1 => ?_)
  · refine pw_iconst (x := 1) d_Points_isBefore_115 (by decide) ?_
    refine pw_goto 120 d_Points_isBefore_116 (by decide) ?_
    refine pw_zreturn d_Points_isBefore_120 rfl (by decide) (by decide) (by decide) ?_
    exact ⟨by rw [if_pos (by grind [zlt, zle, zcmp])], rfl⟩
  · refine pw_iload_n d_Points_isBefore_96 rfl rfl ?_
    refine pw_if_ne 119 d_Points_isBefore_97 (by decide) (fun q_2 => ?_) (fun q_2 => ?_)
    · refine pw_iconst (x := 0) d_Points_isBefore_119 (by decide) ?_
      refine pw_zreturn d_Points_isBefore_120 rfl (by decide) (by decide) (by decide) ?_
      exact ⟨by rw [if_neg (by grind [zlt, zle, zcmp])], rfl⟩
    · refine pw_iload d_Points_isBefore_100 rfl ?_
      refine pw_if_lt 115 d_Points_isBefore_102 (by decide) (fun q_3 => ?_) (fun q_3 => ?_)
      · refine pw_iconst (x := 1) d_Points_isBefore_115 (by decide) ?_
        refine pw_goto 120 d_Points_isBefore_116 (by decide) ?_
        refine pw_zreturn d_Points_isBefore_120 rfl (by decide) (by decide) (by decide) ?_
        exact ⟨by rw [if_pos (by grind [zlt, zle, zcmp])], rfl⟩
      · refine pw_iload d_Points_isBefore_105 rfl ?_
        refine pw_if_ne 119 d_Points_isBefore_107 (by decide) (fun q_4 => ?_) (fun q_4 => ?_)
        · refine pw_iconst (x := 0) d_Points_isBefore_119 (by decide) ?_
          refine pw_zreturn d_Points_isBefore_120 rfl (by decide) (by decide) (by decide) ?_
          exact ⟨by rw [if_neg (by grind [zlt, zle, zcmp])], rfl⟩
        · refine pw_iload d_Points_isBefore_110 rfl ?_
          refine pw_if_ge 119 d_Points_isBefore_112 (by decide) (fun q_5 => ?_) (fun q_5 => ?_)
          · refine pw_iconst (x := 0) d_Points_isBefore_119 (by decide) ?_
            refine pw_zreturn d_Points_isBefore_120 rfl (by decide) (by decide) (by decide) ?_
            exact ⟨by rw [if_neg (by grind [zlt, zle, zcmp])], rfl⟩
          · refine pw_iconst (x := 1) d_Points_isBefore_115 (by decide) ?_
            refine pw_goto 120 d_Points_isBefore_116 (by decide) ?_
            refine pw_zreturn d_Points_isBefore_120 rfl (by decide) (by decide) (by decide) ?_
            exact ⟨by rw [if_pos (by grind [zlt, zle, zcmp])], rfl⟩
/-- Euclid's steps on ints, at most n of them -/
def zgcd : Nat → Int32 → Int32 → Int32
  | 0, a, _ => a
  | n + 1, a, b => if b = 0 then a else zgcd n b (a - a / b * b)
set_option maxRecDepth 20000 in
set_option maxHeartbeats 2000000 in
theorem l_gcd {G : zG} {h : zH} {p r g : Int32} : ∀ (n i : Nat) (a b : Int32) (o5 : Option Value), 64 - i < n → i ≤ 64 → zgcd (64 - i) a b = g → PW G M_Rock_commonDivisor (zroom 0 0 0) true (fun r h' => r = .inl (some (.int g)) ∧ h' = h) 7 [some (.int p), some (.int r), some (.int a), some (.int b), some (.int (nI i)), o5] [] h 0 0 := by
  intro n
  induction n with
  | zero => intro i a b o5 hn; exact absurd hn (Nat.not_lt_zero _)
  | succ n ih =>
    intro i a b o5 hn hi hv
    refine pw_iload d_Rock_commonDivisor_7 rfl ?_
    refine pw_bipush (x := 64) d_Rock_commonDivisor_9 (by decide) ?_
    refine pw_icmp_ge 34 d_Rock_commonDivisor_11 (by decide) (fun q_c => ?_) (fun q_c => ?_)
    · have hfin : zgcd (64 - i) a b = a := by
        first
        | (have hic : i = 64 := by have := (nI_leI (a := 64) (b := i) (by decide) (by omega)).mp q_c; omega
           subst hic; rfl)
        | (cases hk : 64 - i with
           | zero => rfl
           | succ k => simp only [zgcd]; rw [if_pos q_b])
      refine pw_iload_n d_Rock_commonDivisor_34 rfl rfl ?_
      refine pw_ireturn d_Rock_commonDivisor_35 rfl (by decide) (by decide) ?_
      exact ⟨by rw [← hv, hfin], rfl⟩
    · have hic : i < 64 := by have := mt (nI_leI (a := 64) (b := i) (by decide) (by omega)).mpr q_c; omega
      refine pw_iload_n d_Rock_commonDivisor_14 rfl rfl ?_
      refine pw_if_eq 34 d_Rock_commonDivisor_15 (by decide) (fun q_b => ?_) (fun q_b => ?_)
      · have hfin : zgcd (64 - i) a b = a := by
          first
          | (have hic : i = 64 := by have := (nI_leI (a := 64) (b := i) (by decide) (by omega)).mp q_c; omega
             subst hic; rfl)
          | (cases hk : 64 - i with
             | zero => rfl
             | succ k => simp only [zgcd]; rw [if_pos q_b])
        refine pw_iload_n d_Rock_commonDivisor_34 rfl rfl ?_
        refine pw_ireturn d_Rock_commonDivisor_35 rfl (by decide) (by decide) ?_
        exact ⟨by rw [← hv, hfin], rfl⟩
      · refine pw_iload_n d_Rock_commonDivisor_18 rfl rfl ?_
        refine pw_iload_n d_Rock_commonDivisor_19 rfl rfl ?_
        refine pw_irem d_Rock_commonDivisor_20 q_b ?_
        refine pw_istore d_Rock_commonDivisor_21 (by decide) (pl' := [some (.int (p)), some (.int (r)), some (.int (a)), some (.int (b)), some (.int (nI i)), some (.int ((a - a / b * b)))]) rfl ?_
        refine pw_iload_n d_Rock_commonDivisor_23 rfl rfl ?_
        refine pw_istore_n d_Rock_commonDivisor_24 rfl (by decide) (pl' := [some (.int (p)), some (.int (r)), some (.int (b)), some (.int (b)), some (.int (nI i)), some (.int ((a - a / b * b)))]) rfl ?_
        refine pw_iload d_Rock_commonDivisor_25 rfl ?_
        refine pw_istore_n d_Rock_commonDivisor_27 rfl (by decide) (pl' := [some (.int (p)), some (.int (r)), some (.int (b)), some (.int ((a - a / b * b))), some (.int (nI i)), some (.int ((a - a / b * b)))]) rfl ?_
        refine pw_iinc (y := nI (i + 1)) d_Rock_commonDivisor_28 rfl (nI_1 i) (by decide) (pl' := [some (.int (p)), some (.int (r)), some (.int (b)), some (.int ((a - a / b * b))), some (.int (nI (i + 1))), some (.int ((a - a / b * b)))]) rfl ?_
        refine pw_goto 7 d_Rock_commonDivisor_31 (by decide) ?_
        refine ih (i + 1) _ _ _ (by omega) (by omega) ?_
        rw [← hv]
        have hk : 64 - i = (64 - (i + 1)) + 1 := by omega
        rw [hk]
        simp only [zgcd]
        rw [if_neg q_b]
set_option maxRecDepth 20000 in
set_option maxHeartbeats 2000000 in
theorem c_commonDivisor {G : zG} {h : zH} {p r g : Int32} (hg : zgcd 64 p r = g) : PW G M_Rock_commonDivisor (zroom 0 0 0) true (fun r h' => r = .inl (some (.int g)) ∧ h' = h) 0 (zentry 6 [.int (p), .int (r)]) [] h 0 0 := by
  show PW G M_Rock_commonDivisor (zroom 0 0 0) true _ 0 [some (.int (p)), some (.int (r)), none, none, none, none] [] h 0 0
  refine pw_iload_n d_Rock_commonDivisor_0 rfl rfl ?_
  refine pw_istore_n d_Rock_commonDivisor_1 rfl (by decide) (pl' := [some (.int (p)), some (.int (r)), some (.int (p)), none, none, none]) rfl ?_
  refine pw_iload_n d_Rock_commonDivisor_2 rfl rfl ?_
  refine pw_istore_n d_Rock_commonDivisor_3 rfl (by decide) (pl' := [some (.int (p)), some (.int (r)), some (.int (p)), some (.int (r)), none, none]) rfl ?_
  refine pw_iconst (x := 0) d_Rock_commonDivisor_4 (by decide) ?_
  refine pw_istore d_Rock_commonDivisor_5 (by decide) (pl' := [some (.int (p)), some (.int (r)), some (.int (p)), some (.int (r)), some (.int (0)), none]) rfl ?_
  exact l_gcd 65 0 _ _ _ (by decide) (by decide) hg
/-- the first i places masked -/
def zmk (i : Nat) (m : Int32) (a : Nat → Int32) : Nat → Int32 := fun p => if p < i then a p &&& m else a p
theorem zmk_0 {m : Int32} {a : Nat → Int32} : zmk 0 m a = a := by funext p; simp [zmk]
theorem zmk_s {i : Nat} {m : Int32} {a : Nat → Int32} : upd (zmk i m a) i (zmk i m a i &&& m) = zmk (i + 1) m a := by
  funext p
  simp only [upd, zmk]
  by_cases h : p = i
  · subst h; simp
  · by_cases h2 : p < i
    · simp [h, h2, Nat.lt_succ_of_lt h2]
    · have h3 : ¬ p < i + 1 := by omega
      simp [h, h2, h3]
set_option maxRecDepth 20000 in
set_option maxHeartbeats 2000000 in
theorem l_dropFace {G : zG} {h0 : zH} {c : Nat} {x y z q a b : Nat → Int32} {f : Int32} {Q : zO → zH → Prop} (hc : c ≤ 220) (K : ∀ h', zPt h' c x y z q (zmk c ((1 <<< (f &&& 31)) ^^^ -1) a) (zmk c ((1 <<< (f &&& 31)) ^^^ -1) b) → zsm [36, 37, 38, 39, 40, 41, 42] h0 h' → Q (.inl none) h') : ∀ (n i : Nat) (h : zH), c - i < n → i ≤ c → zPt h c x y z q (zmk i ((1 <<< (f &&& 31)) ^^^ -1) a) (zmk i ((1 <<< (f &&& 31)) ^^^ -1) b) → zsm [36, 37, 38, 39, 40, 41, 42] h0 h → PW G M_Points_dropFace (zroom 0 0 0) false Q 7 [some (.ref 36), some (.int f), some (.int (nI c)), some (.int (nI i))] [] h 0 0 := by
  intro n
  induction n with
  | zero => intro i h hn; exact absurd hn (Nat.not_lt_zero _)
  | succ n ih =>
    intro i h hn hi hp hz
    refine pw_iload_n d_Points_dropFace_7 rfl rfl ?_
    refine pw_aload_n d_Points_dropFace_8 rfl rfl ?_
    refine pw_get d_Points_dropFace_9 fl_Points_28 hp.1 rfl ?_
    refine pw_icmp_ge 49 d_Points_dropFace_12 (by decide) (fun q_c => ?_) (fun q_c => ?_)
    · refine pw_return d_Points_dropFace_49 rfl (by decide) (by decide) ?_
      have hic : i = c := by have := (nI_leI (a := c) (b := i) (by omega) (by omega)).mp q_c; omega
      subst hic
      exact K _ hp hz
    · have hic : i < c := by have := mt (nI_leI (a := c) (b := i) (by omega) (by omega)).mpr q_c; omega
      refine pw_aload_n d_Points_dropFace_15 rfl rfl ?_
      refine pw_get d_Points_dropFace_16 fl_Points_22 hp.1 rfl ?_
      refine pw_iload_n d_Points_dropFace_19 rfl rfl ?_
      refine pw_dup2 d_Points_dropFace_20 rfl rfl ?_
      refine pw_iald d_Points_dropFace_21 hp.2.2.2.2.2.1 rfl rfl (by omega) (by decide) ?_
      refine pw_iconst (x := 1) d_Points_dropFace_22 (by decide) ?_
      refine pw_iload_n d_Points_dropFace_23 rfl rfl ?_
      refine pw_ishl d_Points_dropFace_24 ?_
      refine pw_iconst (x := (-1)) d_Points_dropFace_25 (by decide) ?_
      refine pw_ixor d_Points_dropFace_26 ?_
      refine pw_iand d_Points_dropFace_27 ?_
      obtain ⟨h_1, eh_1⟩ : ∃ x_9, x_9 = List.set h (41) (.inl (0, 220, .inl (upd (zmk i ((1 <<< (f &&& 31)) ^^^ -1) a) i (((zmk i ((1 <<< (f &&& 31)) ^^^ -1) a) i &&& ((1 <<< ((f) &&& 31)) ^^^ (-1))))))) := ⟨_, rfl⟩
      refine pw_iast rfl d_Points_dropFace_28 hp.2.2.2.2.2.1 rfl rfl (by omega) (by decide) eh_1.symm ?_
      refine pw_aload_n d_Points_dropFace_29 rfl rfl ?_
      refine pw_get d_Points_dropFace_30 fl_Points_25 (zg_ne eh_1 (by decide) hp.1) rfl ?_
      refine pw_iload_n d_Points_dropFace_33 rfl rfl ?_
      refine pw_dup2 d_Points_dropFace_34 rfl rfl ?_
      refine pw_iald d_Points_dropFace_35 (zg_ne eh_1 (by decide) hp.2.2.2.2.2.2) rfl rfl (by omega) (by decide) ?_
      refine pw_iconst (x := 1) d_Points_dropFace_36 (by decide) ?_
      refine pw_iload_n d_Points_dropFace_37 rfl rfl ?_
      refine pw_ishl d_Points_dropFace_38 ?_
      refine pw_iconst (x := (-1)) d_Points_dropFace_39 (by decide) ?_
      refine pw_ixor d_Points_dropFace_40 ?_
      refine pw_iand d_Points_dropFace_41 ?_
      obtain ⟨h_2, eh_2⟩ : ∃ x_9, x_9 = List.set h_1 (42) (.inl (0, 220, .inl (upd (zmk i ((1 <<< (f &&& 31)) ^^^ -1) b) i (((zmk i ((1 <<< (f &&& 31)) ^^^ -1) b) i &&& ((1 <<< ((f) &&& 31)) ^^^ (-1))))))) := ⟨_, rfl⟩
      refine pw_iast rfl d_Points_dropFace_42 (zg_ne eh_1 (by decide) hp.2.2.2.2.2.2) rfl rfl (by omega) (by decide) eh_2.symm ?_
      refine pw_iinc (y := nI (i + 1)) d_Points_dropFace_43 rfl (nI_1 i) (by decide) (pl' := [some (.ref 36), some (.int (f)), some (.int (nI c)), some (.int (nI (i + 1)))]) rfl ?_
      refine pw_goto 7 d_Points_dropFace_46 (by decide) ?_
      refine ih (i + 1) _ (by omega) (by omega) ⟨(zg_ne eh_2 (by decide) (zg_ne eh_1 (by decide) hp.1)), (zg_ne eh_2 (by decide) (zg_ne eh_1 (by decide) hp.2.1)), (zg_ne eh_2 (by decide) (zg_ne eh_1 (by decide) hp.2.2.1)), (zg_ne eh_2 (by decide) (zg_ne eh_1 (by decide) hp.2.2.2.1)), (zg_ne eh_2 (by decide) (zg_ne eh_1 (by decide) hp.2.2.2.2.1)), (by rw [← zmk_s]; exact (zg_ne eh_2 (by decide) (zg_eq eh_1 hp.2.2.2.2.2.1))), (by rw [← zmk_s]; exact (zg_eq eh_2 (zg_ne eh_1 (by decide) hp.2.2.2.2.2.2)))⟩ (zsm_tr hz (zsm_st (zsm_st zsm_rf eh_1 (by decide)) eh_2 (by decide)) (fun _ h => h))
set_option maxRecDepth 20000 in
set_option maxHeartbeats 2000000 in
theorem c_dropFace {G : zG} {h : zH} {c : Nat} {x y z q a b : Nat → Int32} (hp : zPt h c x y z q a b) {f : Int32} {c2 : Nat} (hc : c2 ≤ 220) : PW G M_Points_dropFace (zroom 0 0 0) false (fun r h' => r = .inl none ∧ zPt h' c2 x y z q (zmk c2 ((1 <<< (f &&& 31)) ^^^ -1) a) (zmk c2 ((1 <<< (f &&& 31)) ^^^ -1) b) ∧ zsm [36, 37, 38, 39, 40, 41, 42] h h') 0 (zentry 4 [.ref 36, .int (f), .int (nI c2)]) [] h 0 0 := by
  show PW G M_Points_dropFace (zroom 0 0 0) false _ 0 [some (.ref 36), some (.int (f)), some (.int (nI c2)), none] [] h 0 0
  refine pw_aload_n d_Points_dropFace_0 rfl rfl ?_
  refine pw_iload_n d_Points_dropFace_1 rfl rfl ?_
  obtain ⟨h_1, eh_1⟩ : ∃ x_9, x_9 = List.set h (36) (.inr (3, [.ref 37, .ref 38, .ref 39, .ref 40, .ref 41, .ref 42, .int (nI c2)])) := ⟨_, rfl⟩
  refine pw_put rfl d_Points_dropFace_2 (fp_Points_28 _ _) hp.1 (Nat.le_of_ble_eq_true rfl) (fun _ => ⟨rfl, rfl⟩) eh_1.symm ?_
  refine pw_iconst (x := 0) d_Points_dropFace_5 (by decide) ?_
  refine pw_istore_n d_Points_dropFace_6 rfl (by decide) (pl' := [some (.ref 36), some (.int (f)), some (.int (nI c2)), some (.int (0))]) rfl ?_
  refine l_dropFace hc (fun h' h1 h2 => ⟨rfl, h1, h2⟩) (c2 + 1) 0 _ (by omega) (by omega) ?_ (zsm_st zsm_rf eh_1 (by decide))
  rw [zmk_0, zmk_0]
  exact ⟨(zg_eq eh_1 hp.1), (zg_ne eh_1 (by decide) hp.2.1), (zg_ne eh_1 (by decide) hp.2.2.1), (zg_ne eh_1 (by decide) hp.2.2.2.1), (zg_ne eh_1 (by decide) hp.2.2.2.2.1), (zg_ne eh_1 (by decide) hp.2.2.2.2.2.1), (zg_ne eh_1 (by decide) hp.2.2.2.2.2.2)⟩
