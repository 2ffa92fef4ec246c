/-- a plane put in -/
def zml (ml : Nat → Int32) (jn : Nat) (a b c d : Int32) : Nat → Int32 := upd (upd (upd (upd ml (4 * jn) a) (4 * jn + 1) b) (4 * jn + 2) c) (4 * jn + 3) d
theorem zml_A {ml : Nat → Int32} {jn : Nat} {a b c d : Int32} (f : Nat) : mA (zml ml jn a b c d) f = (if f = jn then a else mA ml f) ∧ mB (zml ml jn a b c d) f = (if f = jn then b else mB ml f) ∧ mC (zml ml jn a b c d) f = (if f = jn then c else mC ml f) ∧ mD (zml ml jn a b c d) f = (if f = jn then d else mD ml f) := by
  simp only [mA, mB, mC, mD, zml, upd]
  by_cases h : f = jn
  · subst h
    simp
  · have h0 : ¬ 4 * f = 4 * jn := by omega
    have h1 : ¬ 4 * f = 4 * jn + 1 := by omega
    have h2 : ¬ 4 * f = 4 * jn + 2 := by omega
    have h3 : ¬ 4 * f = 4 * jn + 3 := by omega
    have h4 : ¬ 4 * f + 1 = 4 * jn := by omega
    have h5 : ¬ 4 * f + 1 = 4 * jn + 2 := by omega
    have h6 : ¬ 4 * f + 1 = 4 * jn + 3 := by omega
    have h7 : ¬ 4 * f + 2 = 4 * jn := by omega
    have h8 : ¬ 4 * f + 2 = 4 * jn + 1 := by omega
    have h9 : ¬ 4 * f + 2 = 4 * jn + 3 := by omega
    have g1 : ¬ 4 * f + 3 = 4 * jn := by omega
    have g2 : ¬ 4 * f + 3 = 4 * jn + 1 := by omega
    have g3 : ¬ 4 * f + 3 = 4 * jn + 2 := by omega
    simp [h, h0, h1, h2, h3, h4, h5, h6, h7, h8, h9, g1, g2, g3]
theorem zpb_ml {ml : Nat → Int32} {jn : Nat} {a b c d : Int32} (hb : zpb (mA ml) (mB ml) (mC ml) (mD ml)) (h : ((-6 ≤ a ∧ a ≤ 6) ∧ (-6 ≤ b ∧ b ≤ 6) ∧ (-6 ≤ c ∧ c ≤ 6) ∧ (-100 ≤ d ∧ d ≤ 100) ∧ ¬ (a = 0 ∧ b = 0 ∧ c = 0))) : zpb (mA (zml ml jn a b c d)) (mB (zml ml jn a b c d)) (mC (zml ml jn a b c d)) (mD (zml ml jn a b c d)) := by
  intro g hg
  obtain ⟨e1, e2, e3, e4⟩ := zml_A (ml := ml) (jn := jn) (a := a) (b := b) (c := c) (d := d) g
  rw [e1, e2, e3, e4]
  obtain ⟨⟨a1, a2⟩, ⟨b1, b2⟩, ⟨c1, c2⟩, ⟨d1, d2⟩, -⟩ := h
  rw [Int32.le_iff_toInt_le] at a1 a2 b1 b2 c1 c2 d1 d2
  have i1 : (-6 : Int32).toInt = -6 := by decide
  have i2 : (6 : Int32).toInt = 6 := by decide
  have i3 : (-100 : Int32).toInt = -100 := by decide
  have i4 : (100 : Int32).toInt = 100 := by decide
  split
  · exact ⟨zbd_self (by omega) (by omega), zbd_self (by omega) (by omega), zbd_self (by omega) (by omega), zbd_self (by omega) (by omega)⟩
  · exact hb g hg
theorem zsm_mp {S : List Nat} {h h' : zH} (hz : zsm S h h') (hS : ∀ j, j ∈ S → j ∈ zMP) : zsm zMP h h' := zsm_tr zsm_rf hz hS
theorem znz {n : Nat} (h0 : 0 < n) (h : n < 2 ^ 31) : ¬ nI n = 0 := fun e => by have := nI_toInt h; rw [e] at this; have e0 : (0 : Int32).toInt = 0 := (by decide); omega
theorem zCP_mp : ∀ j, j ∈ zCP → j ∈ zMP := by decide
set_option maxRecDepth 20000 in
set_option maxHeartbeats 2000000 in
theorem p_joint {G : zG} {h : zH} {th : Int32} {jn dr pn bl tn : Nat} {ms ml mo mT mp pt po pa pw bs bf tk tB tY : Nat → Int32} (hA : rAll h th jn dr pn bl tn ms ml mo mT mp pt po pa pw bs bf tk tB tY) {a b c d : Int32} (hjn : jn ≤ 6) (hb : zpb (mA ml) (mB ml) (mC ml) (mD ml)) (hs : ∀ c, c < 3 → zsz (ms c)) : PW G M_Md_joint (zroom 4 0 0) false (fun r h' => ∃ t : Int32, r = .inl (some (.int t)) ∧ zsm zMP h h' ∧ ((¬ (((-6 ≤ a ∧ a ≤ 6) ∧ (-6 ≤ b ∧ b ≤ 6) ∧ (-6 ≤ c ∧ c ≤ 6) ∧ (-100 ≤ d ∧ d ≤ 100) ∧ ¬ (a = 0 ∧ b = 0 ∧ c = 0)) ∧ (zlo (zwk a b c ms) 3 < d ∧ d < zhi (zwk a b c ms) 3) ∧ ∀ j, j < jn → ¬ (a * ml (4 * j + 1) = b * ml (4 * j) ∧ a * ml (4 * j + 2) = c * ml (4 * j) ∧ b * ml (4 * j + 2) = c * ml (4 * j + 1) ∧ a * ml (4 * j + 3) = d * ml (4 * j) ∧ b * ml (4 * j + 3) = d * ml (4 * j + 1) ∧ c * ml (4 * j + 3) = d * ml (4 * j + 2))) ∧ rAll h' 1 jn dr pn bl tn ms ml mo mT mp pt po pa pw bs bf tk tB tY) ∨ ((((-6 ≤ a ∧ a ≤ 6) ∧ (-6 ≤ b ∧ b ≤ 6) ∧ (-6 ≤ c ∧ c ≤ 6) ∧ (-100 ≤ d ∧ d ≤ 100) ∧ ¬ (a = 0 ∧ b = 0 ∧ c = 0)) ∧ (zlo (zwk a b c ms) 3 < d ∧ d < zhi (zwk a b c ms) 3) ∧ ∀ j, j < jn → ¬ (a * ml (4 * j + 1) = b * ml (4 * j) ∧ a * ml (4 * j + 2) = c * ml (4 * j) ∧ b * ml (4 * j + 2) = c * ml (4 * j + 1) ∧ a * ml (4 * j + 3) = d * ml (4 * j) ∧ b * ml (4 * j + 3) = d * ml (4 * j + 1) ∧ c * ml (4 * j + 3) = d * ml (4 * j + 2))) ∧ jn = 6 ∧ rAll h' 2 jn dr pn bl tn ms ml mo mT mp pt po pa pw bs bf tk tB tY) ∨ ((((-6 ≤ a ∧ a ≤ 6) ∧ (-6 ≤ b ∧ b ≤ 6) ∧ (-6 ≤ c ∧ c ≤ 6) ∧ (-100 ≤ d ∧ d ≤ 100) ∧ ¬ (a = 0 ∧ b = 0 ∧ c = 0)) ∧ (zlo (zwk a b c ms) 3 < d ∧ d < zhi (zwk a b c ms) 3) ∧ ∀ j, j < jn → ¬ (a * ml (4 * j + 1) = b * ml (4 * j) ∧ a * ml (4 * j + 2) = c * ml (4 * j) ∧ b * ml (4 * j + 2) = c * ml (4 * j + 1) ∧ a * ml (4 * j + 3) = d * ml (4 * j) ∧ b * ml (4 * j + 3) = d * ml (4 * j + 1) ∧ c * ml (4 * j + 3) = d * ml (4 * j + 2))) ∧ jn < 6 ∧ t = nI jn ∧ ∃ pn9 bl9 pt9 po9 pa9 pw9 bs9 bf9 tk9, rAll h' 0 (jn + 1) dr pn9 bl9 0 ms (zml ml jn a b c d) mo mT mp pt9 po9 pa9 pw9 bs9 bf9 tk9 tB tY ∧ rCut (jn + 1) ms (zml ml jn a b c d) pn9 pt9 po9 pa9 pw9 bl9 bs9 bf9 tk9))) 0 (zentry 5 [.ref 84, .int (a), .int (b), .int (c), .int (d)]) [] h 0 0 := by
  show PW G M_Md_joint (zroom 4 0 0) false _ 0 [some (.ref 84), some (.int (a)), some (.int (b)), some (.int (c)), some (.int (d))] [] h 0 0
  obtain ⟨hm, h85, h86, h87, h88, h89, h90, h91, h92, h93, ⟨w94, h94⟩, h95, h96, h97, h98, h99, ⟨w100, h100⟩, ⟨w101, h101⟩, ⟨w102, h102⟩, ⟨w103, h103⟩⟩ := hA
  refine pw_aload_n d_Md_joint_0 rfl rfl ?_
  refine pw_aload_n d_Md_joint_1 rfl rfl ?_
  refine pw_iload_n d_Md_joint_2 rfl rfl ?_
  refine pw_iload_n d_Md_joint_3 rfl rfl ?_
  refine pw_iload_n d_Md_joint_4 rfl rfl ?_
  refine pw_iload d_Md_joint_5 rfl ?_
  refine pw_callVt (R' := (zroom 1 0 0)) [.int (a), .int (b), .int (c), .int (d)] (fun q => nomatch q) d_Md_joint_7 lk_Md_139 hm rfl rfl rfl (c_isRight hm h85 h86 hjn) (fun t ht => ?_)
  refine pw_if_ne 17 d_Md_joint_10 (by decide) (fun q_i => ?_) (fun q_i => ?_)
  · refine pw_aload_n d_Md_joint_17 rfl rfl ?_
    refine pw_get d_Md_joint_18 fl_Md_83 hm rfl ?_
    refine pw_bipush (x := 6) d_Md_joint_21 (by decide) ?_
    refine pw_icmp_ne 30 d_Md_joint_23 (by decide) (fun q_6 => ?_) (fun q_6 => ?_)
    · refine pw_iconst (x := 0) d_Md_joint_30 (by decide) ?_
      obtain ⟨h_1, eh_1⟩ : ∃ x_9, x_9 = List.set h (84) (.inr (6, [.int (0), .ref 85, .int (nI jn), .ref 86, .ref 87, .int (nI dr), .ref 88, .ref 89, .int (nI pn), .ref 90, .ref 91, .ref 92, .ref 93, .ref 94, .int (nI bl), .ref 95, .ref 96, .ref 97, .int (nI tn), .ref 98, .ref 99, .ref 100, .ref 101, .ref 102, .ref 103])) := ⟨_, rfl⟩
      refine pw_put rfl d_Md_joint_31 (fp_Md_75 _ _) hm (Nat.le_of_ble_eq_true rfl) (fun _ => ⟨rfl, rfl⟩) eh_1.symm ?_
      refine pw_aload_n d_Md_joint_34 rfl rfl ?_
      refine pw_get d_Md_joint_35 fl_Md_75 (zg_eq eh_1 hm) rfl ?_
      refine pw_if_le 43 d_Md_joint_38 (by decide) (fun q_t => ?_) (fun q_t => ?_)
      · have hj6 : jn < 6 := by have : ¬ jn = 6 := (fun e => q_6 (by rw [e]; rfl)); omega
        have hrr : (((-6 ≤ a ∧ a ≤ 6) ∧ (-6 ≤ b ∧ b ≤ 6) ∧ (-6 ≤ c ∧ c ≤ 6) ∧ (-100 ≤ d ∧ d ≤ 100) ∧ ¬ (a = 0 ∧ b = 0 ∧ c = 0)) ∧ (zlo (zwk a b c ms) 3 < d ∧ d < zhi (zwk a b c ms) 3) ∧ ∀ j, j < jn → ¬ (a * ml (4 * j + 1) = b * ml (4 * j) ∧ a * ml (4 * j + 2) = c * ml (4 * j) ∧ b * ml (4 * j + 2) = c * ml (4 * j + 1) ∧ a * ml (4 * j + 3) = d * ml (4 * j) ∧ b * ml (4 * j + 3) = d * ml (4 * j + 1) ∧ c * ml (4 * j + 3) = d * ml (4 * j + 2))) := by rcases ht with ⟨-, h1⟩ | ⟨e, -⟩; exact h1; exact absurd e q_i
        refine pw_aload_n d_Md_joint_43 rfl rfl ?_
        refine pw_get d_Md_joint_44 fl_Md_13 (zg_eq eh_1 hm) rfl ?_
        refine pw_iconst (x := 4) d_Md_joint_47 (by decide) ?_
        refine pw_aload_n d_Md_joint_48 rfl rfl ?_
        refine pw_get d_Md_joint_49 fl_Md_83 (zg_eq eh_1 hm) rfl ?_
        refine pw_imul d_Md_joint_52 ?_
        refine pw_iload_n d_Md_joint_53 rfl rfl ?_
        obtain ⟨h_2, eh_2⟩ : ∃ x_9, x_9 = List.set h_1 (86) (.inl (0, 48, .inl (upd ml (4 * jn) (a)))) := ⟨_, rfl⟩
        refine pw_iast rfl d_Md_joint_54 (zg_ne eh_1 (by decide) h86) rfl (n40 jn) (by omega) (by decide) eh_2.symm ?_
        refine pw_aload_n d_Md_joint_55 rfl rfl ?_
        refine pw_get d_Md_joint_56 fl_Md_13 (zg_ne eh_2 (by decide) (zg_eq eh_1 hm)) rfl ?_
        refine pw_iconst (x := 4) d_Md_joint_59 (by decide) ?_
        refine pw_aload_n d_Md_joint_60 rfl rfl ?_
        refine pw_get d_Md_joint_61 fl_Md_83 (zg_ne eh_2 (by decide) (zg_eq eh_1 hm)) rfl ?_
        refine pw_imul d_Md_joint_64 ?_
        refine pw_iconst (x := 1) d_Md_joint_65 (by decide) ?_
        refine pw_iadd d_Md_joint_66 ?_
        refine pw_iload_n d_Md_joint_67 rfl rfl ?_
        obtain ⟨h_3, eh_3⟩ : ∃ x_9, x_9 = List.set h_2 (86) (.inl (0, 48, .inl (upd (upd ml (4 * jn) (a)) (4 * jn + 1) (b)))) := ⟨_, rfl⟩
        refine pw_iast rfl d_Md_joint_68 (zg_eq eh_2 (zg_ne eh_1 (by decide) h86)) rfl (n4 jn 1) (by omega) (by decide) eh_3.symm ?_
        refine pw_aload_n d_Md_joint_69 rfl rfl ?_
        refine pw_get d_Md_joint_70 fl_Md_13 (zg_ne eh_3 (by decide) (zg_ne eh_2 (by decide) (zg_eq eh_1 hm))) rfl ?_
        refine pw_iconst (x := 4) d_Md_joint_73 (by decide) ?_
        refine pw_aload_n d_Md_joint_74 rfl rfl ?_
        refine pw_get d_Md_joint_75 fl_Md_83 (zg_ne eh_3 (by decide) (zg_ne eh_2 (by decide) (zg_eq eh_1 hm))) rfl ?_
        refine pw_imul d_Md_joint_78 ?_
        refine pw_iconst (x := 2) d_Md_joint_79 (by decide) ?_
        refine pw_iadd d_Md_joint_80 ?_
        refine pw_iload_n d_Md_joint_81 rfl rfl ?_
        obtain ⟨h_4, eh_4⟩ : ∃ x_9, x_9 = List.set h_3 (86) (.inl (0, 48, .inl (upd (upd (upd ml (4 * jn) (a)) (4 * jn + 1) (b)) (4 * jn + 2) (c)))) := ⟨_, rfl⟩
        refine pw_iast rfl d_Md_joint_82 (zg_eq eh_3 (zg_eq eh_2 (zg_ne eh_1 (by decide) h86))) rfl (n4 jn 2) (by omega) (by decide) eh_4.symm ?_
        refine pw_aload_n d_Md_joint_83 rfl rfl ?_
        refine pw_get d_Md_joint_84 fl_Md_13 (zg_ne eh_4 (by decide) (zg_ne eh_3 (by decide) (zg_ne eh_2 (by decide) (zg_eq eh_1 hm)))) rfl ?_
        refine pw_iconst (x := 4) d_Md_joint_87 (by decide) ?_
        refine pw_aload_n d_Md_joint_88 rfl rfl ?_
        refine pw_get d_Md_joint_89 fl_Md_83 (zg_ne eh_4 (by decide) (zg_ne eh_3 (by decide) (zg_ne eh_2 (by decide) (zg_eq eh_1 hm)))) rfl ?_
        refine pw_imul d_Md_joint_92 ?_
        refine pw_iconst (x := 3) d_Md_joint_93 (by decide) ?_
        refine pw_iadd d_Md_joint_94 ?_
        refine pw_iload d_Md_joint_95 rfl ?_
        obtain ⟨h_5, eh_5⟩ : ∃ x_9, x_9 = List.set h_4 (86) (.inl (0, 48, .inl (upd (upd (upd (upd ml (4 * jn) (a)) (4 * jn + 1) (b)) (4 * jn + 2) (c)) (4 * jn + 3) (d)))) := ⟨_, rfl⟩
        refine pw_iast rfl d_Md_joint_97 (zg_eq eh_4 (zg_eq eh_3 (zg_eq eh_2 (zg_ne eh_1 (by decide) h86)))) rfl (n4 jn 3) (by omega) (by decide) eh_5.symm ?_
        refine pw_aload_n d_Md_joint_98 rfl rfl ?_
        refine pw_dup d_Md_joint_99 rfl ?_
        refine pw_get d_Md_joint_100 fl_Md_83 (zg_ne eh_5 (by decide) (zg_ne eh_4 (by decide) (zg_ne eh_3 (by decide) (zg_ne eh_2 (by decide) (zg_eq eh_1 hm))))) rfl ?_
        refine pw_iconst (x := 1) d_Md_joint_103 (by decide) ?_
        refine pw_iadd d_Md_joint_104 ?_
        obtain ⟨h_6, eh_6⟩ : ∃ x_9, x_9 = List.set h_5 (84) (.inr (6, [.int (0), .ref 85, .int ((nI jn + 1)), .ref 86, .ref 87, .int (nI dr), .ref 88, .ref 89, .int (nI pn), .ref 90, .ref 91, .ref 92, .ref 93, .ref 94, .int (nI bl), .ref 95, .ref 96, .ref 97, .int (nI tn), .ref 98, .ref 99, .ref 100, .ref 101, .ref 102, .ref 103])) := ⟨_, rfl⟩
        refine pw_put rfl d_Md_joint_105 (fp_Md_83 _ _) (zg_ne eh_5 (by decide) (zg_ne eh_4 (by decide) (zg_ne eh_3 (by decide) (zg_ne eh_2 (by decide) (zg_eq eh_1 hm))))) (Nat.le_of_ble_eq_true rfl) (fun _ => ⟨rfl, rfl⟩) eh_6.symm ?_
        have h84n : zMo h_6 0 (jn + 1) dr pn bl tn := by unfold zMo; rw [← nI_1]; exact (zg_eq eh_6 (zg_ne eh_5 (by decide) (zg_ne eh_4 (by decide) (zg_ne eh_3 (by decide) (zg_ne eh_2 (by decide) (zg_eq eh_1 hm))))))
        have h86n : h_6[86]? = some (.inl (0, 48, .inl (zml ml jn a b c d))) := (zg_ne eh_6 (by decide) (zg_eq eh_5 (zg_eq eh_4 (zg_eq eh_3 (zg_eq eh_2 (zg_ne eh_1 (by decide) h86))))))
        refine pw_aload_n d_Md_joint_108 rfl rfl ?_
        refine pw_callVu (R' := (zroom 3 0 0)) [] (fun q => nomatch q) d_Md_joint_109 lk_Md_72 (zg_eq eh_6 (zg_ne eh_5 (by decide) (zg_ne eh_4 (by decide) (zg_ne eh_3 (by decide) (zg_ne eh_2 (by decide) (zg_eq eh_1 hm)))))) rfl rfl rfl (c_cut (jn := (jn + 1)) (ml := (zml ml jn a b c d)) (bl := bl) (tn := tn) ⟨h84n, (zg_ne eh_6 (by decide) (zg_ne eh_5 (by decide) (zg_ne eh_4 (by decide) (zg_ne eh_3 (by decide) (zg_ne eh_2 (by decide) (zg_ne eh_1 (by decide) h90)))))), (zg_ne eh_6 (by decide) (zg_ne eh_5 (by decide) (zg_ne eh_4 (by decide) (zg_ne eh_3 (by decide) (zg_ne eh_2 (by decide) (zg_ne eh_1 (by decide) h91)))))), (zg_ne eh_6 (by decide) (zg_ne eh_5 (by decide) (zg_ne eh_4 (by decide) (zg_ne eh_3 (by decide) (zg_ne eh_2 (by decide) (zg_ne eh_1 (by decide) h92)))))), (zg_ne eh_6 (by decide) (zg_ne eh_5 (by decide) (zg_ne eh_4 (by decide) (zg_ne eh_3 (by decide) (zg_ne eh_2 (by decide) (zg_ne eh_1 (by decide) h93)))))), ⟨_, (zg_ne eh_6 (by decide) (zg_ne eh_5 (by decide) (zg_ne eh_4 (by decide) (zg_ne eh_3 (by decide) (zg_ne eh_2 (by decide) (zg_ne eh_1 (by decide) h94))))))⟩, (zg_ne eh_6 (by decide) (zg_ne eh_5 (by decide) (zg_ne eh_4 (by decide) (zg_ne eh_3 (by decide) (zg_ne eh_2 (by decide) (zg_ne eh_1 (by decide) h95)))))), (zg_ne eh_6 (by decide) (zg_ne eh_5 (by decide) (zg_ne eh_4 (by decide) (zg_ne eh_3 (by decide) (zg_ne eh_2 (by decide) (zg_ne eh_1 (by decide) h96)))))), (zg_ne eh_6 (by decide) (zg_ne eh_5 (by decide) (zg_ne eh_4 (by decide) (zg_ne eh_3 (by decide) (zg_ne eh_2 (by decide) (zg_ne eh_1 (by decide) h97))))))⟩ (zg_ne eh_6 (by decide) (zg_ne eh_5 (by decide) (zg_ne eh_4 (by decide) (zg_ne eh_3 (by decide) (zg_ne eh_2 (by decide) (zg_ne eh_1 (by decide) h85)))))) h86n (show jn + 1 ≤ 6 by omega) (zpb_ml hb hrr.1) hs) (fun h9 hh => ?_)
        obtain ⟨pn9, pt9, po9, pa9, pw9, bl9, bs9, bf9, tk9, k1, k2, k3⟩ := hh
        refine pw_aload_n d_Md_joint_112 rfl rfl ?_
        refine pw_get d_Md_joint_113 fl_Md_83 k1.1 rfl ?_
        refine pw_iconst (x := 1) d_Md_joint_116 (by decide) ?_
        refine pw_isub d_Md_joint_117 ?_
        refine pw_ireturn d_Md_joint_118 rfl (by decide) (by decide) ?_
        refine ⟨_, rfl, (zsm_tr (zsm_st (zsm_st (zsm_st (zsm_st (zsm_st (zsm_st zsm_rf eh_1 (zMP_in (by decide) (by decide))) eh_2 (zMP_in (by decide) (by decide))) eh_3 (zMP_in (by decide) (by decide))) eh_4 (zMP_in (by decide) (by decide))) eh_5 (zMP_in (by decide) (by decide))) eh_6 (zMP_in (by decide) (by decide))) k2 zCP_mp), Or.inr (Or.inr ⟨hrr, hj6, nI_pred jn, pn9, bl9, pt9, po9, pa9, pw9, bs9, bf9, tk9, ⟨k1.1, (zsm_at k2 (by decide) (zg_ne eh_6 (by decide) (zg_ne eh_5 (by decide) (zg_ne eh_4 (by decide) (zg_ne eh_3 (by decide) (zg_ne eh_2 (by decide) (zg_ne eh_1 (by decide) h85))))))), (zsm_at k2 (by decide) h86n), (zsm_at k2 (by decide) (zg_ne eh_6 (by decide) (zg_ne eh_5 (by decide) (zg_ne eh_4 (by decide) (zg_ne eh_3 (by decide) (zg_ne eh_2 (by decide) (zg_ne eh_1 (by decide) h87))))))), (zsm_at k2 (by decide) (zg_ne eh_6 (by decide) (zg_ne eh_5 (by decide) (zg_ne eh_4 (by decide) (zg_ne eh_3 (by decide) (zg_ne eh_2 (by decide) (zg_ne eh_1 (by decide) h88))))))), (zsm_at k2 (by decide) (zg_ne eh_6 (by decide) (zg_ne eh_5 (by decide) (zg_ne eh_4 (by decide) (zg_ne eh_3 (by decide) (zg_ne eh_2 (by decide) (zg_ne eh_1 (by decide) h89))))))), k1.2.1, k1.2.2.1, k1.2.2.2.1, k1.2.2.2.2.1, k1.2.2.2.2.2.1, k1.2.2.2.2.2.2.1, k1.2.2.2.2.2.2.2.1, k1.2.2.2.2.2.2.2.2, (zsm_at k2 (by decide) (zg_ne eh_6 (by decide) (zg_ne eh_5 (by decide) (zg_ne eh_4 (by decide) (zg_ne eh_3 (by decide) (zg_ne eh_2 (by decide) (zg_ne eh_1 (by decide) h98))))))), (zsm_at k2 (by decide) (zg_ne eh_6 (by decide) (zg_ne eh_5 (by decide) (zg_ne eh_4 (by decide) (zg_ne eh_3 (by decide) (zg_ne eh_2 (by decide) (zg_ne eh_1 (by decide) h99))))))), ⟨_, (zsm_at k2 (by decide) (zg_ne eh_6 (by decide) (zg_ne eh_5 (by decide) (zg_ne eh_4 (by decide) (zg_ne eh_3 (by decide) (zg_ne eh_2 (by decide) (zg_ne eh_1 (by decide) h100)))))))⟩, ⟨_, (zsm_at k2 (by decide) (zg_ne eh_6 (by decide) (zg_ne eh_5 (by decide) (zg_ne eh_4 (by decide) (zg_ne eh_3 (by decide) (zg_ne eh_2 (by decide) (zg_ne eh_1 (by decide) h101)))))))⟩, ⟨_, (zsm_at k2 (by decide) (zg_ne eh_6 (by decide) (zg_ne eh_5 (by decide) (zg_ne eh_4 (by decide) (zg_ne eh_3 (by decide) (zg_ne eh_2 (by decide) (zg_ne eh_1 (by decide) h102)))))))⟩, ⟨_, (zsm_at k2 (by decide) (zg_ne eh_6 (by decide) (zg_ne eh_5 (by decide) (zg_ne eh_4 (by decide) (zg_ne eh_3 (by decide) (zg_ne eh_2 (by decide) (zg_ne eh_1 (by decide) h103)))))))⟩⟩, k3⟩)⟩
      · exact absurd (show (0 : Int32) ≤ 0 by decide) q_t
    · refine pw_iconst (x := 2) d_Md_joint_26 (by decide) ?_
      refine pw_goto 31 d_Md_joint_27 (by decide) ?_
      obtain ⟨h_7, eh_7⟩ : ∃ x_9, x_9 = List.set h (84) (.inr (6, [.int (2), .ref 85, .int (nI jn), .ref 86, .ref 87, .int (nI dr), .ref 88, .ref 89, .int (nI pn), .ref 90, .ref 91, .ref 92, .ref 93, .ref 94, .int (nI bl), .ref 95, .ref 96, .ref 97, .int (nI tn), .ref 98, .ref 99, .ref 100, .ref 101, .ref 102, .ref 103])) := ⟨_, rfl⟩
      refine pw_put rfl d_Md_joint_31 (fp_Md_75 _ _) hm (Nat.le_of_ble_eq_true rfl) (fun _ => ⟨rfl, rfl⟩) eh_7.symm ?_
      refine pw_aload_n d_Md_joint_34 rfl rfl ?_
      refine pw_get d_Md_joint_35 fl_Md_75 (zg_eq eh_7 hm) rfl ?_
      refine pw_if_le 43 d_Md_joint_38 (by decide) (fun q_t => ?_) (fun q_t => ?_)
      · exact absurd q_t (by decide)
      · refine pw_iconst (x := 0) d_Md_joint_41 (by decide) ?_
        refine pw_ireturn d_Md_joint_42 rfl (by decide) (by decide) ?_
        exact ⟨_, rfl, (zsm_st zsm_rf eh_7 (zMP_in (by decide) (by decide))), Or.inr (Or.inl ⟨by rcases ht with ⟨-, h1⟩ | ⟨e, -⟩; exact h1; exact absurd e q_i, (nI_eq (b := 6) (by omega) (by decide)).mp q_6, ⟨(zg_eq eh_7 hm), (zg_ne eh_7 (by decide) h85), (zg_ne eh_7 (by decide) h86), (zg_ne eh_7 (by decide) h87), (zg_ne eh_7 (by decide) h88), (zg_ne eh_7 (by decide) h89), (zg_ne eh_7 (by decide) h90), (zg_ne eh_7 (by decide) h91), (zg_ne eh_7 (by decide) h92), (zg_ne eh_7 (by decide) h93), ⟨_, (zg_ne eh_7 (by decide) h94)⟩, (zg_ne eh_7 (by decide) h95), (zg_ne eh_7 (by decide) h96), (zg_ne eh_7 (by decide) h97), (zg_ne eh_7 (by decide) h98), (zg_ne eh_7 (by decide) h99), ⟨_, (zg_ne eh_7 (by decide) h100)⟩, ⟨_, (zg_ne eh_7 (by decide) h101)⟩, ⟨_, (zg_ne eh_7 (by decide) h102)⟩, ⟨_, (zg_ne eh_7 (by decide) h103)⟩⟩⟩)⟩
  · refine pw_iconst (x := 1) d_Md_joint_13 (by decide) ?_
    refine pw_goto 31 d_Md_joint_14 (by decide) ?_
    obtain ⟨h_8, eh_8⟩ : ∃ x_9, x_9 = List.set h (84) (.inr (6, [.int (1), .ref 85, .int (nI jn), .ref 86, .ref 87, .int (nI dr), .ref 88, .ref 89, .int (nI pn), .ref 90, .ref 91, .ref 92, .ref 93, .ref 94, .int (nI bl), .ref 95, .ref 96, .ref 97, .int (nI tn), .ref 98, .ref 99, .ref 100, .ref 101, .ref 102, .ref 103])) := ⟨_, rfl⟩
    refine pw_put rfl d_Md_joint_31 (fp_Md_75 _ _) hm (Nat.le_of_ble_eq_true rfl) (fun _ => ⟨rfl, rfl⟩) eh_8.symm ?_
    refine pw_aload_n d_Md_joint_34 rfl rfl ?_
    refine pw_get d_Md_joint_35 fl_Md_75 (zg_eq eh_8 hm) rfl ?_
    refine pw_if_le 43 d_Md_joint_38 (by decide) (fun q_t => ?_) (fun q_t => ?_)
    · exact absurd q_t (by decide)
    · refine pw_iconst (x := 0) d_Md_joint_41 (by decide) ?_
      refine pw_ireturn d_Md_joint_42 rfl (by decide) (by decide) ?_
      exact ⟨_, rfl, (zsm_st zsm_rf eh_8 (zMP_in (by decide) (by decide))), Or.inl ⟨by rcases ht with ⟨e, -⟩ | ⟨-, h1⟩; exact absurd (e.symm.trans q_i) (by decide); exact h1, ⟨(zg_eq eh_8 hm), (zg_ne eh_8 (by decide) h85), (zg_ne eh_8 (by decide) h86), (zg_ne eh_8 (by decide) h87), (zg_ne eh_8 (by decide) h88), (zg_ne eh_8 (by decide) h89), (zg_ne eh_8 (by decide) h90), (zg_ne eh_8 (by decide) h91), (zg_ne eh_8 (by decide) h92), (zg_ne eh_8 (by decide) h93), ⟨_, (zg_ne eh_8 (by decide) h94)⟩, (zg_ne eh_8 (by decide) h95), (zg_ne eh_8 (by decide) h96), (zg_ne eh_8 (by decide) h97), (zg_ne eh_8 (by decide) h98), (zg_ne eh_8 (by decide) h99), ⟨_, (zg_ne eh_8 (by decide) h100)⟩, ⟨_, (zg_ne eh_8 (by decide) h101)⟩, ⟨_, (zg_ne eh_8 (by decide) h102)⟩, ⟨_, (zg_ne eh_8 (by decide) h103)⟩⟩⟩⟩
set_option maxRecDepth 20000 in
set_option maxHeartbeats 2000000 in
theorem p_unjoint0 {G : zG} {h : zH} {th : Int32} {jn dr pn bl tn : Nat} {ms ml mo mT mp pt po pa pw bs bf tk tB tY : Nat → Int32} (hA : rAll h th jn dr pn bl tn ms ml mo mT mp pt po pa pw bs bf tk tB tY) (h0 : jn = 0) : PW G M_Md_unjoint (zroom 0 0 0) false (fun r h' => ∃ t : Int32, r = .inl (some (.int t)) ∧ zsm zMP h h' ∧ t = -1 ∧ rAll h' 0 jn dr pn bl tn ms ml mo mT mp pt po pa pw bs bf tk tB tY) 0 (zentry 1 [.ref 84]) [] h 0 0 := by
  show PW G M_Md_unjoint (zroom 0 0 0) false _ 0 [some (.ref 84)] [] h 0 0
  obtain ⟨hm, h85, h86, h87, h88, h89, h90, h91, h92, h93, ⟨w94, h94⟩, h95, h96, h97, h98, h99, ⟨w100, h100⟩, ⟨w101, h101⟩, ⟨w102, h102⟩, ⟨w103, h103⟩⟩ := hA
  refine pw_aload_n d_Md_unjoint_0 rfl rfl ?_
  refine pw_iconst (x := 0) d_Md_unjoint_1 (by decide) ?_
  obtain ⟨h_1, eh_1⟩ : ∃ x_9, x_9 = List.set h (84) (.inr (6, [.int (0), .ref 85, .int (nI jn), .ref 86, .ref 87, .int (nI dr), .ref 88, .ref 89, .int (nI pn), .ref 90, .ref 91, .ref 92, .ref 93, .ref 94, .int (nI bl), .ref 95, .ref 96, .ref 97, .int (nI tn), .ref 98, .ref 99, .ref 100, .ref 101, .ref 102, .ref 103])) := ⟨_, rfl⟩
  refine pw_put rfl d_Md_unjoint_2 (fp_Md_75 _ _) hm (Nat.le_of_ble_eq_true rfl) (fun _ => ⟨rfl, rfl⟩) eh_1.symm ?_
  refine pw_aload_n d_Md_unjoint_5 rfl rfl ?_
  refine pw_get d_Md_unjoint_6 fl_Md_83 (zg_eq eh_1 hm) rfl ?_
  refine pw_if_ne 14 d_Md_unjoint_9 (by decide) (fun q => absurd q (fun z => z (by rw [h0]; rfl))) (fun _ => ?_)
  refine pw_iconst (x := (-1)) d_Md_unjoint_12 (by decide) ?_
  refine pw_ireturn d_Md_unjoint_13 rfl (by decide) (by decide) ?_
  exact ⟨_, rfl, (zsm_st zsm_rf eh_1 (zMP_in (by decide) (by decide))), rfl, ⟨(zg_eq eh_1 hm), (zg_ne eh_1 (by decide) h85), (zg_ne eh_1 (by decide) h86), (zg_ne eh_1 (by decide) h87), (zg_ne eh_1 (by decide) h88), (zg_ne eh_1 (by decide) h89), (zg_ne eh_1 (by decide) h90), (zg_ne eh_1 (by decide) h91), (zg_ne eh_1 (by decide) h92), (zg_ne eh_1 (by decide) h93), ⟨_, (zg_ne eh_1 (by decide) h94)⟩, (zg_ne eh_1 (by decide) h95), (zg_ne eh_1 (by decide) h96), (zg_ne eh_1 (by decide) h97), (zg_ne eh_1 (by decide) h98), (zg_ne eh_1 (by decide) h99), ⟨_, (zg_ne eh_1 (by decide) h100)⟩, ⟨_, (zg_ne eh_1 (by decide) h101)⟩, ⟨_, (zg_ne eh_1 (by decide) h102)⟩, ⟨_, (zg_ne eh_1 (by decide) h103)⟩⟩⟩
set_option maxRecDepth 20000 in
set_option maxHeartbeats 2000000 in
theorem p_unjoint {G : zG} {h : zH} {th : Int32} {j dr pn bl tn : Nat} {ms ml mo mT mp pt po pa pw bs bf tk tB tY : Nat → Int32} (hA : rAll h th (j + 1) dr pn bl tn ms ml mo mT mp pt po pa pw bs bf tk tB tY) (hjn : j + 1 ≤ 6) (hb : zpb (mA ml) (mB ml) (mC ml) (mD ml)) (hs : ∀ c, c < 3 → zsz (ms c)) : PW G M_Md_unjoint (zroom 4 0 0) false (fun r h' => ∃ t : Int32, r = .inl (some (.int t)) ∧ zsm zMP h h' ∧ t = nI j ∧ ∃ pn9 bl9 pt9 po9 pa9 pw9 bs9 bf9 tk9, rAll h' 0 j dr pn9 bl9 0 ms ml mo mT mp pt9 po9 pa9 pw9 bs9 bf9 tk9 tB tY ∧ rCut j ms ml pn9 pt9 po9 pa9 pw9 bl9 bs9 bf9 tk9) 0 (zentry 1 [.ref 84]) [] h 0 0 := by
  show PW G M_Md_unjoint (zroom 4 0 0) false _ 0 [some (.ref 84)] [] h 0 0
  obtain ⟨hm, h85, h86, h87, h88, h89, h90, h91, h92, h93, ⟨w94, h94⟩, h95, h96, h97, h98, h99, ⟨w100, h100⟩, ⟨w101, h101⟩, ⟨w102, h102⟩, ⟨w103, h103⟩⟩ := hA
  refine pw_aload_n d_Md_unjoint_0 rfl rfl ?_
  refine pw_iconst (x := 0) d_Md_unjoint_1 (by decide) ?_
  obtain ⟨h_1, eh_1⟩ : ∃ x_9, x_9 = List.set h (84) (.inr (6, [.int (0), .ref 85, .int (nI (j + 1)), .ref 86, .ref 87, .int (nI dr), .ref 88, .ref 89, .int (nI pn), .ref 90, .ref 91, .ref 92, .ref 93, .ref 94, .int (nI bl), .ref 95, .ref 96, .ref 97, .int (nI tn), .ref 98, .ref 99, .ref 100, .ref 101, .ref 102, .ref 103])) := ⟨_, rfl⟩
  refine pw_put rfl d_Md_unjoint_2 (fp_Md_75 _ _) hm (Nat.le_of_ble_eq_true rfl) (fun _ => ⟨rfl, rfl⟩) eh_1.symm ?_
  refine pw_aload_n d_Md_unjoint_5 rfl rfl ?_
  refine pw_get d_Md_unjoint_6 fl_Md_83 (zg_eq eh_1 hm) rfl ?_
  refine pw_if_ne 14 d_Md_unjoint_9 (by decide) (fun _ => ?_) (fun q => absurd (fun z => absurd z (znz (by omega) (by omega))) (fun z => z q))
  refine pw_aload_n d_Md_unjoint_14 rfl rfl ?_
  refine pw_dup d_Md_unjoint_15 rfl ?_
  refine pw_get d_Md_unjoint_16 fl_Md_83 (zg_eq eh_1 hm) rfl ?_
  refine pw_iconst (x := 1) d_Md_unjoint_19 (by decide) ?_
  refine pw_isub d_Md_unjoint_20 ?_
  obtain ⟨h_2, eh_2⟩ : ∃ x_9, x_9 = List.set h_1 (84) (.inr (6, [.int (0), .ref 85, .int ((nI (j + 1) - 1)), .ref 86, .ref 87, .int (nI dr), .ref 88, .ref 89, .int (nI pn), .ref 90, .ref 91, .ref 92, .ref 93, .ref 94, .int (nI bl), .ref 95, .ref 96, .ref 97, .int (nI tn), .ref 98, .ref 99, .ref 100, .ref 101, .ref 102, .ref 103])) := ⟨_, rfl⟩
  refine pw_put rfl d_Md_unjoint_21 (fp_Md_83 _ _) (zg_eq eh_1 hm) (Nat.le_of_ble_eq_true rfl) (fun _ => ⟨rfl, rfl⟩) eh_2.symm ?_
  have h84n : zMo h_2 0 j dr pn bl tn := by unfold zMo; rw [← nI_pred j]; exact (zg_eq eh_2 (zg_eq eh_1 hm))
  have h86n : h_2[86]? = some (.inl (0, 48, .inl ml)) := (zg_ne eh_2 (by decide) (zg_ne eh_1 (by decide) h86))
  refine pw_aload_n d_Md_unjoint_24 rfl rfl ?_
  refine pw_callVu (R' := (zroom 3 0 0)) [] (fun q => nomatch q) d_Md_unjoint_25 lk_Md_72 (zg_eq eh_2 (zg_eq eh_1 hm)) rfl rfl rfl (c_cut (jn := j) (ml := ml) (bl := bl) (tn := tn) ⟨h84n, (zg_ne eh_2 (by decide) (zg_ne eh_1 (by decide) h90)), (zg_ne eh_2 (by decide) (zg_ne eh_1 (by decide) h91)), (zg_ne eh_2 (by decide) (zg_ne eh_1 (by decide) h92)), (zg_ne eh_2 (by decide) (zg_ne eh_1 (by decide) h93)), ⟨_, (zg_ne eh_2 (by decide) (zg_ne eh_1 (by decide) h94))⟩, (zg_ne eh_2 (by decide) (zg_ne eh_1 (by decide) h95)), (zg_ne eh_2 (by decide) (zg_ne eh_1 (by decide) h96)), (zg_ne eh_2 (by decide) (zg_ne eh_1 (by decide) h97))⟩ (zg_ne eh_2 (by decide) (zg_ne eh_1 (by decide) h85)) h86n (show j ≤ 6 by omega) hb hs) (fun h9 hh => ?_)
  obtain ⟨pn9, pt9, po9, pa9, pw9, bl9, bs9, bf9, tk9, k1, k2, k3⟩ := hh
  refine pw_aload_n d_Md_unjoint_28 rfl rfl ?_
  refine pw_get d_Md_unjoint_29 fl_Md_83 k1.1 rfl ?_
  refine pw_ireturn d_Md_unjoint_32 rfl (by decide) (by decide) ?_
  exact ⟨_, rfl, (zsm_tr (zsm_st (zsm_st zsm_rf eh_1 (zMP_in (by decide) (by decide))) eh_2 (zMP_in (by decide) (by decide))) k2 zCP_mp), rfl, pn9, bl9, pt9, po9, pa9, pw9, bs9, bf9, tk9, ⟨k1.1, (zsm_at k2 (by decide) (zg_ne eh_2 (by decide) (zg_ne eh_1 (by decide) h85))), (zsm_at k2 (by decide) h86n), (zsm_at k2 (by decide) (zg_ne eh_2 (by decide) (zg_ne eh_1 (by decide) h87))), (zsm_at k2 (by decide) (zg_ne eh_2 (by decide) (zg_ne eh_1 (by decide) h88))), (zsm_at k2 (by decide) (zg_ne eh_2 (by decide) (zg_ne eh_1 (by decide) h89))), k1.2.1, k1.2.2.1, k1.2.2.2.1, k1.2.2.2.2.1, k1.2.2.2.2.2.1, k1.2.2.2.2.2.2.1, k1.2.2.2.2.2.2.2.1, k1.2.2.2.2.2.2.2.2, (zsm_at k2 (by decide) (zg_ne eh_2 (by decide) (zg_ne eh_1 (by decide) h98))), (zsm_at k2 (by decide) (zg_ne eh_2 (by decide) (zg_ne eh_1 (by decide) h99))), ⟨_, (zsm_at k2 (by decide) (zg_ne eh_2 (by decide) (zg_ne eh_1 (by decide) h100)))⟩, ⟨_, (zsm_at k2 (by decide) (zg_ne eh_2 (by decide) (zg_ne eh_1 (by decide) h101)))⟩, ⟨_, (zsm_at k2 (by decide) (zg_ne eh_2 (by decide) (zg_ne eh_1 (by decide) h102)))⟩, ⟨_, (zsm_at k2 (by decide) (zg_ne eh_2 (by decide) (zg_ne eh_1 (by decide) h103)))⟩⟩, k3⟩
