/-- all rows of the reference -/
def rAll (h : zH) (th : Int32) (jn dr pn bl tn : Nat) (ms ml mo mT mp pt po pa pw bs bf tk tB tY : Nat → Int32) : Prop := zMo h th jn dr pn bl tn ∧ h[85]? = some (.inl (0, 3, .inl ms)) ∧ h[86]? = some (.inl (0, 48, .inl ml)) ∧ h[87]? = some (.inl (1, 12, .inl mo)) ∧ h[88]? = some (.inl (0, 24, .inl mT)) ∧ h[89]? = some (.inl (0, 3, .inl mp)) ∧ h[90]? = some (.inl (0, 880, .inl pt)) ∧ h[91]? = some (.inl (0, 220, .inl po)) ∧ h[92]? = some (.inl (0, 220, .inl pa)) ∧ h[93]? = some (.inl (0, 220, .inl pw)) ∧ (∃ v, h[94]? = some (.inl (0, 4, .inl v))) ∧ h[95]? = some (.inl (0, 64, .inl bs)) ∧ h[96]? = some (.inl (0, 64, .inl bf)) ∧ h[97]? = some (.inl (1, 64, .inl tk)) ∧ h[98]? = some (.inl (0, 64, .inl tB)) ∧ h[99]? = some (.inl (0, 64, .inl tY)) ∧ (∃ v, h[100]? = some (.inl (0, 3, .inl v))) ∧ (∃ v, h[101]? = some (.inl (0, 3, .inl v))) ∧ (∃ v, h[102]? = some (.inl (0, 3, .inl v))) ∧ (∃ v, h[103]? = some (.inl (0, 3, .inl v)))
/-- its places -/
def zMP : List Nat := List.range' 84 20
theorem zMP_in {j : Nat} (h1 : 84 ≤ j) (h2 : j < 104) : j ∈ zMP := List.mem_range'_1.mpr (by omega)
theorem zMP_no {j : Nat} (h : j < 84 ∨ 104 ≤ j) : j ∉ zMP := fun hm => by have := List.mem_range'_1.mp hm; omega
set_option maxRecDepth 20000 in
set_option maxHeartbeats 2000000 in
theorem p_blocks {G : zG} {h : zH} {th : Int32} {jn dr pn bl tn : Nat} {ms ml mo mT mp pt po pa pw bs bf tk tB tY : Nat → Int32} (hA : rAll h th jn dr pn bl tn ms ml mo mT mp pt po pa pw bs bf tk tB tY)  : PW G M_Md_blocks (zroom 0 0 0) false (fun r h' => ∃ t : Int32, r = .inl (some (.int t)) ∧ zsm zMP h h' ∧ t = nI bl ∧ rAll h' 0 jn dr pn bl tn ms ml mo mT mp pt po pa pw bs bf tk tB tY) 0 (zentry 1 [.ref 84]) [] h 0 0 := by
  show PW G M_Md_blocks (zroom 0 0 0) false _ 0 [some (.ref 84)] [] h 0 0
  obtain ⟨hm, h85, h86, h87, h88, h89, h90, h91, h92, h93, ⟨w94, h94⟩, h95, h96, h97, h98, h99, ⟨w100, h100⟩, ⟨w101, h101⟩, ⟨w102, h102⟩, ⟨w103, h103⟩⟩ := hA
  refine pw_aload_n d_Md_blocks_0 rfl rfl ?_
  refine pw_iconst (x := 0) d_Md_blocks_1 (by decide) ?_
  obtain ⟨h_1, eh_1⟩ : ∃ x_9, x_9 = List.set h (84) (.inr (6, [.int (0), .ref 85, .int (nI jn), .ref 86, .ref 87, .int (nI dr), .ref 88, .ref 89, .int (nI pn), .ref 90, .ref 91, .ref 92, .ref 93, .ref 94, .int (nI bl), .ref 95, .ref 96, .ref 97, .int (nI tn), .ref 98, .ref 99, .ref 100, .ref 101, .ref 102, .ref 103])) := ⟨_, rfl⟩
  refine pw_put rfl d_Md_blocks_2 (fp_Md_75 _ _) hm (Nat.le_of_ble_eq_true rfl) (fun _ => ⟨rfl, rfl⟩) eh_1.symm ?_
  refine pw_aload_n d_Md_blocks_5 rfl rfl ?_
  refine pw_get d_Md_blocks_6 fl_Md_111 (zg_eq eh_1 hm) rfl ?_
  refine pw_ireturn d_Md_blocks_9 rfl (by decide) (by decide) ?_
  exact ⟨_, rfl, (zsm_st zsm_rf eh_1 (zMP_in (by decide) (by decide))), rfl, ⟨(zg_eq eh_1 hm), (zg_ne eh_1 (by decide) h85), (zg_ne eh_1 (by decide) h86), (zg_ne eh_1 (by decide) h87), (zg_ne eh_1 (by decide) h88), (zg_ne eh_1 (by decide) h89), (zg_ne eh_1 (by decide) h90), (zg_ne eh_1 (by decide) h91), (zg_ne eh_1 (by decide) h92), (zg_ne eh_1 (by decide) h93), ⟨_, (zg_ne eh_1 (by decide) h94)⟩, (zg_ne eh_1 (by decide) h95), (zg_ne eh_1 (by decide) h96), (zg_ne eh_1 (by decide) h97), (zg_ne eh_1 (by decide) h98), (zg_ne eh_1 (by decide) h99), ⟨_, (zg_ne eh_1 (by decide) h100)⟩, ⟨_, (zg_ne eh_1 (by decide) h101)⟩, ⟨_, (zg_ne eh_1 (by decide) h102)⟩, ⟨_, (zg_ne eh_1 (by decide) h103)⟩⟩⟩
/-- what told answers: t, thrown -/
def rTo (jn dr tn pn : Nat) (w t th : Int32) : Prop := (th = 1 ∧ ¬ (0 ≤ w ∧ w ≤ 3)) ∨ (th = 0 ∧ ((w = 0 ∧ t = nI jn) ∨ (w = 1 ∧ t = nI dr) ∨ (w = 2 ∧ t = nI tn) ∨ (w = 3 ∧ t = nI pn)))
theorem z03 {w : Int32} (h1 : 0 ≤ w) (h2 : w ≤ 3) : w = 0 ∨ w = 1 ∨ w = 2 ∨ w = 3 := by
  rw [Int32.le_iff_toInt_le] at h1 h2
  have e0 : (0 : Int32).toInt = 0 := by decide
  have e1 : (1 : Int32).toInt = 1 := by decide
  have e2 : (2 : Int32).toInt = 2 := by decide
  have e3 : (3 : Int32).toInt = 3 := by decide
  simp only [← Int32.toInt_inj]
  omega
theorem z04 {w : Int32} (h1 : 0 ≤ w) (h2 : w ≤ 4) : w = 0 ∨ w = 1 ∨ w = 2 ∨ w = 3 ∨ w = 4 := by
  rw [Int32.le_iff_toInt_le] at h1 h2
  have e0 : (0 : Int32).toInt = 0 := by decide
  have e1 : (1 : Int32).toInt = 1 := by decide
  have e2 : (2 : Int32).toInt = 2 := by decide
  have e3 : (3 : Int32).toInt = 3 := by decide
  have e4 : (4 : Int32).toInt = 4 := by decide
  simp only [← Int32.toInt_inj]
  omega
set_option maxRecDepth 20000 in
set_option maxHeartbeats 2000000 in
theorem p_told {G : zG} {h : zH} {th : Int32} {jn dr pn bl tn : Nat} {ms ml mo mT mp pt po pa pw bs bf tk tB tY : Nat → Int32} (hA : rAll h th jn dr pn bl tn ms ml mo mT mp pt po pa pw bs bf tk tB tY) {w : Int32} : PW G M_Md_told (zroom 1 0 0) false (fun r h' => ∃ t : Int32, r = .inl (some (.int t)) ∧ zsm zMP h h' ∧ ∃ th9, rTo jn dr tn pn w t th9 ∧ rAll h' th9 jn dr pn bl tn ms ml mo mT mp pt po pa pw bs bf tk tB tY) 0 (zentry 2 [.ref 84, .int (w)]) [] h 0 0 := by
  show PW G M_Md_told (zroom 1 0 0) false _ 0 [some (.ref 84), some (.int (w))] [] h 0 0
  obtain ⟨hm, h85, h86, h87, h88, h89, h90, h91, h92, h93, ⟨w94, h94⟩, h95, h96, h97, h98, h99, ⟨w100, h100⟩, ⟨w101, h101⟩, ⟨w102, h102⟩, ⟨w103, h103⟩⟩ := hA
  refine pw_aload_n d_Md_told_0 rfl rfl ?_
  refine pw_iload_n d_Md_told_1 rfl rfl ?_
  refine pw_iconst (x := 0) d_Md_told_2 (by decide) ?_
  refine pw_iconst (x := 3) d_Md_told_3 (by decide) ?_
  refine pw_callS1 (R' := (zroom 0 0 0)) (h2 := h) [.int (w), .int (0), .int (3)] (fun q => nomatch q) d_Md_told_4 lk_Md_131 rfl rfl c_in ?_
  refine pw_if_eq 14 d_Md_told_7 (by decide) (fun q_i => ?_) (fun q_i => ?_)
  · refine pw_iconst (x := 1) d_Md_told_14 (by decide) ?_
    obtain ⟨h_1, eh_1⟩ : ∃ x_9, x_9 = List.set h (84) (.inr (6, [.int (1), .ref 85, .int (nI jn), .ref 86, .ref 87, .int (nI dr), .ref 88, .ref 89, .int (nI pn), .ref 90, .ref 91, .ref 92, .ref 93, .ref 94, .int (nI bl), .ref 95, .ref 96, .ref 97, .int (nI tn), .ref 98, .ref 99, .ref 100, .ref 101, .ref 102, .ref 103])) := ⟨_, rfl⟩
    refine pw_put rfl d_Md_told_15 (fp_Md_75 _ _) hm (Nat.le_of_ble_eq_true rfl) (fun _ => ⟨rfl, rfl⟩) eh_1.symm ?_
    refine pw_aload_n d_Md_told_18 rfl rfl ?_
    refine pw_get d_Md_told_19 fl_Md_75 (zg_eq eh_1 hm) rfl ?_
    refine pw_if_le 29 d_Md_told_22 (by decide) (fun q_t => ?_) (fun q_t => ?_)
    · refine pw_iload_n d_Md_told_29 rfl rfl ?_
      refine pw_if_ne 40 d_Md_told_30 (by decide) (fun q_0 => ?_) (fun q_0 => ?_)
      · refine pw_iload_n d_Md_told_40 rfl rfl ?_
        refine pw_iconst (x := 1) d_Md_told_41 (by decide) ?_
        refine pw_icmp_ne 52 d_Md_told_42 (by decide) (fun q_1 => ?_) (fun q_1 => ?_)
        · refine pw_iload_n d_Md_told_52 rfl rfl ?_
          refine pw_iconst (x := 2) d_Md_told_53 (by decide) ?_
          refine pw_icmp_ne 64 d_Md_told_54 (by decide) (fun q_2 => ?_) (fun q_2 => ?_)
          · refine pw_aload_n d_Md_told_64 rfl rfl ?_
            refine pw_get d_Md_told_65 fl_Md_94 (zg_eq eh_1 hm) rfl ?_
            refine pw_ireturn d_Md_told_68 rfl (by decide) (by decide) ?_
            exact absurd q_t (by decide)
          · refine pw_aload_n d_Md_told_57 rfl rfl ?_
            refine pw_get d_Md_told_58 fl_Md_114 (zg_eq eh_1 hm) rfl ?_
            refine pw_goto 68 d_Md_told_61 (by decide) ?_
            refine pw_ireturn d_Md_told_68 rfl (by decide) (by decide) ?_
            exact absurd q_t (by decide)
        · refine pw_aload_n d_Md_told_45 rfl rfl ?_
          refine pw_get d_Md_told_46 fl_Md_146 (zg_eq eh_1 hm) rfl ?_
          refine pw_goto 68 d_Md_told_49 (by decide) ?_
          refine pw_ireturn d_Md_told_68 rfl (by decide) (by decide) ?_
          exact absurd q_t (by decide)
      · refine pw_aload_n d_Md_told_33 rfl rfl ?_
        refine pw_get d_Md_told_34 fl_Md_83 (zg_eq eh_1 hm) rfl ?_
        refine pw_goto 68 d_Md_told_37 (by decide) ?_
        refine pw_ireturn d_Md_told_68 rfl (by decide) (by decide) ?_
        exact absurd q_t (by decide)
    · refine pw_iconst (x := 0) d_Md_told_25 (by decide) ?_
      refine pw_goto 68 d_Md_told_26 (by decide) ?_
      refine pw_ireturn d_Md_told_68 rfl (by decide) (by decide) ?_
      exact ⟨_, rfl, (zsm_st zsm_rf eh_1 (zMP_in (by decide) (by decide))), 1, Or.inl ⟨rfl, z0 q_i⟩, ⟨(zg_eq eh_1 hm), (zg_ne eh_1 (by decide) h85), (zg_ne eh_1 (by decide) h86), (zg_ne eh_1 (by decide) h87), (zg_ne eh_1 (by decide) h88), (zg_ne eh_1 (by decide) h89), (zg_ne eh_1 (by decide) h90), (zg_ne eh_1 (by decide) h91), (zg_ne eh_1 (by decide) h92), (zg_ne eh_1 (by decide) h93), ⟨_, (zg_ne eh_1 (by decide) h94)⟩, (zg_ne eh_1 (by decide) h95), (zg_ne eh_1 (by decide) h96), (zg_ne eh_1 (by decide) h97), (zg_ne eh_1 (by decide) h98), (zg_ne eh_1 (by decide) h99), ⟨_, (zg_ne eh_1 (by decide) h100)⟩, ⟨_, (zg_ne eh_1 (by decide) h101)⟩, ⟨_, (zg_ne eh_1 (by decide) h102)⟩, ⟨_, (zg_ne eh_1 (by decide) h103)⟩⟩⟩
  · refine pw_iconst (x := 0) d_Md_told_10 (by decide) ?_
    refine pw_goto 15 d_Md_told_11 (by decide) ?_
    obtain ⟨h_2, eh_2⟩ : ∃ x_9, x_9 = List.set h (84) (.inr (6, [.int (0), .ref 85, .int (nI jn), .ref 86, .ref 87, .int (nI dr), .ref 88, .ref 89, .int (nI pn), .ref 90, .ref 91, .ref 92, .ref 93, .ref 94, .int (nI bl), .ref 95, .ref 96, .ref 97, .int (nI tn), .ref 98, .ref 99, .ref 100, .ref 101, .ref 102, .ref 103])) := ⟨_, rfl⟩
    refine pw_put rfl d_Md_told_15 (fp_Md_75 _ _) hm (Nat.le_of_ble_eq_true rfl) (fun _ => ⟨rfl, rfl⟩) eh_2.symm ?_
    refine pw_aload_n d_Md_told_18 rfl rfl ?_
    refine pw_get d_Md_told_19 fl_Md_75 (zg_eq eh_2 hm) rfl ?_
    refine pw_if_le 29 d_Md_told_22 (by decide) (fun q_t => ?_) (fun q_t => ?_)
    · refine pw_iload_n d_Md_told_29 rfl rfl ?_
      refine pw_if_ne 40 d_Md_told_30 (by decide) (fun q_0 => ?_) (fun q_0 => ?_)
      · refine pw_iload_n d_Md_told_40 rfl rfl ?_
        refine pw_iconst (x := 1) d_Md_told_41 (by decide) ?_
        refine pw_icmp_ne 52 d_Md_told_42 (by decide) (fun q_1 => ?_) (fun q_1 => ?_)
        · refine pw_iload_n d_Md_told_52 rfl rfl ?_
          refine pw_iconst (x := 2) d_Md_told_53 (by decide) ?_
          refine pw_icmp_ne 64 d_Md_told_54 (by decide) (fun q_2 => ?_) (fun q_2 => ?_)
          · refine pw_aload_n d_Md_told_64 rfl rfl ?_
            refine pw_get d_Md_told_65 fl_Md_94 (zg_eq eh_2 hm) rfl ?_
            refine pw_ireturn d_Md_told_68 rfl (by decide) (by decide) ?_
            have q_3 : w = 3 := by rcases z03 (z1 q_i).1 (z1 q_i).2 with e | e | e | e; exact absurd e q_0; exact absurd e q_1; exact absurd e q_2; exact e
            exact ⟨_, rfl, (zsm_st zsm_rf eh_2 (zMP_in (by decide) (by decide))), 0, Or.inr ⟨rfl, Or.inr (Or.inr (Or.inr ⟨q_3, rfl⟩))⟩, ⟨(zg_eq eh_2 hm), (zg_ne eh_2 (by decide) h85), (zg_ne eh_2 (by decide) h86), (zg_ne eh_2 (by decide) h87), (zg_ne eh_2 (by decide) h88), (zg_ne eh_2 (by decide) h89), (zg_ne eh_2 (by decide) h90), (zg_ne eh_2 (by decide) h91), (zg_ne eh_2 (by decide) h92), (zg_ne eh_2 (by decide) h93), ⟨_, (zg_ne eh_2 (by decide) h94)⟩, (zg_ne eh_2 (by decide) h95), (zg_ne eh_2 (by decide) h96), (zg_ne eh_2 (by decide) h97), (zg_ne eh_2 (by decide) h98), (zg_ne eh_2 (by decide) h99), ⟨_, (zg_ne eh_2 (by decide) h100)⟩, ⟨_, (zg_ne eh_2 (by decide) h101)⟩, ⟨_, (zg_ne eh_2 (by decide) h102)⟩, ⟨_, (zg_ne eh_2 (by decide) h103)⟩⟩⟩
          · refine pw_aload_n d_Md_told_57 rfl rfl ?_
            refine pw_get d_Md_told_58 fl_Md_114 (zg_eq eh_2 hm) rfl ?_
            refine pw_goto 68 d_Md_told_61 (by decide) ?_
            refine pw_ireturn d_Md_told_68 rfl (by decide) (by decide) ?_
            exact ⟨_, rfl, (zsm_st zsm_rf eh_2 (zMP_in (by decide) (by decide))), 0, Or.inr ⟨rfl, Or.inr (Or.inr (Or.inl ⟨q_2, rfl⟩))⟩, ⟨(zg_eq eh_2 hm), (zg_ne eh_2 (by decide) h85), (zg_ne eh_2 (by decide) h86), (zg_ne eh_2 (by decide) h87), (zg_ne eh_2 (by decide) h88), (zg_ne eh_2 (by decide) h89), (zg_ne eh_2 (by decide) h90), (zg_ne eh_2 (by decide) h91), (zg_ne eh_2 (by decide) h92), (zg_ne eh_2 (by decide) h93), ⟨_, (zg_ne eh_2 (by decide) h94)⟩, (zg_ne eh_2 (by decide) h95), (zg_ne eh_2 (by decide) h96), (zg_ne eh_2 (by decide) h97), (zg_ne eh_2 (by decide) h98), (zg_ne eh_2 (by decide) h99), ⟨_, (zg_ne eh_2 (by decide) h100)⟩, ⟨_, (zg_ne eh_2 (by decide) h101)⟩, ⟨_, (zg_ne eh_2 (by decide) h102)⟩, ⟨_, (zg_ne eh_2 (by decide) h103)⟩⟩⟩
        · refine pw_aload_n d_Md_told_45 rfl rfl ?_
          refine pw_get d_Md_told_46 fl_Md_146 (zg_eq eh_2 hm) rfl ?_
          refine pw_goto 68 d_Md_told_49 (by decide) ?_
          refine pw_ireturn d_Md_told_68 rfl (by decide) (by decide) ?_
          exact ⟨_, rfl, (zsm_st zsm_rf eh_2 (zMP_in (by decide) (by decide))), 0, Or.inr ⟨rfl, Or.inr (Or.inl ⟨q_1, rfl⟩)⟩, ⟨(zg_eq eh_2 hm), (zg_ne eh_2 (by decide) h85), (zg_ne eh_2 (by decide) h86), (zg_ne eh_2 (by decide) h87), (zg_ne eh_2 (by decide) h88), (zg_ne eh_2 (by decide) h89), (zg_ne eh_2 (by decide) h90), (zg_ne eh_2 (by decide) h91), (zg_ne eh_2 (by decide) h92), (zg_ne eh_2 (by decide) h93), ⟨_, (zg_ne eh_2 (by decide) h94)⟩, (zg_ne eh_2 (by decide) h95), (zg_ne eh_2 (by decide) h96), (zg_ne eh_2 (by decide) h97), (zg_ne eh_2 (by decide) h98), (zg_ne eh_2 (by decide) h99), ⟨_, (zg_ne eh_2 (by decide) h100)⟩, ⟨_, (zg_ne eh_2 (by decide) h101)⟩, ⟨_, (zg_ne eh_2 (by decide) h102)⟩, ⟨_, (zg_ne eh_2 (by decide) h103)⟩⟩⟩
      · refine pw_aload_n d_Md_told_33 rfl rfl ?_
        refine pw_get d_Md_told_34 fl_Md_83 (zg_eq eh_2 hm) rfl ?_
        refine pw_goto 68 d_Md_told_37 (by decide) ?_
        refine pw_ireturn d_Md_told_68 rfl (by decide) (by decide) ?_
        exact ⟨_, rfl, (zsm_st zsm_rf eh_2 (zMP_in (by decide) (by decide))), 0, Or.inr ⟨rfl, Or.inl ⟨q_0, rfl⟩⟩, ⟨(zg_eq eh_2 hm), (zg_ne eh_2 (by decide) h85), (zg_ne eh_2 (by decide) h86), (zg_ne eh_2 (by decide) h87), (zg_ne eh_2 (by decide) h88), (zg_ne eh_2 (by decide) h89), (zg_ne eh_2 (by decide) h90), (zg_ne eh_2 (by decide) h91), (zg_ne eh_2 (by decide) h92), (zg_ne eh_2 (by decide) h93), ⟨_, (zg_ne eh_2 (by decide) h94)⟩, (zg_ne eh_2 (by decide) h95), (zg_ne eh_2 (by decide) h96), (zg_ne eh_2 (by decide) h97), (zg_ne eh_2 (by decide) h98), (zg_ne eh_2 (by decide) h99), ⟨_, (zg_ne eh_2 (by decide) h100)⟩, ⟨_, (zg_ne eh_2 (by decide) h101)⟩, ⟨_, (zg_ne eh_2 (by decide) h102)⟩, ⟨_, (zg_ne eh_2 (by decide) h103)⟩⟩⟩
    · refine pw_iconst (x := 0) d_Md_told_25 (by decide) ?_
      refine pw_goto 68 d_Md_told_26 (by decide) ?_
      refine pw_ireturn d_Md_told_68 rfl (by decide) (by decide) ?_
      exact absurd (show (0 : Int32) ≤ 0 by decide) q_t
theorem z611 {w : Int32} (h : 6 ≤ w ∧ w ≤ 11) : ∃ f, 6 ≤ f ∧ f < 12 ∧ w = nI f := by
  obtain ⟨h1, h2⟩ := h
  rw [Int32.le_iff_toInt_le] at h1 h2
  have e6 : (6 : Int32).toInt = 6 := by decide
  have e11 : (11 : Int32).toInt = 11 := by decide
  refine ⟨w.toInt.toNat, by omega, by omega, Int32.toInt_inj.mp ?_⟩
  rw [nI_toInt (by omega)]
  omega
set_option maxRecDepth 20000 in
set_option maxHeartbeats 2000000 in
theorem p_open {G : zG} {h : zH} {th : Int32} {jn dr pn bl tn : Nat} {ms ml mo mT mp pt po pa pw bs bf tk tB tY : Nat → Int32} (hA : rAll h th jn dr pn bl tn ms ml mo mT mp pt po pa pw bs bf tk tB tY) {w b : Int32} (hb01 : b = 0 ∨ b = 1) : PW G M_Md_open (zroom 1 0 0) false (fun r h' => ∃ t : Int32, r = .inl (some (.int t)) ∧ zsm zMP h h' ∧ ((¬ (6 ≤ w ∧ w ≤ 11) ∧ rAll h' 1 jn dr pn bl tn ms ml mo mT mp pt po pa pw bs bf tk tB tY) ∨ (∃ f, 6 ≤ f ∧ f < 12 ∧ w = nI f ∧ t = (if mo f = b then 0 else 1) ∧ rAll h' 0 jn dr pn bl tn ms ml (upd mo f b) mT mp pt po pa pw bs bf tk tB tY))) 0 (zentry 4 [.ref 84, .int (w), .int (b)]) [] h 0 0 := by
  show PW G M_Md_open (zroom 1 0 0) false _ 0 [some (.ref 84), some (.int (w)), some (.int (b)), none] [] h 0 0
  obtain ⟨hm, h85, h86, h87, h88, h89, h90, h91, h92, h93, ⟨w94, h94⟩, h95, h96, h97, h98, h99, ⟨w100, h100⟩, ⟨w101, h101⟩, ⟨w102, h102⟩, ⟨w103, h103⟩⟩ := hA
  refine pw_aload_n d_Md_open_0 rfl rfl ?_
  refine pw_iload_n d_Md_open_1 rfl rfl ?_
  refine pw_bipush (x := 6) d_Md_open_2 (by decide) ?_
  refine pw_bipush (x := 11) d_Md_open_4 (by decide) ?_
  refine pw_callS1 (R' := (zroom 0 0 0)) (h2 := h) [.int (w), .int (6), .int (11)] (fun q => nomatch q) d_Md_open_6 lk_Md_131 rfl rfl c_in ?_
  refine pw_if_eq 16 d_Md_open_9 (by decide) (fun q_i => ?_) (fun q_i => ?_)
  · refine pw_iconst (x := 1) d_Md_open_16 (by decide) ?_
    obtain ⟨h_1, eh_1⟩ : ∃ x_9, x_9 = List.set h (84) (.inr (6, [.int (1), .ref 85, .int (nI jn), .ref 86, .ref 87, .int (nI dr), .ref 88, .ref 89, .int (nI pn), .ref 90, .ref 91, .ref 92, .ref 93, .ref 94, .int (nI bl), .ref 95, .ref 96, .ref 97, .int (nI tn), .ref 98, .ref 99, .ref 100, .ref 101, .ref 102, .ref 103])) := ⟨_, rfl⟩
    refine pw_put rfl d_Md_open_17 (fp_Md_75 _ _) hm (Nat.le_of_ble_eq_true rfl) (fun _ => ⟨rfl, rfl⟩) eh_1.symm ?_
    refine pw_aload_n d_Md_open_20 rfl rfl ?_
    refine pw_get d_Md_open_21 fl_Md_75 (zg_eq eh_1 hm) rfl ?_
    refine pw_if_le 29 d_Md_open_24 (by decide) (fun q_t => ?_) (fun q_t => ?_)
    · exact absurd q_t (by decide)
    · refine pw_iconst (x := 0) d_Md_open_27 (by decide) ?_
      refine pw_zreturn d_Md_open_28 rfl (by decide) (by decide) (by decide) ?_
      exact ⟨_, rfl, (zsm_st zsm_rf eh_1 (zMP_in (by decide) (by decide))), Or.inl ⟨z0 q_i, ⟨(zg_eq eh_1 hm), (zg_ne eh_1 (by decide) h85), (zg_ne eh_1 (by decide) h86), (zg_ne eh_1 (by decide) h87), (zg_ne eh_1 (by decide) h88), (zg_ne eh_1 (by decide) h89), (zg_ne eh_1 (by decide) h90), (zg_ne eh_1 (by decide) h91), (zg_ne eh_1 (by decide) h92), (zg_ne eh_1 (by decide) h93), ⟨_, (zg_ne eh_1 (by decide) h94)⟩, (zg_ne eh_1 (by decide) h95), (zg_ne eh_1 (by decide) h96), (zg_ne eh_1 (by decide) h97), (zg_ne eh_1 (by decide) h98), (zg_ne eh_1 (by decide) h99), ⟨_, (zg_ne eh_1 (by decide) h100)⟩, ⟨_, (zg_ne eh_1 (by decide) h101)⟩, ⟨_, (zg_ne eh_1 (by decide) h102)⟩, ⟨_, (zg_ne eh_1 (by decide) h103)⟩⟩⟩⟩
  · refine pw_iconst (x := 0) d_Md_open_12 (by decide) ?_
    refine pw_goto 17 d_Md_open_13 (by decide) ?_
    obtain ⟨h_2, eh_2⟩ : ∃ x_9, x_9 = List.set h (84) (.inr (6, [.int (0), .ref 85, .int (nI jn), .ref 86, .ref 87, .int (nI dr), .ref 88, .ref 89, .int (nI pn), .ref 90, .ref 91, .ref 92, .ref 93, .ref 94, .int (nI bl), .ref 95, .ref 96, .ref 97, .int (nI tn), .ref 98, .ref 99, .ref 100, .ref 101, .ref 102, .ref 103])) := ⟨_, rfl⟩
    refine pw_put rfl d_Md_open_17 (fp_Md_75 _ _) hm (Nat.le_of_ble_eq_true rfl) (fun _ => ⟨rfl, rfl⟩) eh_2.symm ?_
    refine pw_aload_n d_Md_open_20 rfl rfl ?_
    refine pw_get d_Md_open_21 fl_Md_75 (zg_eq eh_2 hm) rfl ?_
    refine pw_if_le 29 d_Md_open_24 (by decide) (fun q_t => ?_) (fun q_t => ?_)
    · obtain ⟨f, hf6, hf12, rfl⟩ : ∃ f, 6 ≤ f ∧ f < 12 ∧ w = nI f := z611 (z1 q_i)
      refine pw_aload_n d_Md_open_29 rfl rfl ?_
      refine pw_get d_Md_open_30 fl_Md_16 (zg_eq eh_2 hm) rfl ?_
      refine pw_iload_n d_Md_open_33 rfl rfl ?_
      refine pw_zald d_Md_open_34 (zg_ne eh_2 (by decide) h87) rfl rfl hf12 (by decide) ?_
      refine pw_istore_n d_Md_open_35 rfl (by decide) (pl' := [some (.ref 84), some (.int (nI f)), some (.int (b)), some (.int (mo f))]) rfl ?_
      refine pw_aload_n d_Md_open_36 rfl rfl ?_
      refine pw_get d_Md_open_37 fl_Md_16 (zg_eq eh_2 hm) rfl ?_
      refine pw_iload_n d_Md_open_40 rfl rfl ?_
      refine pw_iload_n d_Md_open_41 rfl rfl ?_
      obtain ⟨h_3, eh_3⟩ : ∃ x_9, x_9 = List.set h_2 (87) (.inl (1, 12, .inl (upd mo f (b)))) := ⟨_, rfl⟩
      refine pw_zast rfl d_Md_open_42 (zg_ne eh_2 (by decide) h87) rfl rfl hf12 (by decide) hb01 eh_3.symm ?_
      refine pw_iload_n d_Md_open_43 rfl rfl ?_
      refine pw_iload_n d_Md_open_44 rfl rfl ?_
      refine pw_icmp_eq 52 d_Md_open_45 (by decide) (fun q_e => ?_) (fun q_e => ?_)
      · refine pw_iconst (x := 0) d_Md_open_52 (by decide) ?_
        refine pw_zreturn d_Md_open_53 rfl (by decide) (by decide) (by decide) ?_
        exact ⟨_, rfl, (zsm_st (zsm_st zsm_rf eh_2 (zMP_in (by decide) (by decide))) eh_3 (zMP_in (by decide) (by decide))), Or.inr ⟨f, hf6, hf12, rfl, (if_pos q_e).symm, ⟨(zg_ne eh_3 (by decide) (zg_eq eh_2 hm)), (zg_ne eh_3 (by decide) (zg_ne eh_2 (by decide) h85)), (zg_ne eh_3 (by decide) (zg_ne eh_2 (by decide) h86)), (zg_eq eh_3 (zg_ne eh_2 (by decide) h87)), (zg_ne eh_3 (by decide) (zg_ne eh_2 (by decide) h88)), (zg_ne eh_3 (by decide) (zg_ne eh_2 (by decide) h89)), (zg_ne eh_3 (by decide) (zg_ne eh_2 (by decide) h90)), (zg_ne eh_3 (by decide) (zg_ne eh_2 (by decide) h91)), (zg_ne eh_3 (by decide) (zg_ne eh_2 (by decide) h92)), (zg_ne eh_3 (by decide) (zg_ne eh_2 (by decide) h93)), ⟨_, (zg_ne eh_3 (by decide) (zg_ne eh_2 (by decide) h94))⟩, (zg_ne eh_3 (by decide) (zg_ne eh_2 (by decide) h95)), (zg_ne eh_3 (by decide) (zg_ne eh_2 (by decide) h96)), (zg_ne eh_3 (by decide) (zg_ne eh_2 (by decide) h97)), (zg_ne eh_3 (by decide) (zg_ne eh_2 (by decide) h98)), (zg_ne eh_3 (by decide) (zg_ne eh_2 (by decide) h99)), ⟨_, (zg_ne eh_3 (by decide) (zg_ne eh_2 (by decide) h100))⟩, ⟨_, (zg_ne eh_3 (by decide) (zg_ne eh_2 (by decide) h101))⟩, ⟨_, (zg_ne eh_3 (by decide) (zg_ne eh_2 (by decide) h102))⟩, ⟨_, (zg_ne eh_3 (by decide) (zg_ne eh_2 (by decide) h103))⟩⟩⟩⟩
      · refine pw_iconst (x := 1) d_Md_open_48 (by decide) ?_
        refine pw_goto 53 d_Md_open_49 (by decide) ?_
        refine pw_zreturn d_Md_open_53 rfl (by decide) (by decide) (by decide) ?_
        exact ⟨_, rfl, (zsm_st (zsm_st zsm_rf eh_2 (zMP_in (by decide) (by decide))) eh_3 (zMP_in (by decide) (by decide))), Or.inr ⟨f, hf6, hf12, rfl, (if_neg q_e).symm, ⟨(zg_ne eh_3 (by decide) (zg_eq eh_2 hm)), (zg_ne eh_3 (by decide) (zg_ne eh_2 (by decide) h85)), (zg_ne eh_3 (by decide) (zg_ne eh_2 (by decide) h86)), (zg_eq eh_3 (zg_ne eh_2 (by decide) h87)), (zg_ne eh_3 (by decide) (zg_ne eh_2 (by decide) h88)), (zg_ne eh_3 (by decide) (zg_ne eh_2 (by decide) h89)), (zg_ne eh_3 (by decide) (zg_ne eh_2 (by decide) h90)), (zg_ne eh_3 (by decide) (zg_ne eh_2 (by decide) h91)), (zg_ne eh_3 (by decide) (zg_ne eh_2 (by decide) h92)), (zg_ne eh_3 (by decide) (zg_ne eh_2 (by decide) h93)), ⟨_, (zg_ne eh_3 (by decide) (zg_ne eh_2 (by decide) h94))⟩, (zg_ne eh_3 (by decide) (zg_ne eh_2 (by decide) h95)), (zg_ne eh_3 (by decide) (zg_ne eh_2 (by decide) h96)), (zg_ne eh_3 (by decide) (zg_ne eh_2 (by decide) h97)), (zg_ne eh_3 (by decide) (zg_ne eh_2 (by decide) h98)), (zg_ne eh_3 (by decide) (zg_ne eh_2 (by decide) h99)), ⟨_, (zg_ne eh_3 (by decide) (zg_ne eh_2 (by decide) h100))⟩, ⟨_, (zg_ne eh_3 (by decide) (zg_ne eh_2 (by decide) h101))⟩, ⟨_, (zg_ne eh_3 (by decide) (zg_ne eh_2 (by decide) h102))⟩, ⟨_, (zg_ne eh_3 (by decide) (zg_ne eh_2 (by decide) h103))⟩⟩⟩⟩
    · exact absurd (show (0 : Int32) ≤ 0 by decide) q_t
set_option maxRecDepth 20000 in
set_option maxHeartbeats 2000000 in
theorem p_pull {G : zG} {h : zH} {th : Int32} {jn dr pn bl tn : Nat} {ms ml mo mT mp pt po pa pw bs bf tk tB tY : Nat → Int32} (hA : rAll h th jn dr pn bl tn ms ml mo mT mp pt po pa pw bs bf tk tB tY) {u v w : Int32} : PW G M_Md_pull (zroom 2 0 0) false (fun r h' => r = .inl none ∧ zsm zMP h h' ∧ ((¬ ((-9 ≤ u ∧ u ≤ 9) ∧ (-9 ≤ v ∧ v ≤ 9) ∧ (-9 ≤ w ∧ w ≤ 9)) ∧ rAll h' 1 jn dr pn bl tn ms ml mo mT mp pt po pa pw bs bf tk tB tY) ∨ (((-9 ≤ u ∧ u ≤ 9) ∧ (-9 ≤ v ∧ v ≤ 9) ∧ (-9 ≤ w ∧ w ≤ 9)) ∧ rAll h' 0 jn dr pn bl tn ms ml mo mT (upd (upd (upd mp 0 u) 1 v) 2 w) pt po pa pw bs bf tk tB tY))) 0 (zentry 4 [.ref 84, .int (u), .int (v), .int (w)]) [] h 0 0 := by
  show PW G M_Md_pull (zroom 2 0 0) false _ 0 [some (.ref 84), some (.int (u)), some (.int (v)), some (.int (w))] [] h 0 0
  obtain ⟨hm, h85, h86, h87, h88, h89, h90, h91, h92, h93, ⟨w94, h94⟩, h95, h96, h97, h98, h99, ⟨w100, h100⟩, ⟨w101, h101⟩, ⟨w102, h102⟩, ⟨w103, h103⟩⟩ := hA
  refine pw_aload_n d_Md_pull_0 rfl rfl ?_
  refine pw_iload_n d_Md_pull_1 rfl rfl ?_
  refine pw_iload_n d_Md_pull_2 rfl rfl ?_
  refine pw_iload_n d_Md_pull_3 rfl rfl ?_
  refine pw_callS1 (R' := (zroom 1 0 0)) (h2 := h) [.int (u), .int (v), .int (w)] (fun q => nomatch q) d_Md_pull_4 lk_Md_143 rfl rfl c_isVector ?_
  refine pw_if_eq 14 d_Md_pull_7 (by decide) (fun q_i => ?_) (fun q_i => ?_)
  · refine pw_iconst (x := 1) d_Md_pull_14 (by decide) ?_
    obtain ⟨h_1, eh_1⟩ : ∃ x_9, x_9 = List.set h (84) (.inr (6, [.int (1), .ref 85, .int (nI jn), .ref 86, .ref 87, .int (nI dr), .ref 88, .ref 89, .int (nI pn), .ref 90, .ref 91, .ref 92, .ref 93, .ref 94, .int (nI bl), .ref 95, .ref 96, .ref 97, .int (nI tn), .ref 98, .ref 99, .ref 100, .ref 101, .ref 102, .ref 103])) := ⟨_, rfl⟩
    refine pw_put rfl d_Md_pull_15 (fp_Md_75 _ _) hm (Nat.le_of_ble_eq_true rfl) (fun _ => ⟨rfl, rfl⟩) eh_1.symm ?_
    refine pw_aload_n d_Md_pull_18 rfl rfl ?_
    refine pw_get d_Md_pull_19 fl_Md_75 (zg_eq eh_1 hm) rfl ?_
    refine pw_if_le 26 d_Md_pull_22 (by decide) (fun q_t => ?_) (fun q_t => ?_)
    · exact absurd q_t (by decide)
    · refine pw_return d_Md_pull_25 rfl (by decide) (by decide) ?_
      exact ⟨rfl, (zsm_st zsm_rf eh_1 (zMP_in (by decide) (by decide))), Or.inl ⟨z0 q_i, ⟨(zg_eq eh_1 hm), (zg_ne eh_1 (by decide) h85), (zg_ne eh_1 (by decide) h86), (zg_ne eh_1 (by decide) h87), (zg_ne eh_1 (by decide) h88), (zg_ne eh_1 (by decide) h89), (zg_ne eh_1 (by decide) h90), (zg_ne eh_1 (by decide) h91), (zg_ne eh_1 (by decide) h92), (zg_ne eh_1 (by decide) h93), ⟨_, (zg_ne eh_1 (by decide) h94)⟩, (zg_ne eh_1 (by decide) h95), (zg_ne eh_1 (by decide) h96), (zg_ne eh_1 (by decide) h97), (zg_ne eh_1 (by decide) h98), (zg_ne eh_1 (by decide) h99), ⟨_, (zg_ne eh_1 (by decide) h100)⟩, ⟨_, (zg_ne eh_1 (by decide) h101)⟩, ⟨_, (zg_ne eh_1 (by decide) h102)⟩, ⟨_, (zg_ne eh_1 (by decide) h103)⟩⟩⟩⟩
  · refine pw_iconst (x := 0) d_Md_pull_10 (by decide) ?_
    refine pw_goto 15 d_Md_pull_11 (by decide) ?_
    obtain ⟨h_2, eh_2⟩ : ∃ x_9, x_9 = List.set h (84) (.inr (6, [.int (0), .ref 85, .int (nI jn), .ref 86, .ref 87, .int (nI dr), .ref 88, .ref 89, .int (nI pn), .ref 90, .ref 91, .ref 92, .ref 93, .ref 94, .int (nI bl), .ref 95, .ref 96, .ref 97, .int (nI tn), .ref 98, .ref 99, .ref 100, .ref 101, .ref 102, .ref 103])) := ⟨_, rfl⟩
    refine pw_put rfl d_Md_pull_15 (fp_Md_75 _ _) hm (Nat.le_of_ble_eq_true rfl) (fun _ => ⟨rfl, rfl⟩) eh_2.symm ?_
    refine pw_aload_n d_Md_pull_18 rfl rfl ?_
    refine pw_get d_Md_pull_19 fl_Md_75 (zg_eq eh_2 hm) rfl ?_
    refine pw_if_le 26 d_Md_pull_22 (by decide) (fun q_t => ?_) (fun q_t => ?_)
    · refine pw_aload_n d_Md_pull_26 rfl rfl ?_
      refine pw_get d_Md_pull_27 fl_Md_23 (zg_eq eh_2 hm) rfl ?_
      refine pw_iconst (x := 0) d_Md_pull_30 (by decide) ?_
      refine pw_iload_n d_Md_pull_31 rfl rfl ?_
      obtain ⟨h_3, eh_3⟩ : ∃ x_9, x_9 = List.set h_2 (89) (.inl (0, 3, .inl (upd mp 0 (u)))) := ⟨_, rfl⟩
      refine pw_iast rfl d_Md_pull_32 (zg_ne eh_2 (by decide) h89) rfl rfl (by decide) (by decide) eh_3.symm ?_
      refine pw_aload_n d_Md_pull_33 rfl rfl ?_
      refine pw_get d_Md_pull_34 fl_Md_23 (zg_ne eh_3 (by decide) (zg_eq eh_2 hm)) rfl ?_
      refine pw_iconst (x := 1) d_Md_pull_37 (by decide) ?_
      refine pw_iload_n d_Md_pull_38 rfl rfl ?_
      obtain ⟨h_4, eh_4⟩ : ∃ x_9, x_9 = List.set h_3 (89) (.inl (0, 3, .inl (upd (upd mp 0 (u)) 1 (v)))) := ⟨_, rfl⟩
      refine pw_iast rfl d_Md_pull_39 (zg_eq eh_3 (zg_ne eh_2 (by decide) h89)) rfl rfl (by decide) (by decide) eh_4.symm ?_
      refine pw_aload_n d_Md_pull_40 rfl rfl ?_
      refine pw_get d_Md_pull_41 fl_Md_23 (zg_ne eh_4 (by decide) (zg_ne eh_3 (by decide) (zg_eq eh_2 hm))) rfl ?_
      refine pw_iconst (x := 2) d_Md_pull_44 (by decide) ?_
      refine pw_iload_n d_Md_pull_45 rfl rfl ?_
      obtain ⟨h_5, eh_5⟩ : ∃ x_9, x_9 = List.set h_4 (89) (.inl (0, 3, .inl (upd (upd (upd mp 0 (u)) 1 (v)) 2 (w)))) := ⟨_, rfl⟩
      refine pw_iast rfl d_Md_pull_46 (zg_eq eh_4 (zg_eq eh_3 (zg_ne eh_2 (by decide) h89))) rfl rfl (by decide) (by decide) eh_5.symm ?_
      refine pw_return d_Md_pull_47 rfl (by decide) (by decide) ?_
      exact ⟨rfl, (zsm_st (zsm_st (zsm_st (zsm_st zsm_rf eh_2 (zMP_in (by decide) (by decide))) eh_3 (zMP_in (by decide) (by decide))) eh_4 (zMP_in (by decide) (by decide))) eh_5 (zMP_in (by decide) (by decide))), Or.inr ⟨z1 q_i, ⟨(zg_ne eh_5 (by decide) (zg_ne eh_4 (by decide) (zg_ne eh_3 (by decide) (zg_eq eh_2 hm)))), (zg_ne eh_5 (by decide) (zg_ne eh_4 (by decide) (zg_ne eh_3 (by decide) (zg_ne eh_2 (by decide) h85)))), (zg_ne eh_5 (by decide) (zg_ne eh_4 (by decide) (zg_ne eh_3 (by decide) (zg_ne eh_2 (by decide) h86)))), (zg_ne eh_5 (by decide) (zg_ne eh_4 (by decide) (zg_ne eh_3 (by decide) (zg_ne eh_2 (by decide) h87)))), (zg_ne eh_5 (by decide) (zg_ne eh_4 (by decide) (zg_ne eh_3 (by decide) (zg_ne eh_2 (by decide) h88)))), (zg_eq eh_5 (zg_eq eh_4 (zg_eq eh_3 (zg_ne eh_2 (by decide) h89)))), (zg_ne eh_5 (by decide) (zg_ne eh_4 (by decide) (zg_ne eh_3 (by decide) (zg_ne eh_2 (by decide) h90)))), (zg_ne eh_5 (by decide) (zg_ne eh_4 (by decide) (zg_ne eh_3 (by decide) (zg_ne eh_2 (by decide) h91)))), (zg_ne eh_5 (by decide) (zg_ne eh_4 (by decide) (zg_ne eh_3 (by decide) (zg_ne eh_2 (by decide) h92)))), (zg_ne eh_5 (by decide) (zg_ne eh_4 (by decide) (zg_ne eh_3 (by decide) (zg_ne eh_2 (by decide) h93)))), ⟨_, (zg_ne eh_5 (by decide) (zg_ne eh_4 (by decide) (zg_ne eh_3 (by decide) (zg_ne eh_2 (by decide) h94))))⟩, (zg_ne eh_5 (by decide) (zg_ne eh_4 (by decide) (zg_ne eh_3 (by decide) (zg_ne eh_2 (by decide) h95)))), (zg_ne eh_5 (by decide) (zg_ne eh_4 (by decide) (zg_ne eh_3 (by decide) (zg_ne eh_2 (by decide) h96)))), (zg_ne eh_5 (by decide) (zg_ne eh_4 (by decide) (zg_ne eh_3 (by decide) (zg_ne eh_2 (by decide) h97)))), (zg_ne eh_5 (by decide) (zg_ne eh_4 (by decide) (zg_ne eh_3 (by decide) (zg_ne eh_2 (by decide) h98)))), (zg_ne eh_5 (by decide) (zg_ne eh_4 (by decide) (zg_ne eh_3 (by decide) (zg_ne eh_2 (by decide) h99)))), ⟨_, (zg_ne eh_5 (by decide) (zg_ne eh_4 (by decide) (zg_ne eh_3 (by decide) (zg_ne eh_2 (by decide) h100))))⟩, ⟨_, (zg_ne eh_5 (by decide) (zg_ne eh_4 (by decide) (zg_ne eh_3 (by decide) (zg_ne eh_2 (by decide) h101))))⟩, ⟨_, (zg_ne eh_5 (by decide) (zg_ne eh_4 (by decide) (zg_ne eh_3 (by decide) (zg_ne eh_2 (by decide) h102))))⟩, ⟨_, (zg_ne eh_5 (by decide) (zg_ne eh_4 (by decide) (zg_ne eh_3 (by decide) (zg_ne eh_2 (by decide) h103))))⟩⟩⟩⟩
    · exact absurd (show (0 : Int32) ≤ 0 by decide) q_t
