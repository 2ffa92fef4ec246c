def zcap (J : Nat) : Nat := (6 + J) * (5 + J) * (4 + J) / 6
theorem zcap_s : ∀ j, j < 6 → zcap j + (6 + j) * (5 + j) / 2 = zcap (j + 1) := by decide
theorem zcap_le : ∀ j, j ≤ 6 → zcap j ≤ 220 := by decide
/-- the class's points, with what was before each joint -/
def iPt (J : Nat) (ms ml pb : Nat → Int32) (S : zPS) : Prop := zPg (zkn J) (mA ml) (mB ml) (mC ml) (mD ml) (ms 0) (ms 1) (ms 2) S ∧ S.1 ≤ zcap J ∧ ∃ cs : Nat → Nat, (∀ j, j < J → pb j = nI (cs j) ∧ cs j ≤ S.1 ∧ cs j ≤ zcap j ∧ ∀ a b c d, zmm (cs j, S.2) a b c d ↔ gW (knb (zkn j)) (iI (mA ml)) (iI (mB ml)) (iI (mC ml)) (iI (mD ml)) (ms 0).toInt (ms 1).toInt (ms 2).toInt a b c d) ∧ ∀ i j, i ≤ j → j < J → cs i ≤ cs j
theorem gW_ci {kn : Nat → Prop} {A B C D A' B' C' D' : Nat → Int} {sx sy sz : Int} (h : ∀ g, g < 12 → kn g → A' g = A g ∧ B' g = B g ∧ C' g = C g ∧ D' g = D g) {x y z q : Int} : gW kn A B C D sx sy sz x y z q ↔ gW kn A' B' C' D' sx sy sz x y z q :=
  ⟨gW_cg h, gW_cg fun g hg hk => ⟨(h g hg hk).1.symm, (h g hg hk).2.1.symm, (h g hg hk).2.2.1.symm, (h g hg hk).2.2.2.symm⟩⟩
theorem zPg_cg {kn sx sy sz : Int32} {A B C D A' B' C' D' : Nat → Int32} {S : zPS} (h : ∀ g, g < 12 → bt kn g = true → A' g = A g ∧ B' g = B g ∧ C' g = C g ∧ D' g = D g) (hg : zPg kn A B C D sx sy sz S) : zPg kn A' B' C' D' sx sy sz S := by
  obtain ⟨h1, h2, h3⟩ := hg
  refine ⟨fun p hp f hf => ?_, h2, fun a b c d => (h3 a b c d).trans (gW_ci fun g hg hk => ?_)⟩
  · obtain ⟨i1, i2⟩ := h1 p hp f hf
    have hh : f < 12 → bt kn f = true → gh (iI A') (iI B') (iI C') (iI D') f (S.2.1 p).toInt (S.2.2.1 p).toInt (S.2.2.2.1 p).toInt (S.2.2.2.2.1 p).toInt = gh (iI A) (iI B) (iI C) (iI D) f (S.2.1 p).toInt (S.2.2.1 p).toInt (S.2.2.2.1 p).toInt (S.2.2.2.2.1 p).toInt := fun k1 k2 => by
      obtain ⟨e1, e2, e3, e4⟩ := h f k1 k2
      simp only [gh, iI, e1, e2, e3, e4]
    refine ⟨i1.trans (and_congr_right fun k1 => and_congr_right fun k2 => ?_), i2.trans (and_congr_right fun k1 => and_congr_right fun k2 => ?_)⟩
    · rw [hh k1 k2]
    · rw [hh k1 k2]
  · obtain ⟨e1, e2, e3, e4⟩ := h g hg hk
    simp only [iI, e1, e2, e3, e4, and_self]
theorem zmlA {ml : Nat → Int32} {J : Nat} {a b c d : Int32} : mA (zml ml J a b c d) = upd (mA ml) J a := by
  funext f
  by_cases e : f = J
  · subst e
    rw [pk_us]
    show upd (upd (upd (upd ml (4 * f) a) (4 * f + 1) b) (4 * f + 2) c) (4 * f + 3) d (4 * f) = a
    rw [pk_un (by omega), pk_un (by omega), pk_un (by omega), pk_us]
  · rw [pk_un e]
    show upd (upd (upd (upd ml (4 * J) a) (4 * J + 1) b) (4 * J + 2) c) (4 * J + 3) d (4 * f) = _
    rw [pk_un (by omega), pk_un (by omega), pk_un (by omega), pk_un (by omega)]
theorem zmlB {ml : Nat → Int32} {J : Nat} {a b c d : Int32} : mB (zml ml J a b c d) = upd (mB ml) J b := by
  funext f
  by_cases e : f = J
  · subst e
    rw [pk_us]
    show upd (upd (upd (upd ml (4 * f) a) (4 * f + 1) b) (4 * f + 2) c) (4 * f + 3) d (4 * f + 1) = b
    rw [pk_un (by omega), pk_un (by omega), pk_us]
  · rw [pk_un e]
    show upd (upd (upd (upd ml (4 * J) a) (4 * J + 1) b) (4 * J + 2) c) (4 * J + 3) d (4 * f + 1) = _
    rw [pk_un (by omega), pk_un (by omega), pk_un (by omega), pk_un (by omega)]
theorem zmlC {ml : Nat → Int32} {J : Nat} {a b c d : Int32} : mC (zml ml J a b c d) = upd (mC ml) J c := by
  funext f
  by_cases e : f = J
  · subst e
    rw [pk_us]
    show upd (upd (upd (upd ml (4 * f) a) (4 * f + 1) b) (4 * f + 2) c) (4 * f + 3) d (4 * f + 2) = c
    rw [pk_un (by omega), pk_us]
  · rw [pk_un e]
    show upd (upd (upd (upd ml (4 * J) a) (4 * J + 1) b) (4 * J + 2) c) (4 * J + 3) d (4 * f + 2) = _
    rw [pk_un (by omega), pk_un (by omega), pk_un (by omega), pk_un (by omega)]
theorem zmlD {ml : Nat → Int32} {J : Nat} {a b c d : Int32} : mD (zml ml J a b c d) = upd (mD ml) J d := by
  funext f
  by_cases e : f = J
  · subst e
    rw [pk_us]
    show upd (upd (upd (upd ml (4 * f) a) (4 * f + 1) b) (4 * f + 2) c) (4 * f + 3) d (4 * f + 3) = d
    rw [pk_us]
  · rw [pk_un e]
    show upd (upd (upd (upd ml (4 * J) a) (4 * J + 1) b) (4 * J + 2) c) (4 * J + 3) d (4 * f + 3) = _
    rw [pk_un (by omega), pk_un (by omega), pk_un (by omega), pk_un (by omega)]
theorem zmm_pr {S S' : zPS} {n : Nat} (hr : zPr S S') (hn : n ≤ S.1) (a b c d : Int) : zmm (n, S'.2) a b c d ↔ zmm (n, S.2) a b c d := by
  constructor
  · rintro ⟨p, hp, k1, k2, k3, k4⟩
    obtain ⟨e1, e2, e3, e4⟩ := hr.2 p (Nat.lt_of_lt_of_le hp hn)
    exact ⟨p, hp, (congrArg _ e1).symm.trans k1, (congrArg _ e2).symm.trans k2, (congrArg _ e3).symm.trans k3, (congrArg _ e4).symm.trans k4⟩
  · rintro ⟨p, hp, k1, k2, k3, k4⟩
    obtain ⟨e1, e2, e3, e4⟩ := hr.2 p (Nat.lt_of_lt_of_le hp hn)
    exact ⟨p, hp, (congrArg _ e1).trans k1, (congrArg _ e2).trans k2, (congrArg _ e3).trans k3, (congrArg _ e4).trans k4⟩
section IVC
variable {J : Nat} {ms ml pb : Nat → Int32} {S : zPS}
theorem zkn_ne (hJ : J ≤ 6) {j g : Nat} (hj : j ≤ J) (hj6 : J < 6) (hg : g < 12) (hk : bt (zkn j) g = true) : g ≠ J := by
  have := (zkn_bt j (by omega) g (by omega)).mp hk
  omega
theorem iPt_add (hJ : J < 6) {a b c d : Int32} (h : iPl (J + 1) ms (zml ml J a b c d)) (hp : iPt J ms ml pb S) :
    iPt (J + 1) ms (zml ml J a b c d) (upd pb J (nI S.1)) (zJS (zkn J) (ms 0) (ms 1) (ms 2) (mA ml) (mB ml) (mC ml) (mD ml) J S a b c d) ∧ (zJS (zkn J) (ms 0) (ms 1) (ms 2) (mA ml) (mB ml) (mC ml) (mD ml) J S a b c d).1 ≤ 220 ∧ S.1 + zco (zkn J) 12 0 ≤ 220 := by
  obtain ⟨hg, hc, cs, h1, h2⟩ := hp
  have hb := h.1
  have hs := h.2.1
  have hcap := zcap_s J hJ
  have hcap6 := zcap_le (J + 1) (by omega)
  have hco := zco_kn J hJ
  rw [zmlA, zmlB, zmlC, zmlD] at hb
  have hg' := zPg_cg (A' := upd (mA ml) J a) (B' := upd (mB ml) J b) (C' := upd (mC ml) J c) (D' := upd (mD ml) J d) (fun g hg hk => by
    have := zkn_ne (by omega) (Nat.le_refl J) hJ hg hk
    exact ⟨pk_un this, pk_un this, pk_un this, pk_un this⟩) hg
  have hk : ¬ bt (zkn J) J = true := by rw [zkn_bt J (by omega) J (by omega)]; omega
  obtain ⟨q1, q2⟩ := zPg_face hb (by omega) (hs 0 (by decide)) (hs 1 (by decide)) (hs 2 (by decide)) hk hg'
  have hle := zout_le (kn := zkn J ||| (1 <<< (nI J &&& 31))) (sx := ms 0) (sy := ms 1) (sz := ms 2) (ot := zkn J) (A := upd (mA ml) J a) (B := upd (mB ml) J b) (C := upd (mC ml) J c) (D := upd (mD ml) J d) (f := J) 12 0 (ztl (upd (mA ml) J a) (upd (mB ml) J b) (upd (mC ml) J c) (upd (mD ml) J d) J S S.1)
  have hle' : (zJS (zkn J) (ms 0) (ms 1) (ms 2) (mA ml) (mB ml) (mC ml) (mD ml) J S a b c d).1 ≤ S.1 + zco (zkn J) 12 0 := hle
  have hr : zPr S (zJS (zkn J) (ms 0) (ms 1) (ms 2) (mA ml) (mB ml) (mC ml) (mD ml) J S a b c d) := q2
  refine ⟨⟨?_, by omega, updN cs J S.1, fun j hj => ?_, fun i j hij hj => ?_⟩, by omega, by omega⟩
  · rw [zmlA, zmlB, zmlC, zmlD, ← zkn_s J hJ]
    exact q1
  · by_cases e : j = J
    · subst e
      rw [updN_s, pk_us]
      refine ⟨rfl, hr.1, by omega, fun x y z q => ?_⟩
      rw [zmm_pr hr (Nat.le_refl _)]
      refine (hg'.2.2 x y z q).trans ?_
      rw [zmlA, zmlB, zmlC, zmlD]
    · obtain ⟨k1, k2, k3, k4⟩ := h1 j (by omega)
      rw [updN_n e, pk_un e]
      refine ⟨k1, Nat.le_trans k2 hr.1, k3, fun x y z q => ?_⟩
      rw [zmm_pr hr k2]
      refine (k4 x y z q).trans (gW_ci fun g hg hk => ?_)
      have := zkn_ne (by omega) (show j ≤ J by omega) hJ hg hk
      rw [zmlA, zmlB, zmlC, zmlD]
      simp only [iI, pk_un this, and_self]
  · by_cases e : j = J
    · subst e
      rw [updN_s]
      by_cases e' : i = j
      · subst e'; rw [updN_s]; exact Nat.le_refl _
      · rw [updN_n e']; exact (h1 i (by omega)).2.1
    · rw [updN_n e, updN_n (by omega)]
      exact h2 i j hij (by omega)
theorem iPl_less {j : Nat} (h : iPl (j + 1) ms ml) : iPl j ms ml := ⟨h.1, h.2.1, h.2.2.1, fun i hi => h.2.2.2.1 i (by omega), fun i k hik hk => h.2.2.2.2 i k hik (by omega)⟩
theorem zmk_at {i : Nat} {m : Int32} {a : Nat → Int32} {p : Nat} (h : p < i) : zmk i m a p = a p &&& m := if_pos h
theorem iPt_drop {j : Nat} (hj : j < 6) (hp : iPt (j + 1) ms ml pb S) : ∃ c2, pb j = nI c2 ∧ c2 ≤ 220 ∧ iPt j ms ml pb (zUS S j c2) := by
  obtain ⟨hg, hc, cs, h1, h2⟩ := hp
  obtain ⟨k1, k2, k3, k4⟩ := h1 j (by omega)
  have hcap := zcap_le j (by omega)
  refine ⟨cs j, k1, by omega, ⟨fun p hp f hf => ?_, ⟨fun p hp => hg.2.1.1 p (Nat.lt_of_lt_of_le hp k2), fun p r hp hr => hg.2.1.2 p r (Nat.lt_of_lt_of_le hp k2) (Nat.lt_of_lt_of_le hr k2)⟩, k4⟩, k3, cs, fun i hi => ?_, fun a b hab hb => h2 a b hab (by omega)⟩
  · have hp' : p < cs j := hp
    obtain ⟨i1, i2⟩ := hg.1 p (Nat.lt_of_lt_of_le hp' k2) f hf
    have hkn : bt (zkn j) f = true ↔ bt (zkn (j + 1)) f = true ∧ f ≠ j := by
      rw [zkn_bt j (by omega) f hf, zkn_bt (j + 1) (by omega) f hf]; omega
    show (bt (zmk (cs j) ((1 <<< (nI j &&& 31)) ^^^ -1) S.2.2.2.2.2.1 p) f = true ↔ _) ∧ (bt (zmk (cs j) ((1 <<< (nI j &&& 31)) ^^^ -1) S.2.2.2.2.2.2 p) f = true ↔ _)
    rw [zmk_at hp', zmk_at hp', b_and, b_and, bt_not _ hf, zbt_sh hf (by omega), Bool.and_eq_true, Bool.and_eq_true, i1, i2, hkn]
    have hd : (!decide (f = j)) = true ↔ f ≠ j := by simp
    rw [hd]
    exact ⟨⟨fun q => ⟨q.1.1, ⟨q.1.2.1, q.2⟩, q.1.2.2⟩, fun q => ⟨⟨q.1, q.2.1.1, q.2.2⟩, q.2.1.2⟩⟩, ⟨fun q => ⟨q.1.1, ⟨q.1.2.1, q.2⟩, q.1.2.2⟩, fun q => ⟨⟨q.1, q.2.1.1, q.2.2⟩, q.2.1.2⟩⟩⟩
  · obtain ⟨m1, m2, m3, m4⟩ := h1 i (by omega)
    exact ⟨m1, h2 i j (by omega) (by omega), m3, m4⟩
end IVC
