/-- a joint that may be told, as the class tests it; as the reference tests it -/
def cJt (J : Nat) (ms ml : Nat → Int32) (a b c d : Int32) : Prop := ((-6 ≤ a ∧ a ≤ 6) ∧ (-6 ≤ b ∧ b ≤ 6) ∧ (-6 ≤ c ∧ c ≤ 6) ∧ (-100 ≤ d ∧ d ≤ 100) ∧ ((if a * ms 0 < 0 then a * ms 0 else 0) + (if b * ms 1 < 0 then b * ms 1 else 0) + (if c * ms 2 < 0 then c * ms 2 else 0) < d ∧ d < (if 0 < a * ms 0 then a * ms 0 else 0) + (if 0 < b * ms 1 then b * ms 1 else 0) + (if 0 < c * ms 2 then c * ms 2 else 0))) ∧ ¬ ∃ p, p < J ∧ mA ml p * b = mB ml p * a ∧ mA ml p * c = mC ml p * a ∧ mB ml p * c = mC ml p * b ∧ mA ml p * d = mD ml p * a ∧ mB ml p * d = mD ml p * b ∧ mC ml p * d = mD ml p * c
def rJt (J : Nat) (ms ml : Nat → Int32) (a b c d : Int32) : Prop := (((-6 ≤ a ∧ a ≤ 6) ∧ (-6 ≤ b ∧ b ≤ 6) ∧ (-6 ≤ c ∧ c ≤ 6) ∧ (-100 ≤ d ∧ d ≤ 100) ∧ ¬ (a = 0 ∧ b = 0 ∧ c = 0)) ∧ (zlo (zwk a b c ms) 3 < d ∧ d < zhi (zwk a b c ms) 3) ∧ ∀ j, j < J → ¬ (a * ml (4 * j + 1) = b * ml (4 * j) ∧ a * ml (4 * j + 2) = c * ml (4 * j) ∧ b * ml (4 * j + 2) = c * ml (4 * j + 1) ∧ a * ml (4 * j + 3) = d * ml (4 * j) ∧ b * ml (4 * j + 3) = d * ml (4 * j + 1) ∧ c * ml (4 * j + 3) = d * ml (4 * j + 2)))
theorem zlo_s {w : Nat → Int32} (n : Nat) : zlo w (n + 1) = zlo w n + (if w n < 0 then w n else 0) := by
  simp only [zlo]
  split
  · rfl
  · exact (Int32.add_zero _).symm
theorem zhi_s {w : Nat → Int32} (n : Nat) : zhi w (n + 1) = zhi w n + (if 0 < w n then w n else 0) := by
  simp only [zhi]
  split
  · rfl
  · exact (Int32.add_zero _).symm
theorem zlo_3 {ms : Nat → Int32} {a b c : Int32} : zlo (zwk a b c ms) 3 = (if a * ms 0 < 0 then a * ms 0 else 0) + (if b * ms 1 < 0 then b * ms 1 else 0) + (if c * ms 2 < 0 then c * ms 2 else 0) := by
  rw [zlo_s, zlo_s, zlo_s]
  show (0 : Int32) + _ + _ + _ = _
  rw [Int32.zero_add]
  rfl
theorem zhi_3 {ms : Nat → Int32} {a b c : Int32} : zhi (zwk a b c ms) 3 = (if 0 < a * ms 0 then a * ms 0 else 0) + (if 0 < b * ms 1 then b * ms 1 else 0) + (if 0 < c * ms 2 then c * ms 2 else 0) := by
  rw [zhi_s, zhi_s, zhi_s]
  show (0 : Int32) + _ + _ + _ = _
  rw [Int32.zero_add]
  rfl
section IVJ
variable {J : Nat} {ms ml : Nat → Int32} {a b c d : Int32}
theorem iJt : cJt J ms ml a b c d ↔ rJt J ms ml a b c d := by
  unfold cJt rJt
  rw [zlo_3, zhi_3]
  have hz : ((if a * ms 0 < 0 then a * ms 0 else 0) + (if b * ms 1 < 0 then b * ms 1 else 0) + (if c * ms 2 < 0 then c * ms 2 else 0) < d ∧ d < (if 0 < a * ms 0 then a * ms 0 else 0) + (if 0 < b * ms 1 then b * ms 1 else 0) + (if 0 < c * ms 2 then c * ms 2 else 0)) → ¬ (a = 0 ∧ b = 0 ∧ c = 0) := by
    rintro ⟨h1, h2⟩ ⟨rfl, rfl, rfl⟩
    simp only [Int32.zero_mul] at h1 h2
    rw [Int32.lt_iff_toInt_lt] at h1 h2
    have e : ((if (0 : Int32) < 0 then (0 : Int32) else 0) + (if (0 : Int32) < 0 then (0 : Int32) else 0) + (if (0 : Int32) < 0 then (0 : Int32) else 0)).toInt = 0 := by decide
    rw [e] at h1 h2
    omega
  have hsw : ∀ x y u v : Int32, x * y = u * v ↔ v * u = y * x := fun x y u v => by rw [Int32.mul_comm x y, Int32.mul_comm u v]; exact eq_comm
  have hx : (¬ ∃ p, p < J ∧ mA ml p * b = mB ml p * a ∧ mA ml p * c = mC ml p * a ∧ mB ml p * c = mC ml p * b ∧ mA ml p * d = mD ml p * a ∧ mB ml p * d = mD ml p * b ∧ mC ml p * d = mD ml p * c) ↔ ∀ j, j < J → ¬ (a * ml (4 * j + 1) = b * ml (4 * j) ∧ a * ml (4 * j + 2) = c * ml (4 * j) ∧ b * ml (4 * j + 2) = c * ml (4 * j + 1) ∧ a * ml (4 * j + 3) = d * ml (4 * j) ∧ b * ml (4 * j + 3) = d * ml (4 * j + 1) ∧ c * ml (4 * j + 3) = d * ml (4 * j + 2)) := by
    constructor
    · rintro h j hj ⟨k1, k2, k3, k4, k5, k6⟩
      exact h ⟨j, hj, (hsw _ _ _ _).mpr k1, (hsw _ _ _ _).mpr k2, (hsw _ _ _ _).mpr k3, (hsw _ _ _ _).mpr k4, (hsw _ _ _ _).mpr k5, (hsw _ _ _ _).mpr k6⟩
    · rintro h ⟨j, hj, k1, k2, k3, k4, k5, k6⟩
      exact h j hj ⟨(hsw _ _ _ _).mp k1, (hsw _ _ _ _).mp k2, (hsw _ _ _ _).mp k3, (hsw _ _ _ _).mp k4, (hsw _ _ _ _).mp k5, (hsw _ _ _ _).mp k6⟩
  rw [hx]
  constructor
  · rintro ⟨⟨k1, k2, k3, k4, k5⟩, k6⟩
    exact ⟨⟨k1, k2, k3, k4, hz k5⟩, k5, k6⟩
  · rintro ⟨⟨k1, k2, k3, k4, -⟩, k5, k6⟩
    exact ⟨⟨k1, k2, k3, k4, k5⟩, k6⟩
theorem zite_lo {x : Int32} {v M : Int} (h : zbd M x v) (hM : 0 ≤ M) : zbd M (if x < 0 then x else 0) (min 0 v) := by
  have z0 : zbd 0 (0 : Int32) 0 := ⟨rfl, by decide, by decide⟩
  obtain ⟨h1, h2, h3⟩ := h
  split
  · next q => have := (zbd_lt ⟨h1, h2, h3⟩ z0).mp q
              rw [Int.min_eq_right (by omega)]; exact ⟨h1, h2, h3⟩
  · next q => have := mt (zbd_lt ⟨h1, h2, h3⟩ z0).mpr q
              rw [Int.min_eq_left (by omega)]; exact ⟨rfl, by omega, by omega⟩
theorem zite_hi {x : Int32} {v M : Int} (h : zbd M x v) (hM : 0 ≤ M) : zbd M (if 0 < x then x else 0) (max 0 v) := by
  have z0 : zbd 0 (0 : Int32) 0 := ⟨rfl, by decide, by decide⟩
  obtain ⟨h1, h2, h3⟩ := h
  split
  · next q => have := (zbd_lt z0 ⟨h1, h2, h3⟩).mp q
              rw [Int.max_eq_right (by omega)]; exact ⟨h1, h2, h3⟩
  · next q => have := mt (zbd_lt z0 ⟨h1, h2, h3⟩).mpr q
              rw [Int.max_eq_left (by omega)]; exact ⟨rfl, by omega, by omega⟩
theorem iJt_pl (hJ : J < 6) (hp : iPl J ms ml) (h : cJt J ms ml a b c d) : iPl (J + 1) ms (zml ml J a b c d) := by
  obtain ⟨⟨k1, k2, k3, k4, k5, k6⟩, k7⟩ := h
  obtain ⟨h1, h2, h3, h4, h5⟩ := hp
  have ba := zbd_r (M := 6) (m := 6) rfl rfl k1.1 k1.2
  have bb := zbd_r (M := 6) (m := 6) rfl rfl k2.1 k2.2
  have bc := zbd_r (M := 6) (m := 6) rfl rfl k3.1 k3.2
  have bd := zbd_r (M := 100) (m := 100) rfl rfl k4.1 k4.2
  have s0 : zbd 8 (ms 0) (ms 0).toInt := ⟨rfl, by have := (h2 0 (by decide)).1; omega, (h2 0 (by decide)).2⟩
  have s1 : zbd 8 (ms 1) (ms 1).toInt := ⟨rfl, by have := (h2 1 (by decide)).1; omega, (h2 1 (by decide)).2⟩
  have s2 : zbd 8 (ms 2) (ms 2).toInt := ⟨rfl, by have := (h2 2 (by decide)).1; omega, (h2 2 (by decide)).2⟩
  have m0 := zbd_mul ba s0 (by decide)
  have m1 := zbd_mul bb s1 (by decide)
  have m2 := zbd_mul bc s2 (by decide)
  have lo := zbd_add (zbd_add (zite_lo m0 (by decide)) (zite_lo m1 (by decide)) (by decide)) (zite_lo m2 (by decide)) (by decide)
  have hi := zbd_add (zbd_add (zite_hi m0 (by decide)) (zite_hi m1 (by decide)) (by decide)) (zite_hi m2 (by decide)) (by decide)
  have hcut : gCut (ms 0).toInt (ms 1).toInt (ms 2).toInt a.toInt b.toInt c.toInt d.toInt := ⟨(zbd_lt lo bd).mp k5, (zbd_lt bd hi).mp k6⟩
  unfold iPl
  rw [zmlA, zmlB, zmlC, zmlD]
  have hne : ∀ g, 6 ≤ g → g ≠ J := fun g hg => by omega
  refine ⟨fun g hg => ?_, h2, ?_, fun j hj => ?_, fun i j hij hj => ?_⟩
  · by_cases e : g = J
    · subst e; rw [pk_us, pk_us, pk_us, pk_us]; exact ⟨ba, bb, bc, bd⟩
    · rw [pk_un e, pk_un e, pk_un e, pk_un e]; exact h1 g hg
  · unfold gBox iI
    rw [pk_un (hne 6 (by decide)), pk_un (hne 6 (by decide)), pk_un (hne 6 (by decide)), pk_un (hne 6 (by decide)), pk_un (hne 7 (by decide)), pk_un (hne 7 (by decide)), pk_un (hne 7 (by decide)), pk_un (hne 7 (by decide)), pk_un (hne 8 (by decide)), pk_un (hne 8 (by decide)), pk_un (hne 8 (by decide)), pk_un (hne 8 (by decide)), pk_un (hne 9 (by decide)), pk_un (hne 9 (by decide)), pk_un (hne 9 (by decide)), pk_un (hne 9 (by decide)), pk_un (hne 10 (by decide)), pk_un (hne 10 (by decide)), pk_un (hne 10 (by decide)), pk_un (hne 10 (by decide)), pk_un (hne 11 (by decide)), pk_un (hne 11 (by decide)), pk_un (hne 11 (by decide)), pk_un (hne 11 (by decide))]
    exact h3
  · by_cases e : j = J
    · subst e; rw [pk_us, pk_us, pk_us, pk_us]; exact hcut
    · rw [pk_un e, pk_un e, pk_un e, pk_un e]; exact h4 j (by omega)
  · have ei : i ≠ J := by omega
    rw [pk_un ei, pk_un ei, pk_un ei, pk_un ei]
    by_cases e : j = J
    · subst e
      rw [pk_us, pk_us, pk_us, pk_us]
      intro q
      obtain ⟨b1, b2, b3, b4⟩ := h1 i (by omega)
      obtain ⟨q1, q2, q3, q4, q5, q6⟩ := q
      exact k7 ⟨i, hij, (zbd_eq (zbd_mul b1 bb (by decide)) (zbd_mul b2 ba (by decide))).mpr q1, (zbd_eq (zbd_mul b1 bc (by decide)) (zbd_mul b3 ba (by decide))).mpr q2, (zbd_eq (zbd_mul b2 bc (by decide)) (zbd_mul b3 bb (by decide))).mpr q3, (zbd_eq (zbd_mul b1 bd (by decide)) (zbd_mul b4 ba (by decide))).mpr q4, (zbd_eq (zbd_mul b2 bd (by decide)) (zbd_mul b4 bb (by decide))).mpr q5, (zbd_eq (zbd_mul b3 bd (by decide)) (zbd_mul b4 bc (by decide))).mpr q6⟩
    · rw [pk_un e, pk_un e, pk_un e, pk_un e]; exact h5 i j hij (by omega)
end IVJ
