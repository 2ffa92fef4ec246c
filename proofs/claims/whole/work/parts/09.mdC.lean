/-- the reference's planes by their parts -/
abbrev mA (ml : Nat → Int32) : Nat → Int32 := fun f => ml (4 * f)
abbrev mB (ml : Nat → Int32) : Nat → Int32 := fun f => ml (4 * f + 1)
abbrev mC (ml : Nat → Int32) : Nat → Int32 := fun f => ml (4 * f + 2)
abbrev mD (ml : Nat → Int32) : Nat → Int32 := fun f => ml (4 * f + 3)
theorem zdivx {a b : Int32} {v w : Int} (ha : a.toInt = v) (hb : b.toInt = w) (h1 : 0 < w) (hd : w ∣ v) : (a / b).toInt = v / w := by
  have h4 := Int32.toInt_lt a
  have h5 := Int32.le_toInt a
  rw [ha] at h4 h5
  obtain ⟨k, rfl⟩ := hd
  rw [Int32.toInt_div, ha, hb, Int.mul_tdiv_cancel_left _ (by omega), Int.mul_ediv_cancel_left _ (by omega)]
  have : -2147483648 ≤ k ∧ k < 2147483648 := by
    rcases Int.le_total 0 k with h | h
    · have := Int.mul_le_mul_of_nonneg_right (show 1 ≤ w by omega) h
      omega
    · have := Int.mul_le_mul_of_nonpos_right (show 1 ≤ w by omega) h
      omega
  exact Int.bmod_eq_of_le (by omega) (by omega)
theorem g4_as (x y z q : Int) : Nat.gcd (Nat.gcd (Nat.gcd q.natAbs x.natAbs) y.natAbs) z.natAbs = g4 x y z q := by
  unfold g4
  rw [Nat.gcd_comm q.natAbs x.natAbs, Nat.gcd_comm z.natAbs q.natAbs, Nat.gcd_assoc, Nat.gcd_assoc, Nat.gcd_assoc, ← Nat.gcd_assoc q.natAbs y.natAbs, Nat.gcd_comm q.natAbs y.natAbs, Nat.gcd_assoc y.natAbs]
theorem g4_sg (x y z q s : Int) (hs : s = 1 ∨ s = -1) : g4 (s * x) (s * y) (s * z) (s * q) = g4 x y z q := by
  rw [g4_mul]
  rcases hs with rfl | rfl <;> simp
/-- a determinant of bounded rows -/
theorem zbd_dt {a1 a2 a3 b1 b2 b3 c1 c2 c3 : Int32} {x1 x2 x3 y1 y2 y3 z1 z2 z3 : Int} {K L M : Int} (hK : 0 ≤ K) (hL : 0 ≤ L) (hM : 0 ≤ M) (ha1 : zbd K a1 x1) (ha2 : zbd K a2 x2) (ha3 : zbd K a3 x3) (hb1 : zbd L b1 y1) (hb2 : zbd L b2 y2) (hb3 : zbd L b3 y3) (hc1 : zbd M c1 z1) (hc2 : zbd M c2 z2) (hc3 : zbd M c3 z3) (hs : 6 * (K * L * M) + 2 * (L * M) + 2 * (K * M) + 2 * (K * L) ≤ 2147483647) : zbd (6 * (K * L * M)) (a1 * (b2 * c3 - c2 * b3) - b1 * (a2 * c3 - c2 * a3) + c1 * (a2 * b3 - b2 * a3)) (x1 * (y2 * z3 - z2 * y3) - y1 * (x2 * z3 - z2 * x3) + z1 * (x2 * y3 - y2 * x3)) := by
  have n1 : 0 ≤ L * M := Int.mul_nonneg hL hM
  have n2 : 0 ≤ K * M := Int.mul_nonneg hK hM
  have n3 : 0 ≤ K * L := Int.mul_nonneg hK hL
  have n4 : 0 ≤ K * L * M := Int.mul_nonneg n3 hM
  have e1 : K * (L * M + M * L) = 2 * (K * L * M) := by grind
  have e2 : L * (K * M + M * K) = 2 * (K * L * M) := by grind
  have e3 : M * (K * L + L * K) = 2 * (K * L * M) := by grind
  have p1 : M * L = L * M := Int.mul_comm _ _
  have p2 : M * K = K * M := Int.mul_comm _ _
  have p3 : L * K = K * L := Int.mul_comm _ _
  have k1 := zbd_mul ha1 (zbd_sub (zbd_mul hb2 hc3 (by omega)) (zbd_mul hc2 hb3 (by omega)) (by omega)) (by omega)
  have k2 := zbd_mul hb1 (zbd_sub (zbd_mul ha2 hc3 (by omega)) (zbd_mul hc2 ha3 (by omega)) (by omega)) (by omega)
  have k3 := zbd_mul hc1 (zbd_sub (zbd_mul ha2 hb3 (by omega)) (zbd_mul hb2 ha3 (by omega)) (by omega)) (by omega)
  exact zbd_wk (by omega) (zbd_add (zbd_sub k1 k2 (by omega)) k3 (by omega))
/-- the determinants of three planes -/
theorem zdm_ok {ml : Nat → Int32} (hb : zpb (mA ml) (mB ml) (mC ml) (mD ml)) {i j k : Nat} (hi : i < 12) (hj : j < 12) (hk : k < 12) : ∃ v0 v1 v2 v3 : Int, zbd 21600 (zdm ml i j k 0) v0 ∧ zbd 21600 (zdm ml i j k 1) v1 ∧ zbd 21600 (zdm ml i j k 2) v2 ∧ zbd 1296 (zdm ml i j k 3) v3 ∧ v3 = gd (iI (mA ml)) (iI (mB ml)) (iI (mC ml)) i j k ∧ gh (iI (mA ml)) (iI (mB ml)) (iI (mC ml)) (iI (mD ml)) i v0 v1 v2 v3 = 0 ∧ gh (iI (mA ml)) (iI (mB ml)) (iI (mC ml)) (iI (mD ml)) j v0 v1 v2 v3 = 0 ∧ gh (iI (mA ml)) (iI (mB ml)) (iI (mC ml)) (iI (mD ml)) k v0 v1 v2 v3 = 0 := by
  obtain ⟨a1, b1, c1, d1⟩ := hb i hi
  obtain ⟨a2, b2, c2, d2⟩ := hb j hj
  obtain ⟨a3, b3, c3, d3⟩ := hb k hk
  have k0 := zbd_dt (K := 100) (L := 6) (M := 6) (by decide) (by decide) (by decide) d1 d2 d3 b1 b2 b3 c1 c2 c3 (by decide)
  have k1 := zbd_dt (K := 6) (L := 100) (M := 6) (by decide) (by decide) (by decide) a1 a2 a3 d1 d2 d3 c1 c2 c3 (by decide)
  have k2 := zbd_dt (K := 6) (L := 6) (M := 100) (by decide) (by decide) (by decide) a1 a2 a3 b1 b2 b3 d1 d2 d3 (by decide)
  have k3 := zbd_dt (K := 6) (L := 6) (M := 6) (by decide) (by decide) (by decide) a1 a2 a3 b1 b2 b3 c1 c2 c3 (by decide)
  refine ⟨_, _, _, _, k0, k1, k2, k3, ?_, ?_, ?_, ?_⟩
  · simp only [gd, gn, gx1, gx2, gx3, iI]
    clear a1 a2 a3 b1 b2 b3 c1 c2 c3 d1 d2 d3 k0 k1 k2 k3 hb
    generalize (mA ml i).toInt = a1; generalize (mA ml j).toInt = a2; generalize (mA ml k).toInt = a3
    generalize (mB ml i).toInt = b1; generalize (mB ml j).toInt = b2; generalize (mB ml k).toInt = b3
    generalize (mC ml i).toInt = c1; generalize (mC ml j).toInt = c2; generalize (mC ml k).toInt = c3
    grind
  all_goals
    simp only [gh, iI]
    clear a1 a2 a3 b1 b2 b3 c1 c2 c3 d1 d2 d3 k0 k1 k2 k3 hb
    generalize (mA ml i).toInt = a1; generalize (mA ml j).toInt = a2; generalize (mA ml k).toInt = a3
    generalize (mB ml i).toInt = b1; generalize (mB ml j).toInt = b2; generalize (mB ml k).toInt = b3
    generalize (mC ml i).toInt = c1; generalize (mC ml j).toInt = c2; generalize (mC ml k).toInt = c3
    generalize (mD ml i).toInt = d1; generalize (mD ml j).toInt = d2; generalize (mD ml k).toInt = d3
    grind
