/-- an int that is v, and v is within M -/
def zbd (M : Int) (a : Int32) (v : Int) : Prop := a.toInt = v ∧ -M ≤ v ∧ v ≤ M
theorem zbd_self {M : Int} {a : Int32} (h1 : -M ≤ a.toInt) (h2 : a.toInt ≤ M) : zbd M a a.toInt := ⟨rfl, h1, h2⟩
theorem zbd_wk {M N : Int} {a : Int32} {v : Int} (h : M ≤ N) (ha : zbd M a v) : zbd N a v := ⟨ha.1, by have := ha.2.1; omega, by have := ha.2.2; omega⟩
theorem zbd_add {M N : Int} {a b : Int32} {v w : Int} (ha : zbd M a v) (hb : zbd N b w) (h : M + N ≤ 2147483647) : zbd (M + N) (a + b) (v + w) := by
  obtain ⟨a1, a2, a3⟩ := ha
  obtain ⟨b1, b2, b3⟩ := hb
  refine ⟨?_, by omega, by omega⟩
  rw [Int32.toInt_add, a1, b1]
  exact Int.bmod_eq_of_le (by omega) (by omega)
theorem zbd_sub {M N : Int} {a b : Int32} {v w : Int} (ha : zbd M a v) (hb : zbd N b w) (h : M + N ≤ 2147483647) : zbd (M + N) (a - b) (v - w) := by
  obtain ⟨a1, a2, a3⟩ := ha
  obtain ⟨b1, b2, b3⟩ := hb
  refine ⟨?_, by omega, by omega⟩
  rw [Int32.toInt_sub, a1, b1]
  exact Int.bmod_eq_of_le (by omega) (by omega)
theorem zbd_neg {M : Int} {a : Int32} {v : Int} (ha : zbd M a v) (h : M ≤ 2147483647) : zbd M (-a) (-v) := by
  obtain ⟨a1, a2, a3⟩ := ha
  refine ⟨?_, by omega, by omega⟩
  rw [Int32.toInt_neg, a1]
  exact Int.bmod_eq_of_le (by omega) (by omega)
theorem zab_mul {M N v w : Int} (a2 : -M ≤ v) (a3 : v ≤ M) (b2 : -N ≤ w) (b3 : w ≤ N) : -(M * N) ≤ v * w ∧ v * w ≤ M * N := by
  have hM : 0 ≤ M := by omega
  have hN : 0 ≤ N := by omega
  have h1 : 0 ≤ (M - v) * (N + w) := Int.mul_nonneg (by omega) (by omega)
  have h2 : 0 ≤ (M + v) * (N - w) := Int.mul_nonneg (by omega) (by omega)
  have h3 : 0 ≤ (M - v) * (N - w) := Int.mul_nonneg (by omega) (by omega)
  have h4 : 0 ≤ (M + v) * (N + w) := Int.mul_nonneg (by omega) (by omega)
  have e1 : (M - v) * (N + w) = M * N + M * w - v * N - v * w := by clear h1 h2 h3 h4; grind
  have e2 : (M + v) * (N - w) = M * N - M * w + v * N - v * w := by clear h1 h2 h3 h4; grind
  have e3 : (M - v) * (N - w) = M * N - M * w - v * N + v * w := by clear h1 h2 h3 h4; grind
  have e4 : (M + v) * (N + w) = M * N + M * w + v * N + v * w := by clear h1 h2 h3 h4; grind
  omega
theorem zbd_mul {M N : Int} {a b : Int32} {v w : Int} (ha : zbd M a v) (hb : zbd N b w) (h : M * N ≤ 2147483647) : zbd (M * N) (a * b) (v * w) := by
  obtain ⟨a1, a2, a3⟩ := ha
  obtain ⟨b1, b2, b3⟩ := hb
  obtain ⟨c1, c2⟩ := zab_mul a2 a3 b2 b3
  refine ⟨?_, c1, c2⟩
  rw [Int32.toInt_mul, a1, b1]
  exact Int.bmod_eq_of_le (by omega) (by omega)
theorem zbd_lt {M N : Int} {a b : Int32} {v w : Int} (ha : zbd M a v) (hb : zbd N b w) : a < b ↔ v < w := by rw [Int32.lt_iff_toInt_lt, ha.1, hb.1]
theorem zbd_le {M N : Int} {a b : Int32} {v w : Int} (ha : zbd M a v) (hb : zbd N b w) : a ≤ b ↔ v ≤ w := by rw [Int32.le_iff_toInt_le, ha.1, hb.1]
theorem zbd_eq {M N : Int} {a b : Int32} {v w : Int} (ha : zbd M a v) (hb : zbd N b w) : a = b ↔ v = w := by rw [← Int32.toInt_inj, ha.1, hb.1]
theorem zbd_lit {M : Int} {a : Int32} {v : Int} (h : a.toInt = v) (h1 : -M ≤ v) (h2 : v ≤ M) : zbd M a v := ⟨h, h1, h2⟩
theorem zbd_ht {a b c d x y z q : Int32} {a' b' c' d' x' y' z' q' : Int} (ha : zbd 6 a a') (hb : zbd 6 b b') (hc : zbd 6 c c') (hd : zbd 100 d d') (hx : zbd 10368 x x') (hy : zbd 10368 y y') (hz : zbd 10368 z z') (hq : zbd 1296 q q') : zbd 316224 (a * x + b * y + c * z - d * q) (a' * x' + b' * y' + c' * z' - d' * q') :=
  zbd_wk (by decide) (zbd_sub (zbd_add (zbd_add (zbd_mul ha hx (by decide)) (zbd_mul hb hy (by decide)) (by decide)) (zbd_mul hc hz (by decide)) (by decide)) (zbd_mul hd hq (by decide)) (by decide))
/-- the common divisor of four -/
def g4 (x y z q : Int) : Nat := Nat.gcd (Nat.gcd x.natAbs y.natAbs) (Nat.gcd z.natAbs q.natAbs)
theorem g4_mul (k x y z q : Int) : g4 (k * x) (k * y) (k * z) (k * q) = k.natAbs * g4 x y z q := by
  simp only [g4, Int.natAbs_mul, Nat.gcd_mul_left]
theorem g4_pos {x y z q : Int} (h : 0 < q) : 0 < g4 x y z q := by
  unfold g4
  exact Nat.gcd_pos_of_pos_right _ (Nat.gcd_pos_of_pos_right _ (by omega))
theorem g4_d1 (x y z q : Int) : (g4 x y z q : Int) ∣ x := Int.ofNat_dvd_left.mpr (Nat.dvd_trans (Nat.gcd_dvd_left _ _) (Nat.gcd_dvd_left _ _))
theorem g4_d2 (x y z q : Int) : (g4 x y z q : Int) ∣ y := Int.ofNat_dvd_left.mpr (Nat.dvd_trans (Nat.gcd_dvd_left _ _) (Nat.gcd_dvd_right _ _))
theorem g4_d3 (x y z q : Int) : (g4 x y z q : Int) ∣ z := Int.ofNat_dvd_left.mpr (Nat.dvd_trans (Nat.gcd_dvd_right _ _) (Nat.gcd_dvd_left _ _))
theorem g4_d4 (x y z q : Int) : (g4 x y z q : Int) ∣ q := Int.ofNat_dvd_left.mpr (Nat.dvd_trans (Nat.gcd_dvd_right _ _) (Nat.gcd_dvd_right _ _))
/-- lowest terms: one of a kind -/
theorem g_red {x y z q x' y' z' q' : Int} (hq : 0 < q) (hq' : 0 < q') (h : g4 x y z q = 1) (h' : g4 x' y' z' q' = 1) (h1 : x * q' = x' * q) (h2 : y * q' = y' * q) (h3 : z * q' = z' * q) : x = x' ∧ y = y' ∧ z = z' ∧ q = q' := by
  have e1 := g4_mul q' x y z q
  have e2 := g4_mul q x' y' z' q'
  have e3 : g4 (q' * x) (q' * y) (q' * z) (q' * q) = g4 (q * x') (q * y') (q * z') (q * q') := by
    rw [Int.mul_comm q' x, Int.mul_comm q' y, Int.mul_comm q' z, h1, h2, h3, Int.mul_comm x' q, Int.mul_comm y' q, Int.mul_comm z' q, Int.mul_comm q' q]
  rw [e1, e2, h, h'] at e3
  have e4 : q = q' := by omega
  subst e4
  exact ⟨Int.eq_of_mul_eq_mul_right (by omega) h1, Int.eq_of_mul_eq_mul_right (by omega) h2, Int.eq_of_mul_eq_mul_right (by omega) h3, rfl⟩
/-- a point where three planes meet in the box, in lowest terms -/
def gT (A B C D : Nat → Int) (sx sy sz : Int) (i j k : Nat) (x y z q : Int) : Prop := 0 < q ∧ g4 x y z q = 1 ∧ ((0 ≤ x ∧ x ≤ sx * q) ∧ (0 ≤ y ∧ y ≤ sy * q) ∧ (0 ≤ z ∧ z ≤ sz * q)) ∧ gd A B C i j k ≠ 0 ∧ gh A B C D i x y z q = 0 ∧ gh A B C D j x y z q = 0 ∧ gh A B C D k x y z q = 0
theorem g_box {s x q u v : Int} (hq : 0 < q) (hv : 0 < v) (h : x * v = u * q) : (0 ≤ x ∧ x ≤ s * q) ↔ (0 ≤ u ∧ u ≤ s * v) := by
  constructor
  · rintro ⟨h1, h2⟩
    have h3 := Int.mul_nonneg h1 (Int.le_of_lt hv)
    have h4 := Int.mul_le_mul_of_nonneg_right h2 (Int.le_of_lt hv)
    rw [h] at h3 h4
    have e : s * q * v = s * v * q := by grind
    rw [e] at h4
    exact ⟨Int.le_of_mul_le_mul_right (by omega) hq, Int.le_of_mul_le_mul_right h4 hq⟩
  · rintro ⟨h1, h2⟩
    have h3 := Int.mul_nonneg h1 (Int.le_of_lt hq)
    have h4 := Int.mul_le_mul_of_nonneg_right h2 (Int.le_of_lt hq)
    rw [← h] at h3 h4
    have e : s * v * q = s * q * v := by grind
    rw [e] at h4
    exact ⟨Int.le_of_mul_le_mul_right (by omega) hv, Int.le_of_mul_le_mul_right h4 hv⟩
theorem gT_iff {A B C D : Nat → Int} {sx sy sz : Int} {i j k : Nat} {u1 u2 u3 u4 : Int} (h4 : 0 < u4) (hd : gd A B C i j k ≠ 0) (hi : gh A B C D i u1 u2 u3 u4 = 0) (hj : gh A B C D j u1 u2 u3 u4 = 0) (hk : gh A B C D k u1 u2 u3 u4 = 0) (x y z q : Int) :
    gT A B C D sx sy sz i j k x y z q ↔ ((0 ≤ u1 ∧ u1 ≤ sx * u4) ∧ (0 ≤ u2 ∧ u2 ≤ sy * u4) ∧ (0 ≤ u3 ∧ u3 ≤ sz * u4)) ∧ x = u1 / (g4 u1 u2 u3 u4 : Int) ∧ y = u2 / (g4 u1 u2 u3 u4 : Int) ∧ z = u3 / (g4 u1 u2 u3 u4 : Int) ∧ q = u4 / (g4 u1 u2 u3 u4 : Int) := by
  obtain ⟨G, hG⟩ : ∃ G : Int, G = (g4 u1 u2 u3 u4 : Int) := ⟨_, rfl⟩
  have hGp : 0 < G := by rw [hG]; exact Int.ofNat_lt.mpr (g4_pos h4)
  obtain ⟨x0, e1⟩ := g4_d1 u1 u2 u3 u4
  obtain ⟨y0, e2⟩ := g4_d2 u1 u2 u3 u4
  obtain ⟨z0, e3⟩ := g4_d3 u1 u2 u3 u4
  obtain ⟨q0, e4⟩ := g4_d4 u1 u2 u3 u4
  rw [← hG] at e1 e2 e3 e4
  rw [← hG]
  have d1 : u1 / G = x0 := by rw [e1]; exact Int.mul_ediv_cancel_left _ (by omega)
  have d2 : u2 / G = y0 := by rw [e2]; exact Int.mul_ediv_cancel_left _ (by omega)
  have d3 : u3 / G = z0 := by rw [e3]; exact Int.mul_ediv_cancel_left _ (by omega)
  have d4 : u4 / G = q0 := by rw [e4]; exact Int.mul_ediv_cancel_left _ (by omega)
  rw [d1, d2, d3, d4]
  have hq0 : 0 < q0 := by
    rw [e4] at h4
    exact Int.pos_of_mul_pos_left (by rw [Int.mul_comm]; exact h4) hGp
  have hr0 : g4 x0 y0 z0 q0 = 1 := by
    have := g4_mul G x0 y0 z0 q0
    rw [← e1, ← e2, ← e3, ← e4] at this
    have h5 : (g4 u1 u2 u3 u4 : Int) = G.natAbs * g4 x0 y0 z0 q0 := by rw [this]; simp
    rw [← hG] at h5
    have h6 : (G.natAbs : Int) = G := by omega
    rw [h6] at h5
    have h7 : G * 1 = G * (g4 x0 y0 z0 q0 : Int) := by rw [Int.mul_one]; exact h5
    have := Int.eq_of_mul_eq_mul_left (by omega) h7
    omega
  have p1 : x0 * u4 = u1 * q0 := by rw [e1, e4]; grind
  have p2 : y0 * u4 = u2 * q0 := by rw [e2, e4]; grind
  have p3 : z0 * u4 = u3 * q0 := by rw [e3, e4]; grind
  constructor
  · rintro ⟨a1, a2, ⟨a3, a4, a5⟩, -, a6, a7, a8⟩
    obtain ⟨y1, y2, y3⟩ := g_id3 (g_id2 a6 hi) (g_id2 a7 hj) (g_id2 a8 hk) hd
    have b1 : x * u4 = u1 * q := by omega
    have b2 : y * u4 = u2 * q := by omega
    have b3 : z * u4 = u3 * q := by omega
    refine ⟨⟨(g_box a1 h4 b1).mp a3, (g_box a1 h4 b2).mp a4, (g_box a1 h4 b3).mp a5⟩, ?_⟩
    have cr : ∀ {a b c d : Int}, a * u4 = c * q → b * u4 = c * q0 → a * q0 = b * q := by
      intro a b c d m1 m2
      have : a * q0 * u4 = b * q * u4 := by
        have k1 : a * q0 * u4 = a * u4 * q0 := by grind
        have k2 : b * q * u4 = b * u4 * q := by grind
        rw [k1, k2, m1, m2]; grind
      exact Int.eq_of_mul_eq_mul_right (by omega) this
    exact g_red a1 hq0 a2 hr0 (cr (d := 0) b1 p1) (cr (d := 0) b2 p2) (cr (d := 0) b3 p3)
  · rintro ⟨⟨a3, a4, a5⟩, rfl, rfl, rfl, rfl⟩
    exact ⟨hq0, hr0, ⟨(g_box hq0 h4 p1).mpr a3, (g_box hq0 h4 p2).mpr a4, (g_box hq0 h4 p3).mpr a5⟩, hd, gh_pr0 h4 p1 p2 p3 hi, gh_pr0 h4 p1 p2 p3 hj, gh_pr0 h4 p1 p2 p3 hk⟩
theorem zdiv {a b : Int32} {v w : Int} (ha : a.toInt = v) (hb : b.toInt = w) (h0 : 0 ≤ v) (h1 : 0 < w) : (a / b).toInt = v / w := by
  rw [Int32.toInt_div, ha, hb, Int.tdiv_eq_ediv_of_nonneg h0]
  have h2 : 0 ≤ v / w := Int.ediv_nonneg h0 (by omega)
  have h3 : v / w ≤ v := Int.ediv_le_self w h0
  have h4 := Int32.toInt_lt a
  rw [ha] at h4
  exact Int.bmod_eq_of_le (by omega) (by omega)
theorem zrem {a b : Int32} {v w : Int} (ha : a.toInt = v) (hb : b.toInt = w) (h0 : 0 ≤ v) (h1 : 0 < w) : (a - a / b * b).toInt = v % w := by
  have h4 := Int32.toInt_lt a
  rw [ha] at h4
  have h5 : 0 ≤ v % w := Int.emod_nonneg v (by omega)
  have h6 := Int.mul_ediv_add_emod v w
  have h7 : 0 ≤ v / w := Int.ediv_nonneg h0 (by omega)
  have h8 : 0 ≤ v / w * w := Int.mul_nonneg h7 (by omega)
  rw [Int.mul_comm] at h6
  have e1 : (a / b * b).toInt = v / w * w := by
    rw [Int32.toInt_mul, zdiv ha hb h0 h1, hb]
    exact Int.bmod_eq_of_le (by omega) (by omega)
  rw [Int32.toInt_sub, e1, ha]
  have : v - v / w * w = v % w := by omega
  rw [this]
  exact Int.bmod_eq_of_le (by omega) (by omega)
theorem zgcd_ok : ∀ (k n : Nat) (a b : Int32) (v w : Nat), 2 * k + 1 ≤ n → a.toInt = v → b.toInt = w → w < 2 ^ k → (zgcd n a b).toInt = Nat.gcd v w := by
  intro k
  induction k with
  | zero =>
    intro n a b v w hn ha hb hw
    have hw0 : w = 0 := by simpa using hw
    subst hw0
    obtain ⟨n, rfl⟩ : ∃ m, n = m + 1 := ⟨n - 1, by omega⟩
    have : b = 0 := Int32.toInt_inj.mp (by rw [hb]; rfl)
    simp only [zgcd, this, if_pos, Nat.gcd_zero_right]
    exact ha
  | succ k ih =>
    intro n a b v w hn ha hb hw
    obtain ⟨n, rfl⟩ : ∃ m, n = m + 2 := ⟨n - 2, by omega⟩
    by_cases h0 : w = 0
    · subst h0
      have : b = 0 := Int32.toInt_inj.mp (by rw [hb]; rfl)
      simp only [zgcd, this, if_pos, Nat.gcd_zero_right]
      exact ha
    · have hb0 : ¬ b = 0 := fun e => h0 (by rw [e] at hb; have : (0 : Int32).toInt = 0 := by decide
                                            omega)
      simp only [zgcd, if_neg hb0]
      have hr := zrem ha hb (by omega) (by omega)
      rw [← Int.natCast_emod] at hr
      have hlt : v % w < w := Nat.mod_lt _ (by omega)
      by_cases h1 : v % w = 0
      · have : a - a / b * b = 0 := Int32.toInt_inj.mp (by rw [hr, h1]; rfl)
        rw [if_pos this, hb, Nat.gcd_comm v w, Nat.gcd_rec w v, h1, Nat.gcd_zero_left]
      · have hr0 : ¬ a - a / b * b = 0 := fun e => h1 (by rw [e] at hr; have : (0 : Int32).toInt = 0 := by decide
                                                          omega)
        rw [if_neg hr0]
        have hr2 := zrem hb hr (by omega) (by omega)
        rw [← Int.natCast_emod] at hr2
        have hlt2 : w % (v % w) < v % w := Nat.mod_lt _ (by omega)
        have hh : w % (v % w) < 2 ^ k := by
          have h2 : w % (v % w) + (v % w) ≤ w := by
            have := Nat.div_add_mod w (v % w)
            have h3 : 1 ≤ w / (v % w) := (Nat.one_le_div_iff (by omega)).mpr (by omega)
            have h4 : v % w ≤ (v % w) * (w / (v % w)) := Nat.le_mul_of_pos_right _ (by omega)
            omega
          rw [Nat.pow_succ] at hw
          omega
        rw [ih n _ _ _ _ (by omega) hr hr2 hh, Nat.gcd_comm v w, Nat.gcd_rec w v, Nat.gcd_comm (v % w) w, Nat.gcd_comm (v % w) (w % (v % w)), ← Nat.gcd_rec (v % w) w, Nat.gcd_comm]
theorem zgcd4 {a b c d : Int32} {x y z q : Int} (ha : a.toInt = x) (hb : b.toInt = y) (hc : c.toInt = z) (hd : d.toInt = q) (x0 : 0 ≤ x) (y0 : 0 ≤ y) (z0 : 0 ≤ z) (q0 : 0 < q) (hy : y < 65536) (hq : q < 65536) : (zgcd 64 (zgcd 64 a b) (zgcd 64 c d)).toInt = g4 x y z q := by
  have e1 := zgcd_ok 16 64 a b x.natAbs y.natAbs (by decide) (by omega) (by omega) (by omega)
  have e2 := zgcd_ok 16 64 c d z.natAbs q.natAbs (by decide) (by omega) (by omega) (by omega)
  have e3 := Nat.gcd_le_right z.natAbs (show 0 < q.natAbs by omega)
  exact zgcd_ok 16 64 _ _ _ _ (by decide) e1 e2 (by omega)
theorem gCr {a1 b1 c1 d1 a2 b2 c2 d2 a3 b3 c3 d3 : Int} : a1 * (d1 * (b2 * c3 - c2 * b3) + d2 * (b3 * c1 - c3 * b1) + d3 * (b1 * c2 - c1 * b2)) + b1 * (d1 * (c2 * a3 - a2 * c3) + d2 * (c3 * a1 - a3 * c1) + d3 * (c1 * a2 - a1 * c2)) + c1 * (d1 * (a2 * b3 - b2 * a3) + d2 * (a3 * b1 - b3 * a1) + d3 * (a1 * b2 - b1 * a2)) - d1 * (a1 * (b2 * c3 - c2 * b3) + b1 * (c2 * a3 - a2 * c3) + c1 * (a2 * b3 - b2 * a3)) = 0 ∧
    a2 * (d1 * (b2 * c3 - c2 * b3) + d2 * (b3 * c1 - c3 * b1) + d3 * (b1 * c2 - c1 * b2)) + b2 * (d1 * (c2 * a3 - a2 * c3) + d2 * (c3 * a1 - a3 * c1) + d3 * (c1 * a2 - a1 * c2)) + c2 * (d1 * (a2 * b3 - b2 * a3) + d2 * (a3 * b1 - b3 * a1) + d3 * (a1 * b2 - b1 * a2)) - d2 * (a1 * (b2 * c3 - c2 * b3) + b1 * (c2 * a3 - a2 * c3) + c1 * (a2 * b3 - b2 * a3)) = 0 ∧
    a3 * (d1 * (b2 * c3 - c2 * b3) + d2 * (b3 * c1 - c3 * b1) + d3 * (b1 * c2 - c1 * b2)) + b3 * (d1 * (c2 * a3 - a2 * c3) + d2 * (c3 * a1 - a3 * c1) + d3 * (c1 * a2 - a1 * c2)) + c3 * (d1 * (a2 * b3 - b2 * a3) + d2 * (a3 * b1 - b3 * a1) + d3 * (a1 * b2 - b1 * a2)) - d3 * (a1 * (b2 * c3 - c2 * b3) + b1 * (c2 * a3 - a2 * c3) + c1 * (a2 * b3 - b2 * a3)) = 0 := by
  refine ⟨?_, ?_, ?_⟩ <;> grind
theorem g_scl {a b c d x y z q s : Int} (h : a * x + b * y + c * z - d * q = 0) : a * (s * x) + b * (s * y) + c * (s * z) - d * (s * q) = 0 := by
  have : a * (s * x) + b * (s * y) + c * (s * z) - d * (s * q) = s * (a * x + b * y + c * z - d * q) := by clear h; grind
  rw [this, h, Int.mul_zero]
abbrev iI (a : Nat → Int32) : Nat → Int := fun g => (a g).toInt
/-- planes as they may be -/
def zpb (A B C D : Nat → Int32) : Prop := ∀ g, g < 12 → zbd 6 (A g) (A g).toInt ∧ zbd 6 (B g) (B g).toInt ∧ zbd 6 (C g) (C g).toInt ∧ zbd 100 (D g) (D g).toInt
/-- sizes as they may be -/
def zsz (s : Int32) : Prop := 1 ≤ s.toInt ∧ s.toInt ≤ 8
/-- such a point is there -/
def zmm (S : zPS) (x y z q : Int) : Prop := ∃ p, p < S.1 ∧ (S.2.1 p).toInt = x ∧ (S.2.2.1 p).toInt = y ∧ (S.2.2.2.1 p).toInt = z ∧ (S.2.2.2.2.1 p).toInt = q
/-- one point more -/
def zap (kn : Int32) (A B C D : Nat → Int32) (x y z q : Int32) (S : zPS) : zPS := (S.1 + 1, upd S.2.1 S.1 x, upd S.2.2.1 S.1 y, upd S.2.2.2.1 S.1 z, upd S.2.2.2.2.1 S.1 q, upd S.2.2.2.2.2.1 S.1 (zab kn A B C D x y z q 12).1, upd S.2.2.2.2.2.2 S.1 (zab kn A B C D x y z q 12).2)
theorem zadp_ok {kn sx sy sz : Int32} {A B C D : Nat → Int32} {u1 u2 u3 u4 : Int32} {v1 v2 v3 v4 : Int} {S : zPS} (h1 : zbd 21600 u1 v1) (h2 : zbd 21600 u2 v2) (h3 : zbd 21600 u3 v3) (h4 : zbd 1296 u4 v4) (hp : 0 < v4) (hx : zsz sx) (hy : zsz sy) (hz : zsz sz)
    {A' B' C' D' : Nat → Int} {i j k : Nat} (hd : gd A' B' C' i j k ≠ 0) (hi : gh A' B' C' D' i v1 v2 v3 v4 = 0) (hj : gh A' B' C' D' j v1 v2 v3 v4 = 0) (hk : gh A' B' C' D' k v1 v2 v3 v4 = 0) :
    (∃ x y z q : Int32, zadp kn sx sy sz A B C D u1 u2 u3 u4 S = zap kn A B C D x y z q S ∧ gT A' B' C' D' sx.toInt sy.toInt sz.toInt i j k x.toInt y.toInt z.toInt q.toInt ∧ (∀ a b c d : Int, gT A' B' C' D' sx.toInt sy.toInt sz.toInt i j k a b c d → a = x.toInt ∧ b = y.toInt ∧ c = z.toInt ∧ d = q.toInt) ∧ ¬ zmm S x.toInt y.toInt z.toInt q.toInt) ∨
    (zadp kn sx sy sz A B C D u1 u2 u3 u4 S = S ∧ ∀ a b c d : Int, gT A' B' C' D' sx.toInt sy.toInt sz.toInt i j k a b c d → zmm S a b c d) := by
  have hbx : (0 ≤ u1 ∧ u1 ≤ sx * u4 ∧ 0 ≤ u2 ∧ u2 ≤ sy * u4 ∧ 0 ≤ u3 ∧ u3 ≤ sz * u4) ↔ ((0 ≤ v1 ∧ v1 ≤ sx.toInt * v4) ∧ (0 ≤ v2 ∧ v2 ≤ sy.toInt * v4) ∧ (0 ≤ v3 ∧ v3 ≤ sz.toInt * v4)) := by
    have k : ∀ {s : Int32}, zsz s → zbd (8 * 1296) (s * u4) (s.toInt * v4) := fun hs => zbd_mul (zbd_self (by have := hs.1; omega) hs.2) h4 (by decide)
    have z0 : zbd 0 (0 : Int32) 0 := ⟨rfl, by decide, by decide⟩
    rw [zbd_le z0 h1, zbd_le z0 h2, zbd_le z0 h3, zbd_le h1 (k hx), zbd_le h2 (k hy), zbd_le h3 (k hz)]
    simp only [and_assoc]
  unfold zadp
  by_cases hb : (0 ≤ u1 ∧ u1 ≤ sx * u4 ∧ 0 ≤ u2 ∧ u2 ≤ sy * u4 ∧ 0 ≤ u3 ∧ u3 ≤ sz * u4)
  · have hb' := hbx.mp hb
    obtain ⟨⟨n1, -⟩, ⟨n2, -⟩, ⟨n3, -⟩⟩ := hb'
    have hg := zgcd4 h1.1 h2.1 h3.1 h4.1 n1 n2 n3 hp (by have := h2.2.2; omega) (by have := h4.2.2; omega)
    have hg0 : 0 < g4 v1 v2 v3 v4 := g4_pos hp
    generalize zgcd 64 (zgcd 64 u1 u2) (zgcd 64 u3 u4) = gg at *
    have hne : ¬ gg = 0 := fun e => by rw [e] at hg; have : (0 : Int32).toInt = 0 := by decide
                                       omega
    have e1 := zdiv h1.1 hg n1 (by omega)
    have e2 := zdiv h2.1 hg n2 (by omega)
    have e3 := zdiv h3.1 hg n3 (by omega)
    have e4 := zdiv h4.1 hg (by omega) (by omega)
    have hT := gT_iff (sx := sx.toInt) (sy := sy.toInt) (sz := sz.toInt) hp hd hi hj hk
    by_cases hm : ∃ p, p < S.1 ∧ S.2.1 p = u1 / gg ∧ S.2.2.1 p = u2 / gg ∧ S.2.2.2.1 p = u3 / gg ∧ S.2.2.2.2.1 p = u4 / gg
    · rw [if_neg (fun q => q.2.2 hm)]
      refine Or.inr ⟨rfl, fun a b c d h => ?_⟩
      obtain ⟨-, rfl, rfl, rfl, rfl⟩ := (hT a b c d).mp h
      obtain ⟨p, a1, a2, a3, a4, a5⟩ := hm
      exact ⟨p, a1, by rw [a2]; exact e1, by rw [a3]; exact e2, by rw [a4]; exact e3, by rw [a5]; exact e4⟩
    · rw [if_pos ⟨hb, hne, hm⟩]
      refine Or.inl ⟨u1 / gg, u2 / gg, u3 / gg, u4 / gg, rfl, ?_, ?_, ?_⟩
      · rw [e1, e2, e3, e4]
        exact (hT _ _ _ _).mpr ⟨hbx.mp hb, rfl, rfl, rfl, rfl⟩
      · intro a b c d h
        rw [e1, e2, e3, e4]
        exact ((hT _ _ _ _).mp h).2
      · rintro ⟨p, a1, a2, a3, a4, a5⟩
        exact hm ⟨p, a1, Int32.toInt_inj.mp a2, Int32.toInt_inj.mp a3, Int32.toInt_inj.mp a4, Int32.toInt_inj.mp a5⟩
  · rw [if_neg (fun q => hb q.1)]
    refine Or.inr ⟨rfl, fun a b c d h => ?_⟩
    exact absurd (hbx.mpr ((gT_iff (sx := sx.toInt) (sy := sy.toInt) (sz := sz.toInt) hp hd hi hj hk a b c d).mp h).1) hb
theorem zbd_cx {a b c d : Int32} {a' b' c' d' : Int} {M N : Int} (ha : zbd M a a') (hb : zbd N b b') (hc : zbd M c c') (hd : zbd N d d') (h : M * N + M * N ≤ 2147483647) : zbd (M * N + M * N) (a * b - c * d) (a' * b' - c' * d') := by
  have hM : 0 ≤ M * N := by
    have : 0 ≤ M := by have := ha.2; omega
    have : 0 ≤ N := by have := hb.2; omega
    exact Int.mul_nonneg (by assumption) (by assumption)
  exact zbd_sub (zbd_mul ha hb (by omega)) (zbd_mul hc hd (by omega)) h
theorem zbd_d3 {a b c x y z : Int32} {a' b' c' x' y' z' : Int} {M N K : Int} (ha : zbd M a a') (hb : zbd M b b') (hc : zbd M c c') (hx : zbd N x x') (hy : zbd N y y') (hz : zbd N z z') (hK : M * N + M * N + M * N ≤ K) (h : K ≤ 2147483647) : zbd K (a * x + b * y + c * z) (a' * x' + b' * y' + c' * z') := by
  have hM : 0 ≤ M * N := by
    have : 0 ≤ M := by have := ha.2; omega
    have : 0 ≤ N := by have := hx.2; omega
    exact Int.mul_nonneg (by assumption) (by assumption)
  exact zbd_wk hK (zbd_add (zbd_add (zbd_mul ha hx (by omega)) (zbd_mul hb hy (by omega)) (by omega)) (zbd_mul hc hz (by omega)) (by omega))
/-- three planes meet -/
theorem zmt_ok {kn sx sy sz : Int32} {A B C D : Nat → Int32} {f g i : Nat} {S : zPS} (hb : zpb A B C D) (hf : f < 12) (hg : g < 12) (hi : i < 12) (hx : zsz sx) (hy : zsz sy) (hz : zsz sz) :
    (∃ x y z q : Int32, zmt kn sx sy sz A B C D f g i S = zap kn A B C D x y z q S ∧ gT (iI A) (iI B) (iI C) (iI D) sx.toInt sy.toInt sz.toInt g i f x.toInt y.toInt z.toInt q.toInt ∧ (∀ a b c d : Int, gT (iI A) (iI B) (iI C) (iI D) sx.toInt sy.toInt sz.toInt g i f a b c d → a = x.toInt ∧ b = y.toInt ∧ c = z.toInt ∧ d = q.toInt) ∧ ¬ zmm S x.toInt y.toInt z.toInt q.toInt) ∨
    (zmt kn sx sy sz A B C D f g i S = S ∧ ∀ a b c d : Int, gT (iI A) (iI B) (iI C) (iI D) sx.toInt sy.toInt sz.toInt g i f a b c d → zmm S a b c d) := by
  obtain ⟨f1, f2, f3, f4⟩ := hb f hf
  obtain ⟨g1, g2, g3, g4⟩ := hb g hg
  obtain ⟨i1, i2, i3, i4⟩ := hb i hi
  -- crosses
  have a1 := zbd_cx g2 i3 g3 i2 (by decide)
  have a2 := zbd_cx g3 i1 g1 i3 (by decide)
  have a3 := zbd_cx g1 i2 g2 i1 (by decide)
  have b1 := zbd_cx i2 f3 i3 f2 (by decide)
  have b2 := zbd_cx i3 f1 i1 f3 (by decide)
  have b3 := zbd_cx i1 f2 i2 f1 (by decide)
  have c1 := zbd_cx f2 g3 f3 g2 (by decide)
  have c2 := zbd_cx f3 g1 f1 g3 (by decide)
  have c3 := zbd_cx f1 g2 f2 g1 (by decide)
  have hq := zbd_d3 (K := 1296) f1 f2 f3 a1 a2 a3 (by decide) (by decide)
  have hX := zbd_d3 (K := 21600) f4 g4 i4 a1 b1 c1 (by decide) (by decide)
  have hY := zbd_d3 (K := 21600) f4 g4 i4 a2 b2 c2 (by decide) (by decide)
  have hZ := zbd_d3 (K := 21600) f4 g4 i4 a3 b3 c3 (by decide) (by decide)
  obtain ⟨r1, r2, r3⟩ := gCr (a1 := (A f).toInt) (b1 := (B f).toInt) (c1 := (C f).toInt) (d1 := (D f).toInt) (a2 := (A g).toInt) (b2 := (B g).toInt) (c2 := (C g).toInt) (d2 := (D g).toInt) (a3 := (A i).toInt) (b3 := (B i).toInt) (c3 := (C i).toInt) (d3 := (D i).toInt)
  have z0 : zbd 0 (0 : Int32) 0 := ⟨rfl, by decide, by decide⟩
  have hgd : gd (iI A) (iI B) (iI C) g i f = (A f).toInt * ((B g).toInt * (C i).toInt - (C g).toInt * (B i).toInt) + (B f).toInt * ((C g).toInt * (A i).toInt - (A g).toInt * (C i).toInt) + (C f).toInt * ((A g).toInt * (B i).toInt - (B g).toInt * (A i).toInt) := rfl
  unfold zmt
  by_cases h0 : A f * (B g * C i - C g * B i) + B f * (C g * A i - A g * C i) + C f * (A g * B i - B g * A i) = 0
  · rw [if_pos h0]
    refine Or.inr ⟨rfl, fun a b c d h => ?_⟩
    have := (zbd_eq hq z0).mp h0
    rw [← hgd] at this
    exact absurd this h.2.2.2.1
  · rw [if_neg h0]
    have hd : gd (iI A) (iI B) (iI C) g i f ≠ 0 := fun e => h0 ((zbd_eq hq z0).mpr (by rw [← hgd]; exact e))
    by_cases hp : 0 < A f * (B g * C i - C g * B i) + B f * (C g * A i - A g * C i) + C f * (A g * B i - B g * A i)
    · rw [if_pos hp]
      have o1 : zbd 1 (1 : Int32) 1 := ⟨rfl, by decide, by decide⟩
      have hp' := (zbd_lt z0 hq).mp hp
      exact zadp_ok (zbd_mul o1 hX (by decide)) (zbd_mul o1 hY (by decide)) (zbd_mul o1 hZ (by decide)) (zbd_mul o1 hq (by decide)) (by rw [Int.one_mul]; exact hp') hx hy hz hd (g_scl r2) (g_scl r3) (g_scl r1)
    · rw [if_neg hp]
      have o1 : zbd 1 (-1 : Int32) (-1) := ⟨rfl, by decide, by decide⟩
      have hp' := mt (zbd_lt z0 hq).mpr hp
      have hd' := hd
      rw [hgd] at hd'
      exact zadp_ok (zbd_mul o1 hX (by decide)) (zbd_mul o1 hY (by decide)) (zbd_mul o1 hZ (by decide)) (zbd_mul o1 hq (by decide)) (by omega) hx hy hz hd (g_scl r2) (g_scl r3) (g_scl r1)
abbrev knb (k : Int32) : Nat → Prop := fun g => bt k g = true
/-- all points of these planes -/
def gW (kn : Nat → Prop) (A B C D : Nat → Int) (sx sy sz : Int) (x y z q : Int) : Prop := ∃ a b c, a < 12 ∧ b < 12 ∧ c < 12 ∧ kn a ∧ kn b ∧ kn c ∧ gT A B C D sx sy sz a b c x y z q
/-- Cramer's point, turned so that its divisor is above 0 -/
theorem g_raw {A B C D : Nat → Int} {i j k : Nat} (hd : gd A B C i j k ≠ 0) : ∃ u1 u2 u3 u4 : Int, 0 < u4 ∧ (u4 = gd A B C i j k ∨ u4 = - gd A B C i j k) ∧ gh A B C D i u1 u2 u3 u4 = 0 ∧ gh A B C D j u1 u2 u3 u4 = 0 ∧ gh A B C D k u1 u2 u3 u4 = 0 := by
  obtain ⟨r1, r2, r3⟩ := gCr (a1 := A k) (b1 := B k) (c1 := C k) (d1 := D k) (a2 := A i) (b2 := B i) (c2 := C i) (d2 := D i) (a3 := A j) (b3 := B j) (c3 := C j) (d3 := D j)
  rcases Int.lt_or_gt_of_ne hd with h | h
  · exact ⟨_, _, _, -1 * gd A B C i j k, by omega, Or.inr (by omega), g_scl (s := -1) r2, g_scl (s := -1) r3, g_scl (s := -1) r1⟩
  · exact ⟨_, _, _, 1 * gd A B C i j k, by omega, Or.inl (by omega), g_scl (s := 1) r2, g_scl (s := 1) r3, g_scl (s := 1) r1⟩
theorem gT_bd {A B C D : Nat → Int32} {sx sy sz : Int32} {i j k : Nat} {x y z q : Int} (hb : zpb A B C D) (hf : k < 12) (hg : i < 12) (hi : j < 12) (hx : zsz sx) (hy : zsz sy) (hz : zsz sz) (h : gT (iI A) (iI B) (iI C) (iI D) sx.toInt sy.toInt sz.toInt i j k x y z q) : (0 < q ∧ q ≤ 1296) ∧ (0 ≤ x ∧ x ≤ 10368) ∧ (0 ≤ y ∧ y ≤ 10368) ∧ (0 ≤ z ∧ z ≤ 10368) := by
  have hq : q ≤ 1296 := by
    obtain ⟨u1, u2, u3, u4, a1, a2, a3, a4, a5⟩ := g_raw (D := iI D) h.2.2.2.1
    have h5 := ((gT_iff a1 h.2.2.2.1 a3 a4 a5 x y z q).mp h).2.2.2.2
    have h6 : u4 / (g4 u1 u2 u3 u4 : Int) ≤ u4 := Int.ediv_le_self _ (by omega)
    obtain ⟨f1, f2, f3, f4⟩ := hb k hf
    obtain ⟨g1, g2, g3, g4⟩ := hb i hg
    obtain ⟨i1, i2, i3, i4⟩ := hb j hi
    have hq := (zbd_d3 (K := 1296) f1 f2 f3 (zbd_cx g2 i3 g3 i2 (by decide)) (zbd_cx g3 i1 g1 i3 (by decide)) (zbd_cx g1 i2 g2 i1 (by decide)) (by decide) (by decide)).2
    have e : gd (iI A) (iI B) (iI C) i j k = (A k).toInt * ((B i).toInt * (C j).toInt - (C i).toInt * (B j).toInt) + (B k).toInt * ((C i).toInt * (A j).toInt - (A i).toInt * (C j).toInt) + (C k).toInt * ((A i).toInt * (B j).toInt - (B i).toInt * (A j).toInt) := rfl
    rw [← e] at hq
    omega
  obtain ⟨h1, -, ⟨⟨h5, h2⟩, ⟨h6, h3⟩, ⟨h7, h4⟩⟩, -⟩ := h
  have k : ∀ {s : Int32}, zsz s → s.toInt * q ≤ 8 * q := fun hs => Int.mul_le_mul_of_nonneg_right hs.2 (by omega)
  have := k hx; have := k hy; have := k hz
  omega
/-- the sides of the points are told right, at the planes known -/
def zPb (kn : Int32) (A B C D : Nat → Int32) (S : zPS) : Prop := ∀ p, p < S.1 → ∀ f, f < 32 → (bt (S.2.2.2.2.2.1 p) f = true ↔ f < 12 ∧ bt kn f = true ∧ 0 < gh (iI A) (iI B) (iI C) (iI D) f (S.2.1 p).toInt (S.2.2.1 p).toInt (S.2.2.2.1 p).toInt (S.2.2.2.2.1 p).toInt) ∧ (bt (S.2.2.2.2.2.2 p) f = true ↔ f < 12 ∧ bt kn f = true ∧ gh (iI A) (iI B) (iI C) (iI D) f (S.2.1 p).toInt (S.2.2.1 p).toInt (S.2.2.2.1 p).toInt (S.2.2.2.2.1 p).toInt < 0)
/-- the points are within their bounds, each once -/
def zPd (S : zPS) : Prop := (∀ p, p < S.1 → (0 < (S.2.2.2.2.1 p).toInt ∧ (S.2.2.2.2.1 p).toInt ≤ 1296) ∧ (0 ≤ (S.2.1 p).toInt ∧ (S.2.1 p).toInt ≤ 10368) ∧ (0 ≤ (S.2.2.1 p).toInt ∧ (S.2.2.1 p).toInt ≤ 10368) ∧ (0 ≤ (S.2.2.2.1 p).toInt ∧ (S.2.2.2.1 p).toInt ≤ 10368)) ∧ ∀ p r, p < S.1 → r < S.1 → (S.2.1 p).toInt = (S.2.1 r).toInt → (S.2.2.1 p).toInt = (S.2.2.1 r).toInt → (S.2.2.2.1 p).toInt = (S.2.2.2.1 r).toInt → (S.2.2.2.2.1 p).toInt = (S.2.2.2.2.1 r).toInt → p = r
/-- the first points stay -/
def zPr (S S' : zPS) : Prop := S.1 ≤ S'.1 ∧ ∀ p, p < S.1 → S'.2.1 p = S.2.1 p ∧ S'.2.2.1 p = S.2.2.1 p ∧ S'.2.2.2.1 p = S.2.2.2.1 p ∧ S'.2.2.2.2.1 p = S.2.2.2.2.1 p
theorem zPr_rf {S : zPS} : zPr S S := ⟨Nat.le_refl _, fun _ _ => ⟨rfl, rfl, rfl, rfl⟩⟩
theorem zPr_tr {S T U : zPS} (h : zPr S T) (h' : zPr T U) : zPr S U := ⟨Nat.le_trans h.1 h'.1, fun p hp => by
  obtain ⟨a1, a2, a3, a4⟩ := h.2 p hp
  obtain ⟨b1, b2, b3, b4⟩ := h'.2 p (Nat.lt_of_lt_of_le hp h.1)
  exact ⟨b1.trans a1, b2.trans a2, b3.trans a3, b4.trans a4⟩⟩
theorem zht_ok {A B C D : Nat → Int32} (hb : zpb A B C D) {f : Nat} (hf : f < 12) {x y z q : Int32} (hq : 0 < q.toInt ∧ q.toInt ≤ 1296) (hx : 0 ≤ x.toInt ∧ x.toInt ≤ 10368) (hy : 0 ≤ y.toInt ∧ y.toInt ≤ 10368) (hz : 0 ≤ z.toInt ∧ z.toInt ≤ 10368) : zbd 316224 (A f * x + B f * y + C f * z - D f * q) (gh (iI A) (iI B) (iI C) (iI D) f x.toInt y.toInt z.toInt q.toInt) := by
  obtain ⟨a, b, c, d⟩ := hb f hf
  exact zbd_ht a b c d (zbd_self (by omega) hx.2) (zbd_self (by omega) hy.2) (zbd_self (by omega) hz.2) (zbd_self (by omega) hq.2)
theorem zab_bt (kn : Int32) (A B C D : Nat → Int32) (x y z q : Int32) (n : Nat) (hn : n ≤ 12) (f : Nat) (hf : f < 32) : (bt (zab kn A B C D x y z q n).1 f = true ↔ f < n ∧ bt kn f = true ∧ 0 < A f * x + B f * y + C f * z - D f * q) ∧ (bt (zab kn A B C D x y z q n).2 f = true ↔ f < n ∧ bt kn f = true ∧ A f * x + B f * y + C f * z - D f * q < 0) := by
  induction n with
  | zero => simp [zab, b_0]
  | succ n ih =>
    obtain ⟨i1, i2⟩ := ih (by omega)
    simp only [zab]
    have key : ∀ (m : Int32) (P : Prop) [Decidable P] (R : Nat → Prop), (P ↔ R n) → (bt m f = true ↔ f < n ∧ bt kn f = true ∧ R f) → bt kn n = true → (bt (if P then m ||| (1 <<< (nI n &&& 31)) else m) f = true ↔ f < n + 1 ∧ bt kn f = true ∧ R f) := by
      intro m P _ R hPR hm hk
      split
      · next hP =>
        rw [b_or, zbt_sh hf (by omega)]
        simp only [Bool.or_eq_true, decide_eq_true_eq]
        rw [hm]
        constructor
        · rintro (⟨h1, h2⟩ | rfl)
          · exact ⟨by omega, h2⟩
          · exact ⟨by omega, hk, hPR.mp hP⟩
        · rintro ⟨h1, h2⟩
          rcases Nat.lt_succ_iff_lt_or_eq.mp h1 with h3 | h3
          · exact Or.inl ⟨h3, h2⟩
          · exact Or.inr h3
      · next hP =>
        rw [hm]
        constructor
        · rintro ⟨h1, h2⟩
          exact ⟨by omega, h2⟩
        · rintro ⟨h1, h2, h4⟩
          rcases Nat.lt_succ_iff_lt_or_eq.mp h1 with h3 | rfl
          · exact ⟨h3, h2, h4⟩
          · exact absurd (hPR.mpr h4) hP
    by_cases hk : (kn >>> (nI n &&& 31)) &&& 1 = 1
    · rw [if_pos hk]
      have hk' := (zB_bt kn (by omega)).mp hk
      exact ⟨key _ _ (fun f => 0 < A f * x + B f * y + C f * z - D f * q) Iff.rfl i1 hk', key _ _ (fun f => A f * x + B f * y + C f * z - D f * q < 0) Iff.rfl i2 hk'⟩
    · rw [if_neg hk]
      have hk' := mt (zB_bt kn (f := n) (by omega)).mpr hk
      constructor
      · rw [i1]
        constructor
        · rintro ⟨h1, h2⟩
          exact ⟨by omega, h2⟩
        · rintro ⟨h1, h2⟩
          refine ⟨?_, h2⟩
          rcases Nat.lt_succ_iff_lt_or_eq.mp h1 with h3 | rfl
          · exact h3
          · exact absurd h2.1 hk'
      · rw [i2]
        constructor
        · rintro ⟨h1, h2⟩
          exact ⟨by omega, h2⟩
        · rintro ⟨h1, h2⟩
          refine ⟨?_, h2⟩
          rcases Nat.lt_succ_iff_lt_or_eq.mp h1 with h3 | rfl
          · exact h3
          · exact absurd h2.1 hk'
theorem zap_ok {kn : Int32} {A B C D : Nat → Int32} {x y z q : Int32} {S : zPS} (hb : zpb A B C D) (hB : zPb kn A B C D S) (hD : zPd S) (hn : ¬ zmm S x.toInt y.toInt z.toInt q.toInt) (hq : 0 < q.toInt ∧ q.toInt ≤ 1296) (hx : 0 ≤ x.toInt ∧ x.toInt ≤ 10368) (hy : 0 ≤ y.toInt ∧ y.toInt ≤ 10368) (hz : 0 ≤ z.toInt ∧ z.toInt ≤ 10368) :
    zPb kn A B C D (zap kn A B C D x y z q S) ∧ zPd (zap kn A B C D x y z q S) ∧ zPr S (zap kn A B C D x y z q S) ∧ ∀ a b c d, zmm (zap kn A B C D x y z q S) a b c d ↔ zmm S a b c d ∨ (a = x.toInt ∧ b = y.toInt ∧ c = z.toInt ∧ d = q.toInt) := by
  have hu : ∀ (g : Nat → Int32) (v : Int32) (p : Nat), p < S.1 → upd g S.1 v p = g p := fun g v p hp => pk_un (by omega)
  have hs : ∀ (g : Nat → Int32) (v : Int32), upd g S.1 v S.1 = v := fun g v => pk_us
  refine ⟨?_, ⟨?_, ?_⟩, ⟨Nat.le_succ _, fun p hp => ⟨hu _ _ _ hp, hu _ _ _ hp, hu _ _ _ hp, hu _ _ _ hp⟩⟩, ?_⟩
  · intro p hp f hf
    have hp' : p < S.1 + 1 := hp
    simp only [zap]
    rcases Nat.lt_succ_iff_lt_or_eq.mp hp' with h | rfl
    · simp only [hu _ _ _ h]
      exact hB p h f hf
    · simp only [hs]
      obtain ⟨k1, k2⟩ := zab_bt kn A B C D x y z q 12 (by decide) f hf
      have z0 : zbd 0 (0 : Int32) 0 := ⟨rfl, by decide, by decide⟩
      constructor
      · rw [k1]
        constructor
        · rintro ⟨h1, h2, h3⟩
          exact ⟨h1, h2, (zbd_lt z0 (zht_ok hb h1 hq hx hy hz)).mp h3⟩
        · rintro ⟨h1, h2, h3⟩
          exact ⟨h1, h2, (zbd_lt z0 (zht_ok hb h1 hq hx hy hz)).mpr h3⟩
      · rw [k2]
        constructor
        · rintro ⟨h1, h2, h3⟩
          exact ⟨h1, h2, (zbd_lt (zht_ok hb h1 hq hx hy hz) z0).mp h3⟩
        · rintro ⟨h1, h2, h3⟩
          exact ⟨h1, h2, (zbd_lt (zht_ok hb h1 hq hx hy hz) z0).mpr h3⟩
  · intro p hp
    have hp' : p < S.1 + 1 := hp
    simp only [zap]
    rcases Nat.lt_succ_iff_lt_or_eq.mp hp' with h | rfl
    · simp only [hu _ _ _ h]
      exact hD.1 p h
    · simp only [hs]
      exact ⟨hq, hx, hy, hz⟩
  · intro p r hp hr
    have hp' : p < S.1 + 1 := hp
    have hr' : r < S.1 + 1 := hr
    simp only [zap]
    rcases Nat.lt_succ_iff_lt_or_eq.mp hp' with h | h
    · rcases Nat.lt_succ_iff_lt_or_eq.mp hr' with h' | h'
      · simp only [hu _ _ _ h, hu _ _ _ h']
        exact hD.2 p r h h'
      · subst h'
        simp only [hu _ _ _ h, hs]
        intro a1 a2 a3 a4
        exact absurd ⟨p, h, a1, a2, a3, a4⟩ hn
    · rcases Nat.lt_succ_iff_lt_or_eq.mp hr' with h' | h'
      · subst h
        simp only [hu _ _ _ h', hs]
        intro a1 a2 a3 a4
        exact absurd ⟨r, h', a1.symm, a2.symm, a3.symm, a4.symm⟩ hn
      · intros; omega
  · intro a b c d
    constructor
    · rintro ⟨p, hp, h1⟩
      have hp' : p < S.1 + 1 := hp
      simp only [zap] at h1
      rcases Nat.lt_succ_iff_lt_or_eq.mp hp' with h | h
      · simp only [hu _ _ _ h] at h1
        exact Or.inl ⟨p, h, h1⟩
      · subst h
        simp only [hs] at h1
        exact Or.inr ⟨h1.1.symm, h1.2.1.symm, h1.2.2.1.symm, h1.2.2.2.symm⟩
    · rintro (⟨p, hp, h1⟩ | ⟨rfl, rfl, rfl, rfl⟩)
      · refine ⟨p, Nat.lt_succ_of_lt hp, ?_⟩
        simp only [zap, hu _ _ _ hp]
        exact h1
      · refine ⟨S.1, Nat.lt_succ_self _, ?_⟩
        simp only [zap, hs]
        exact ⟨trivial, trivial, trivial, trivial⟩
/-- a step: the points of three planes more -/
def zSp (kn : Int32) (A B C D : Nat → Int32) (W : Int → Int → Int → Int → Prop) (S S' : zPS) : Prop := zPb kn A B C D S' ∧ zPd S' ∧ zPr S S' ∧ ∀ a b c d, zmm S' a b c d ↔ zmm S a b c d ∨ W a b c d
theorem zSp_rf {kn : Int32} {A B C D : Nat → Int32} {S : zPS} {W : Int → Int → Int → Int → Prop} (hB : zPb kn A B C D S) (hD : zPd S) (h : ∀ a b c d, W a b c d → zmm S a b c d) : zSp kn A B C D W S S := ⟨hB, hD, zPr_rf, fun a b c d => ⟨Or.inl, fun q => q.elim id (h a b c d)⟩⟩
theorem zSp_tr {kn : Int32} {A B C D : Nat → Int32} {S T U : zPS} {W V X : Int → Int → Int → Int → Prop} (h1 : zSp kn A B C D W S T) (h2 : zSp kn A B C D V T U) (h : ∀ a b c d, X a b c d ↔ W a b c d ∨ V a b c d) : zSp kn A B C D X S U := ⟨h2.1, h2.2.1, zPr_tr h1.2.2.1 h2.2.2.1, fun a b c d => by rw [h2.2.2.2, h1.2.2.2, h, or_assoc]⟩
theorem zmt_st {kn sx sy sz : Int32} {A B C D : Nat → Int32} {f g i : Nat} {S : zPS} (hb : zpb A B C D) (hf : f < 12) (hg : g < 12) (hi : i < 12) (hx : zsz sx) (hy : zsz sy) (hz : zsz sz) (hB : zPb kn A B C D S) (hD : zPd S) :
    zSp kn A B C D (gT (iI A) (iI B) (iI C) (iI D) sx.toInt sy.toInt sz.toInt g i f) S (zmt kn sx sy sz A B C D f g i S) := by
  rcases zmt_ok (kn := kn) (S := S) hb hf hg hi hx hy hz with ⟨a, b, c, d, h1, h2, h3, h4⟩ | ⟨h1, h2⟩
  · rw [h1]
    obtain ⟨k1, k2, k3, k4⟩ := gT_bd hb hf hg hi hx hy hz h2
    obtain ⟨m1, m2, m3, m4⟩ := zap_ok (kn := kn) hb hB hD h4 k1 k2 k3 k4
    refine ⟨m1, m2, m3, fun a' b' c' d' => ?_⟩
    rw [m4]
    constructor
    · rintro (h | ⟨rfl, rfl, rfl, rfl⟩)
      · exact Or.inl h
      · exact Or.inr h2
    · rintro (h | h)
      · exact Or.inl h
      · exact Or.inr (h3 _ _ _ _ h)
  · rw [h1]
    exact zSp_rf hB hD h2
theorem zinn_st {kn sx sy sz ot : Int32} {A B C D : Nat → Int32} {f g : Nat} (hb : zpb A B C D) (hf : f < 12) (hg : g < 12) (hx : zsz sx) (hy : zsz sy) (hz : zsz sz) : ∀ (m i : Nat) (S : zPS), m + i ≤ 12 → zPb kn A B C D S → zPd S →
    zSp kn A B C D (fun a b c d => ∃ h, i ≤ h ∧ h < i + m ∧ bt ot g = true ∧ bt ot h = true ∧ gT (iI A) (iI B) (iI C) (iI D) sx.toInt sy.toInt sz.toInt g h f a b c d) S (zinn kn sx sy sz A B C D ot f g m i S) := by
  intro m
  induction m with
  | zero => intro i S hi hB hD; exact zSp_rf hB hD (fun a b c d ⟨h, h1, h2, _⟩ => by omega)
  | succ m ih =>
    intro i S hi hB hD
    simp only [zinn]
    by_cases hc : (ot >>> (nI g &&& 31)) &&& 1 = 1 ∧ (ot >>> (nI i &&& 31)) &&& 1 = 1
    · rw [if_pos hc]
      have s1 := zmt_st (kn := kn) hb hf hg (show i < 12 by omega) hx hy hz hB hD
      refine zSp_tr s1 (ih (i + 1) _ (by omega) s1.1 s1.2.1) (fun a b c d => ⟨?_, ?_⟩)
      · rintro ⟨h, h1, h2, h3⟩
        rcases Nat.eq_or_lt_of_le h1 with h4 | h4
        · subst h4
          exact Or.inl h3.2.2
        · exact Or.inr ⟨h, by omega, by omega, h3⟩
      · rintro (h | ⟨h, h1, h2, h3⟩)
        · exact ⟨i, Nat.le_refl _, by omega, (zB_bt ot (by omega)).mp hc.1, (zB_bt ot (by omega)).mp hc.2, h⟩
        · exact ⟨h, by omega, by omega, h3⟩
    · rw [if_neg hc]
      refine zSp_tr (zSp_rf (W := fun _ _ _ _ => False) hB hD (fun _ _ _ _ h => h.elim)) (ih (i + 1) _ (by omega) hB hD) (fun a b c d => ⟨?_, ?_⟩)
      · rintro ⟨h, h1, h2, h3, h5, h6⟩
        rcases Nat.eq_or_lt_of_le h1 with h4 | h4
        · subst h4
          exact absurd ⟨(zB_bt ot (by omega)).mpr h3, (zB_bt ot (by omega)).mpr h5⟩ hc
        · exact Or.inr ⟨h, by omega, by omega, h3, h5, h6⟩
      · rintro (h | ⟨h, h1, h2, h3⟩)
        · exact h.elim
        · exact ⟨h, by omega, by omega, h3⟩
theorem zout_st {kn sx sy sz ot : Int32} {A B C D : Nat → Int32} {f : Nat} (hb : zpb A B C D) (hf : f < 12) (hx : zsz sx) (hy : zsz sy) (hz : zsz sz) : ∀ (m g : Nat) (S : zPS), m + g ≤ 12 → zPb kn A B C D S → zPd S →
    zSp kn A B C D (fun a b c d => ∃ g' h, g ≤ g' ∧ g' < g + m ∧ g' < h ∧ h < 12 ∧ bt ot g' = true ∧ bt ot h = true ∧ gT (iI A) (iI B) (iI C) (iI D) sx.toInt sy.toInt sz.toInt g' h f a b c d) S (zout kn sx sy sz A B C D ot f m g S) := by
  intro m
  induction m with
  | zero => intro g S hg hB hD; exact zSp_rf hB hD (fun a b c d ⟨g', h, h1, h2, _⟩ => by omega)
  | succ m ih =>
    intro g S hg hB hD
    simp only [zout]
    have s1 := zinn_st (kn := kn) (ot := ot) hb hf (show g < 12 by omega) hx hy hz (12 - (g + 1)) (g + 1) S (by omega) hB hD
    refine zSp_tr s1 (ih (g + 1) _ (by omega) s1.1 s1.2.1) (fun a b c d => ⟨?_, ?_⟩)
    · rintro ⟨g', h, h1, h2, h3, h4, h5⟩
      rcases Nat.eq_or_lt_of_le h1 with h6 | h6
      · subst h6
        exact Or.inl ⟨h, by omega, by omega, h5⟩
      · exact Or.inr ⟨g', h, by omega, by omega, h3, h4, h5⟩
    · rintro (⟨h, h1, h2, h3⟩ | ⟨g', h, h1, h2, h3, h4, h5⟩)
      · exact ⟨g, h, Nat.le_refl _, by omega, by omega, by omega, h3⟩
      · exact ⟨g', h, by omega, by omega, h3, h4, h5⟩
theorem gd_sw (A B C : Nat → Int) (i j k : Nat) : gd A B C j i k = - gd A B C i j k := by simp only [gd, gn, gx1, gx2, gx3]; grind
theorem gd_rt (A B C : Nat → Int) (i j k : Nat) : gd A B C j k i = gd A B C i j k := by simp only [gd, gn, gx1, gx2, gx3]; grind
theorem gd_eq (A B C : Nat → Int) (i k : Nat) : gd A B C i i k = 0 := by simp only [gd, gn, gx1, gx2, gx3]; grind
theorem gT_sw {A B C D : Nat → Int} {sx sy sz : Int} {i j k : Nat} {x y z q : Int} (h : gT A B C D sx sy sz i j k x y z q) : gT A B C D sx sy sz j i k x y z q := by
  obtain ⟨h1, h2, h3, h4, h5, h6, h7⟩ := h
  exact ⟨h1, h2, h3, by rw [gd_sw]; omega, h6, h5, h7⟩
theorem gT_rt {A B C D : Nat → Int} {sx sy sz : Int} {i j k : Nat} {x y z q : Int} (h : gT A B C D sx sy sz i j k x y z q) : gT A B C D sx sy sz j k i x y z q := by
  obtain ⟨h1, h2, h3, h4, h5, h6, h7⟩ := h
  exact ⟨h1, h2, h3, by rw [gd_rt]; exact h4, h6, h7, h5⟩
theorem gT_ne {A B C D : Nat → Int} {sx sy sz : Int} {i j k : Nat} {x y z q : Int} (h : gT A B C D sx sy sz i j k x y z q) : i ≠ j ∧ j ≠ k ∧ i ≠ k := by
  refine ⟨fun e => ?_, fun e => ?_, fun e => ?_⟩
  · subst e; exact h.2.2.2.1 (gd_eq _ _ _ _ _)
  · subst e; exact (gT_rt h).2.2.2.1 (gd_eq _ _ _ _ _)
  · subst e; exact (gT_rt (gT_rt h)).2.2.2.1 (gd_eq _ _ _ _ _)
/-- the points with one plane more -/
theorem gW_more {kn kn' : Nat → Prop} {A B C D : Nat → Int} {sx sy sz : Int} {f : Nat} (hf : f < 12) (hk : ∀ g, g < 12 → (kn' g ↔ kn g ∨ g = f)) (x y z q : Int) :
    gW kn' A B C D sx sy sz x y z q ↔ gW kn A B C D sx sy sz x y z q ∨ ∃ g h, g < h ∧ h < 12 ∧ kn g ∧ kn h ∧ gT A B C D sx sy sz g h f x y z q := by
  constructor
  · rintro ⟨a, b, c, ha, hb, hc, ka, kb, kc, hT⟩
    have fin : ∀ g h, g < 12 → h < 12 → kn' g → kn' h → gT A B C D sx sy sz g h f x y z q → ∃ g h, g < h ∧ h < 12 ∧ kn g ∧ kn h ∧ gT A B C D sx sy sz g h f x y z q := by
      intro g h hg hh kg kh hT
      obtain ⟨n1, n2, n3⟩ := gT_ne hT
      have kg' := ((hk g hg).mp kg).resolve_right n3
      have kh' := ((hk h hh).mp kh).resolve_right n2
      rcases Nat.lt_or_gt_of_ne n1 with h1 | h1
      · exact ⟨g, h, h1, hh, kg', kh', hT⟩
      · exact ⟨h, g, h1, hg, kh', kg', gT_sw hT⟩
    rcases (hk a ha).mp ka with ka' | rfl
    · rcases (hk b hb).mp kb with kb' | rfl
      · rcases (hk c hc).mp kc with kc' | rfl
        · exact Or.inl ⟨a, b, c, ha, hb, hc, ka', kb', kc', hT⟩
        · exact Or.inr (fin a b ha hb ka kb hT)
      · exact Or.inr (fin c a hc ha kc ka (gT_rt (gT_rt hT)))
    · exact Or.inr (fin b c hb hc kb kc (gT_rt hT))
  · rintro (⟨a, b, c, ha, hb, hc, ka, kb, kc, hT⟩ | ⟨g, h, h1, h2, k1, k2, hT⟩)
    · exact ⟨a, b, c, ha, hb, hc, (hk a ha).mpr (Or.inl ka), (hk b hb).mpr (Or.inl kb), (hk c hc).mpr (Or.inl kc), hT⟩
    · exact ⟨g, h, f, by omega, h2, hf, (hk g (by omega)).mpr (Or.inl k1), (hk h h2).mpr (Or.inl k2), (hk f hf).mpr (Or.inr rfl), hT⟩
/-- only the planes known count -/
theorem gW_cg {kn : Nat → Prop} {A B C D A' B' C' D' : Nat → Int} {sx sy sz : Int} (h : ∀ g, g < 12 → kn g → A' g = A g ∧ B' g = B g ∧ C' g = C g ∧ D' g = D g) {x y z q : Int} (hw : gW kn A B C D sx sy sz x y z q) : gW kn A' B' C' D' sx sy sz x y z q := by
  obtain ⟨a, b, c, ha, hb, hc, ka, kb, kc, h1, h2, h3, h4, h5, h6, h7⟩ := hw
  obtain ⟨a1, a2, a3, a4⟩ := h a ha ka
  obtain ⟨b1, b2, b3, b4⟩ := h b hb kb
  obtain ⟨c1, c2, c3, c4⟩ := h c hc kc
  refine ⟨a, b, c, ha, hb, hc, ka, kb, kc, h1, h2, h3, ?_, ?_, ?_, ?_⟩
  · simp only [gd, gn, gx1, gx2, gx3] at h4 ⊢; rw [a1, a2, a3, b1, b2, b3, c1, c2, c3]; exact h4
  · simp only [gh] at h5 ⊢; rw [a1, a2, a3, a4]; exact h5
  · simp only [gh] at h6 ⊢; rw [b1, b2, b3, b4]; exact h6
  · simp only [gh] at h7 ⊢; rw [c1, c2, c3, c4]; exact h7
theorem zmr_bt {w : Nat → Prop} {a : Nat → Int32} {n p f g : Nat} (hp : p < n) (hf : f < 32) (hg : g < 32) : (bt (zmr w (1 <<< (nI f &&& 31)) a n p) g = true ↔ bt (a p) g = true ∨ (g = f ∧ w p)) := by
  unfold zmr
  by_cases h : p < n ∧ w p
  · rw [if_pos h, b_or, zbt_sh hg hf]
    simp [h.2]
  · rw [if_neg h]
    have : ¬ w p := fun q => h ⟨hp, q⟩
    simp [this]
theorem ztl_pb {kn : Int32} {A B C D : Nat → Int32} {f : Nat} {S : zPS} (hb : zpb A B C D) (hf : f < 12) (hB : zPb kn A B C D S) (hD : zPd S) (hk : ¬ bt kn f = true) : zPb (kn ||| (1 <<< (nI f &&& 31))) A B C D (ztl A B C D f S S.1) := by
  intro p hp g hg
  have hp' : p < S.1 := hp
  obtain ⟨k1, k2, k3, k4⟩ := hD.1 p hp'
  have z0 : zbd 0 (0 : Int32) 0 := ⟨rfl, by decide, by decide⟩
  have ht := zht_ok hb hf k1 k2 k3 k4
  obtain ⟨i1, i2⟩ := hB p hp' g hg
  have hkn : bt (kn ||| (1 <<< (nI f &&& 31))) g = true ↔ bt kn g = true ∨ g = f := by rw [b_or, zbt_sh hg (by omega)]; simp
  simp only [ztl]
  constructor
  · rw [zmr_bt hp' (by omega) hg, i1, hkn, zbd_lt z0 ht]
    constructor
    · rintro (⟨h1, h2, h3⟩ | ⟨rfl, h2⟩)
      · exact ⟨h1, Or.inl h2, h3⟩
      · exact ⟨hf, Or.inr rfl, h2⟩
    · rintro ⟨h1, h2 | rfl, h3⟩
      · exact Or.inl ⟨h1, h2, h3⟩
      · exact Or.inr ⟨rfl, h3⟩
  · rw [zmr_bt hp' (by omega) hg, i2, hkn, zbd_lt ht z0]
    constructor
    · rintro (⟨h1, h2, h3⟩ | ⟨rfl, h2⟩)
      · exact ⟨h1, Or.inl h2, h3⟩
      · exact ⟨hf, Or.inr rfl, h2⟩
    · rintro ⟨h1, h2 | rfl, h3⟩
      · exact Or.inl ⟨h1, h2, h3⟩
      · exact Or.inr ⟨rfl, h3⟩
/-- all is right with the points -/
def zPg (kn : Int32) (A B C D : Nat → Int32) (sx sy sz : Int32) (S : zPS) : Prop := zPb kn A B C D S ∧ zPd S ∧ ∀ a b c d, zmm S a b c d ↔ gW (knb kn) (iI A) (iI B) (iI C) (iI D) sx.toInt sy.toInt sz.toInt a b c d
/-- addFace keeps it so -/
theorem zPg_face {kn sx sy sz : Int32} {A B C D : Nat → Int32} {f : Nat} {S : zPS} (hb : zpb A B C D) (hf : f < 12) (hx : zsz sx) (hy : zsz sy) (hz : zsz sz) (hk : ¬ bt kn f = true) (hg : zPg kn A B C D sx sy sz S) :
    zPg (kn ||| (1 <<< (nI f &&& 31))) A B C D sx sy sz (zout (kn ||| (1 <<< (nI f &&& 31))) sx sy sz A B C D kn f 12 0 (ztl A B C D f S S.1)) ∧ zPr S (zout (kn ||| (1 <<< (nI f &&& 31))) sx sy sz A B C D kn f 12 0 (ztl A B C D f S S.1)) := by
  obtain ⟨hB, hD, hW⟩ := hg
  obtain ⟨s1, s2, s3, s4⟩ := zout_st (kn := kn ||| (1 <<< (nI f &&& 31))) (ot := kn) hb hf hx hy hz 12 0 (ztl A B C D f S S.1) (by decide) (ztl_pb hb hf hB hD hk) hD
  refine ⟨⟨s1, s2, fun a b c d => ?_⟩, s3⟩
  rw [s4, gW_more (kn := knb kn) hf (fun g hg => by show bt _ _ = true ↔ _; rw [b_or, zbt_sh (by omega) (by omega)]; simp)]
  refine or_congr (hW a b c d) ⟨?_, ?_⟩
  · rintro ⟨g', h, h1, h2, h3, h4, h5, h6, h7⟩
    exact ⟨g', h, h3, h4, h5, h6, h7⟩
  · rintro ⟨g', h, h3, h4, h5, h6, h7⟩
    exact ⟨g', h, by omega, by omega, h3, h4, h5, h6, h7⟩
/-- as many -/
theorem z_php : ∀ (m n : Nat) (f : Nat → Nat), (∀ i, i < n → f i < m) → (∀ i j, i < n → j < n → f i = f j → i = j) → n ≤ m := by
  intro m
  induction m with
  | zero =>
    intro n f h1 h2
    rcases Nat.eq_zero_or_pos n with h | h
    · omega
    · exact absurd (h1 0 h) (Nat.not_lt_zero _)
  | succ m ih =>
    intro n f h1 h2
    by_cases h : ∃ i, i < n ∧ f i = m
    · obtain ⟨i0, hi0, he⟩ := h
      have := ih (n - 1) (fun i => if i < i0 then f i else f (i + 1)) (fun i hi => by
        split
        · next h3 =>
          have a1 := h1 i (by omega)
          have a2 : f i ≠ m := fun q => by have := h2 i i0 (by omega) hi0 (by omega); omega
          omega
        · next h3 =>
          have a1 := h1 (i + 1) (by omega)
          have a2 : f (i + 1) ≠ m := fun q => by have := h2 (i + 1) i0 (by omega) hi0 (by omega); omega
          omega) (fun i j hi hj => by
        split <;> split <;> intro hh
        · exact h2 i j (by omega) (by omega) hh
        · have := h2 i (j + 1) (by omega) (by omega) hh; omega
        · have := h2 (i + 1) j (by omega) (by omega) hh; omega
        · have := h2 (i + 1) (j + 1) (by omega) (by omega) hh; omega)
      omega
    · exact Nat.le_succ_of_le (ih n f (fun i hi => by have := h1 i hi; have : f i ≠ m := fun q => h ⟨i, hi, q⟩; omega) h2)
/-- the points that these are: the arrangement's -/
theorem zPg_gV {kn sx sy sz : Int32} {A B C D : Nat → Int32} {S : zPS} (hg : zPg kn A B C D sx sy sz S) : gV (knb kn) (iI A) (iI B) (iI C) (iI D) sx.toInt sy.toInt sz.toInt S.1 (iI S.2.1) (iI S.2.2.1) (iI S.2.2.2.1) (iI S.2.2.2.2.1) := by
  obtain ⟨hB, hD, hW⟩ := hg
  have hm : ∀ p, p < S.1 → gW (knb kn) (iI A) (iI B) (iI C) (iI D) sx.toInt sy.toInt sz.toInt (S.2.1 p).toInt (S.2.2.1 p).toInt (S.2.2.2.1 p).toInt (S.2.2.2.2.1 p).toInt := fun p hp => (hW _ _ _ _).mp ⟨p, hp, rfl, rfl, rfl, rfl⟩
  refine ⟨fun p hp => (hD.1 p hp).1.1, fun p hp => ?_, ?_, fun i j hi hj h1 h2 h3 => ?_⟩
  · obtain ⟨a, b, c, ha, hb, hc, ka, kb, kc, h1, h2, h3, h4, h5, h6, h7⟩ := hm p hp
    exact ⟨a, b, c, ha, hb, hc, ka, kb, kc, h4, h5, h6, h7⟩
  · intro a b c ha hb hc ka kb kc hd x y z q hq h1 h2 h3 b1 b2 b3
    have hT := (gT_iff (sx := sx.toInt) (sy := sy.toInt) (sz := sz.toInt) hq hd h1 h2 h3 _ _ _ _).mpr ⟨⟨b1, b2, b3⟩, rfl, rfl, rfl, rfl⟩
    obtain ⟨p, hp, e1, e2, e3, e4⟩ := (hW _ _ _ _).mpr ⟨a, b, c, ha, hb, hc, ka, kb, kc, hT⟩
    refine ⟨p, hp, ?_⟩
    obtain ⟨-, -, -, -, m1, m2, m3⟩ := hT
    obtain ⟨y1, y2, y3⟩ := g_id3 (g_id2 m1 h1) (g_id2 m2 h2) (g_id2 m3 h3) hd
    show (S.2.1 p).toInt * q = x * (S.2.2.2.2.1 p).toInt ∧ (S.2.2.1 p).toInt * q = y * (S.2.2.2.2.1 p).toInt ∧ (S.2.2.2.1 p).toInt * q = z * (S.2.2.2.2.1 p).toInt
    rw [e1, e2, e3, e4]
    refine ⟨by omega, by omega, by omega⟩
  · obtain ⟨a, b, c, ha, hb, hc, ka, kb, kc, m1, m2, -⟩ := hm i hi
    obtain ⟨a', b', c', ha', hb', hc', ka', kb', kc', n1, n2, -⟩ := hm j hj
    obtain ⟨e1, e2, e3, e4⟩ := g_red m1 n1 m2 n2 h1 h2 h3
    exact hD.2 i j hi hj e1 e2 e3 e4
/-- the sides of a block as signs -/
def zsg (m : Int32) : Nat → Int := fun g => if bt m g = true then 1 else -1
theorem zand0 (x y : Int32) : x &&& y = 0 ↔ ∀ g, g < 32 → ¬ (bt x g = true ∧ bt y g = true) := by
  constructor
  · intro h g hg
    have := b_and x y g
    rw [h, b_0] at this
    intro q
    rw [q.1, q.2] at this
    simp at this
  · intro h
    apply b_ext
    intro g hg
    rw [b_and, b_0]
    have := h g hg
    cases h1 : bt x g <;> cases h2 : bt y g <;> simp_all
theorem bt_not (x : Int32) {g : Nat} (hg : g < 32) : bt (x ^^^ -1) g = !bt x g := by
  rw [b_xor, b_m1 g hg]; simp
/-- touched: on its sides -/
theorem ztch {kn : Int32} {A B C D : Nat → Int32} {S : zPS} (hB : zPb kn A B C D S) {p : Nat} (hp : p < S.1) (m : Int32) :
    (S.2.2.2.2.2.1 p &&& (m ^^^ -1) = 0 ∧ S.2.2.2.2.2.2 p &&& m = 0) ↔ gQ (knb kn) (iI A) (iI B) (iI C) (iI D) (zsg m) (S.2.1 p).toInt (S.2.2.1 p).toInt (S.2.2.2.1 p).toInt (S.2.2.2.2.1 p).toInt := by
  rw [zand0, zand0]
  constructor
  · rintro ⟨h1, h2⟩ g hg hk
    obtain ⟨i1, i2⟩ := hB p hp g (by omega)
    have a1 := h1 g (by omega)
    have a2 := h2 g (by omega)
    rw [bt_not _ (by omega), i1] at a1
    rw [i2] at a2
    unfold zsg
    split
    · next h =>
      rw [Int.one_mul]
      exact Int.not_lt.mp (fun q => a2 ⟨⟨hg, hk, q⟩, h⟩)
    · next h =>
      have : ¬ 0 < gh (iI A) (iI B) (iI C) (iI D) g (S.2.1 p).toInt (S.2.2.1 p).toInt (S.2.2.2.1 p).toInt (S.2.2.2.2.1 p).toInt := fun q => a1 ⟨⟨hg, hk, q⟩, by simpa using h⟩
      omega
  · intro h
    constructor
    · intro g hg
      rw [bt_not _ hg, (hB p hp g hg).1]
      rintro ⟨⟨h1, h2, h3⟩, h4⟩
      have := h g h1 h2
      unfold zsg at this
      rw [if_neg (by simpa using h4)] at this
      omega
    · intro g hg
      rw [(hB p hp g hg).2]
      rintro ⟨⟨h1, h2, h3⟩, h4⟩
      have := h g h1 h2
      unfold zsg at this
      rw [if_pos h4] at this
      omega
abbrev ztp (f : Int32) (a b : Nat → Int32) (p : Nat) : Prop := a p &&& (f ^^^ -1) = 0 ∧ b p &&& f = 0
abbrev zon (kn : Int32) (a b : Nat → Int32) (p g : Nat) : Prop := bt kn g = true ∧ ¬ (bt (a p) g = true ∨ bt (b p) g = true)
theorem bt_on (kn u v : Int32) {g : Nat} (hg : g < 32) : bt (kn &&& ((u ||| v) ^^^ -1)) g = true ↔ bt kn g = true ∧ ¬ (bt u g = true ∨ bt v g = true) := by
  rw [b_and, bt_not _ hg, b_or]
  simp
theorem zfb_ok (kn f : Int32) (a b : Nat → Int32) (x y z q so : Nat → Int32) (n : Nat) :
    (zfb kn f a b n).1 = nI (zcp f x y z q a b so n).1 ∧ ∀ g, g < 32 →
      (bt (zfb kn f a b n).2.1 g = true ↔ ∃ p, p < n ∧ ztp f a b p ∧ (bt (a p) g = true ∨ bt (b p) g = true)) ∧
      (bt (zfb kn f a b n).2.2.1 g = true ↔ ∃ p, p < n ∧ ztp f a b p ∧ zon kn a b p g) ∧
      (bt (zfb kn f a b n).2.2.2.1 g = true ↔ ∃ p r, p < r ∧ r < n ∧ (ztp f a b p ∧ zon kn a b p g) ∧ ztp f a b r ∧ zon kn a b r g) ∧
      (bt (zfb kn f a b n).2.2.2.2 g = true ↔ ∃ p r s, p < r ∧ r < s ∧ s < n ∧ (ztp f a b p ∧ zon kn a b p g) ∧ (ztp f a b r ∧ zon kn a b r g) ∧ ztp f a b s ∧ zon kn a b s g) := by
  induction n with
  | zero => exact ⟨rfl, fun g hg => ⟨by simp [zfb, b_0], by simp [zfb, b_0], by simp [zfb, b_0], by simp [zfb, b_0]⟩⟩
  | succ n ih =>
    obtain ⟨i0, ih⟩ := ih
    simp only [zfb, zcp]
    by_cases ht : a n &&& (f ^^^ -1) = 0 ∧ b n &&& f = 0
    · rw [if_pos ht, if_pos ht]
      refine ⟨by rw [i0]; exact nI_1 _, fun g hg => ?_⟩
      obtain ⟨i1, i2, i3, i4⟩ := ih g hg
      refine ⟨?_, ?_, ?_, ?_⟩
      · rw [b_or, b_or, Bool.or_eq_true, Bool.or_eq_true, i1]
        constructor
        · rintro (⟨p, h1, h2⟩ | h)
          · exact ⟨p, by omega, h2⟩
          · exact ⟨n, by omega, ht, h⟩
        · rintro ⟨p, h1, h2, h3⟩
          rcases Nat.lt_succ_iff_lt_or_eq.mp h1 with h4 | rfl
          · exact Or.inl ⟨p, h4, h2, h3⟩
          · exact Or.inr h3
      · rw [b_or, Bool.or_eq_true, bt_on _ _ _ hg, i2]
        constructor
        · rintro (⟨p, h1, h2⟩ | h)
          · exact ⟨p, by omega, h2⟩
          · exact ⟨n, by omega, ht, h⟩
        · rintro ⟨p, h1, h2, h3⟩
          rcases Nat.lt_succ_iff_lt_or_eq.mp h1 with h4 | rfl
          · exact Or.inl ⟨p, h4, h2, h3⟩
          · exact Or.inr h3
      · rw [b_or, b_and, Bool.or_eq_true, Bool.and_eq_true, bt_on _ _ _ hg, i2, i3]
        constructor
        · rintro (⟨p, r, h1, h2, h3⟩ | ⟨⟨p, h1, h2⟩, h⟩)
          · exact ⟨p, r, h1, by omega, h3⟩
          · exact ⟨p, n, h1, by omega, h2, ht, h⟩
        · rintro ⟨p, r, h1, h2, h3, h5, h6⟩
          rcases Nat.lt_succ_iff_lt_or_eq.mp h2 with h4 | rfl
          · exact Or.inl ⟨p, r, h1, h4, h3, h5, h6⟩
          · exact Or.inr ⟨⟨p, h1, h3⟩, h6⟩
      · rw [b_or, b_and, Bool.or_eq_true, Bool.and_eq_true, bt_on _ _ _ hg, i3, i4]
        constructor
        · rintro (⟨p, r, s, h1, h2, h3, h4⟩ | ⟨⟨p, r, h1, h2, h3, h4⟩, h⟩)
          · exact ⟨p, r, s, h1, h2, by omega, h4⟩
          · exact ⟨p, r, n, h1, h2, by omega, h3, h4, ht, h⟩
        · rintro ⟨p, r, s, h1, h2, h3, h4, h5, h6, h7⟩
          rcases Nat.lt_succ_iff_lt_or_eq.mp h3 with h8 | rfl
          · exact Or.inl ⟨p, r, s, h1, h2, h8, h4, h5, h6, h7⟩
          · exact Or.inr ⟨⟨p, r, h1, h2, h4, h5⟩, h7⟩
    · rw [if_neg ht, if_neg ht]
      refine ⟨i0, fun g hg => ?_⟩
      obtain ⟨i1, i2, i3, i4⟩ := ih g hg
      refine ⟨?_, ?_, ?_, ?_⟩
      · rw [i1]
        constructor
        · rintro ⟨p, h1, h2⟩
          exact ⟨p, by omega, h2⟩
        · rintro ⟨p, h1, h2, h3⟩
          rcases Nat.lt_succ_iff_lt_or_eq.mp h1 with h4 | rfl
          · exact ⟨p, h4, h2, h3⟩
          · exact absurd h2 ht
      · rw [i2]
        constructor
        · rintro ⟨p, h1, h2⟩
          exact ⟨p, by omega, h2⟩
        · rintro ⟨p, h1, h2, h3⟩
          rcases Nat.lt_succ_iff_lt_or_eq.mp h1 with h4 | rfl
          · exact ⟨p, h4, h2, h3⟩
          · exact absurd h2 ht
      · rw [i3]
        constructor
        · rintro ⟨p, r, h1, h2, h3⟩
          exact ⟨p, r, h1, by omega, h3⟩
        · rintro ⟨p, r, h1, h2, h3, h5, h6⟩
          rcases Nat.lt_succ_iff_lt_or_eq.mp h2 with h4 | rfl
          · exact ⟨p, r, h1, h4, h3, h5, h6⟩
          · exact absurd h5 ht
      · rw [i4]
        constructor
        · rintro ⟨p, r, s, h1, h2, h3, h4⟩
          exact ⟨p, r, s, h1, h2, by omega, h4⟩
        · rintro ⟨p, r, s, h1, h2, h3, h4, h5, h6, h7⟩
          rcases Nat.lt_succ_iff_lt_or_eq.mp h3 with h8 | rfl
          · exact ⟨p, r, s, h1, h2, h8, h4, h5, h6, h7⟩
          · exact absurd h6 ht
/-- a point of the arrangement, of the body on these sides -/
def gU (kn : Nat → Prop) (A B C D : Nat → Int) (sx sy sz : Int) (σ : Nat → Int) (x y z q : Int) : Prop := gW kn A B C D sx sy sz x y z q ∧ gQ kn A B C D σ x y z q
/-- the sides are of a block -/
def gBk (kn : Nat → Prop) (A B C D : Nat → Int) (sx sy sz : Int) (σ : Nat → Int) : Prop := ∀ g, g < 12 → kn g → ∃ x y z q, gU kn A B C D sx sy sz σ x y z q ∧ gh A B C D g x y z q ≠ 0
/-- a face of it -/
def gFc (kn : Nat → Prop) (A B C D : Nat → Int) (sx sy sz : Int) (σ : Nat → Int) (f : Nat) : Prop := ∀ g, g < 12 → kn g → g ≠ f → ∃ x y z q, gU kn A B C D sx sy sz σ x y z q ∧ gh A B C D f x y z q = 0 ∧ gh A B C D g x y z q ≠ 0
/-- known: the box and so many joints -/
def zkn (j : Nat) : Int32 := nI (4032 + (2 ^ j - 1))
theorem zkn_bt : ∀ j, j ≤ 6 → ∀ g, g < 32 → (bt (zkn j) g = true ↔ g < j ∨ (6 ≤ g ∧ g < 12)) := by decide +kernel
theorem zsg_S {kn : Nat → Prop} {s : Nat} (hs : s < 64) : gS kn (zsg (nI s ||| 1344)) := by
  have hb : ∀ s, s < 64 → bt (nI s ||| 1344) 6 = true ∧ bt (nI s ||| 1344) 7 = false ∧ bt (nI s ||| 1344) 8 = true ∧ bt (nI s ||| 1344) 9 = false ∧ bt (nI s ||| 1344) 10 = true ∧ bt (nI s ||| 1344) 11 = false := by decide +kernel
  obtain ⟨h6, h7, h8, h9, h10, h11⟩ := hb s hs
  refine ⟨fun g _ _ => ?_, ?_, ?_, ?_, ?_, ?_, ?_⟩
  · unfold zsg; split
    · exact Or.inl rfl
    · exact Or.inr rfl
  · unfold zsg; rw [h6]; rfl
  · unfold zsg; rw [h7]; rfl
  · unfold zsg; rw [h8]; rfl
  · unfold zsg; rw [h9]; rfl
  · unfold zsg; rw [h10]; rfl
  · unfold zsg; rw [h11]; rfl
section
variable {kn sx sy sz : Int32} {A B C D : Nat → Int32} {S : zPS}
theorem zPb_off (hB : zPb kn A B C D S) {p : Nat} (hp : p < S.1) {g : Nat} (hg : g < 32) : (bt (S.2.2.2.2.2.1 p) g = true ∨ bt (S.2.2.2.2.2.2 p) g = true) ↔ g < 12 ∧ bt kn g = true ∧ gh (iI A) (iI B) (iI C) (iI D) g (S.2.1 p).toInt (S.2.2.1 p).toInt (S.2.2.2.1 p).toInt (S.2.2.2.2.1 p).toInt ≠ 0 := by
  obtain ⟨i1, i2⟩ := hB p hp g hg
  rw [i1, i2]
  constructor
  · rintro (⟨h1, h2, h3⟩ | ⟨h1, h2, h3⟩)
    · exact ⟨h1, h2, by omega⟩
    · exact ⟨h1, h2, by omega⟩
  · rintro ⟨h1, h2, h3⟩
    rcases Int.lt_or_gt_of_ne h3 with h | h
    · exact Or.inr ⟨h1, h2, h⟩
    · exact Or.inl ⟨h1, h2, h⟩
theorem zbk_ok (hg : zPg kn A B C D sx sy sz S) (h12 : ∀ g, g < 32 → bt kn g = true → g < 12) (m : Int32) : (zfb kn m S.2.2.2.2.2.1 S.2.2.2.2.2.2 S.1).2.1 = kn ↔ gBk (knb kn) (iI A) (iI B) (iI C) (iI D) sx.toInt sy.toInt sz.toInt (zsg m) := by
  obtain ⟨hB, hD, hW⟩ := hg
  have hf := (zfb_ok kn m S.2.2.2.2.2.1 S.2.2.2.2.2.2 S.2.1 S.2.1 S.2.1 S.2.1 S.2.1 S.1).2
  constructor
  · intro h g hg hk
    have h1 := (hf g (by omega)).1
    rw [h] at h1
    obtain ⟨p, hp, ht, ho⟩ := h1.mp hk
    have h2 := ((zPb_off hB hp (by omega)).mp ho).2.2
    exact ⟨_, _, _, _, ⟨(hW _ _ _ _).mp ⟨p, hp, rfl, rfl, rfl, rfl⟩, (ztch hB hp m).mp ht⟩, h2⟩
  · intro h
    apply b_ext
    intro g hg
    rw [Bool.eq_iff_iff, (hf g hg).1]
    constructor
    · rintro ⟨p, hp, ht, ho⟩
      exact ((zPb_off hB hp hg).mp ho).2.1
    · intro hk
      obtain ⟨x, y, z, q, ⟨hw, hq⟩, hne⟩ := h g (h12 g hg hk) hk
      obtain ⟨p, hp, rfl, rfl, rfl, rfl⟩ := (hW _ _ _ _).mpr hw
      exact ⟨p, hp, (ztch hB hp m).mpr hq, (zPb_off hB hp hg).mpr ⟨h12 g hg hk, hk, hne⟩⟩
theorem zfc_ok (hg : zPg kn A B C D sx sy sz S) (hp : gP (knb kn) (iI A) (iI B) (iI C) (iI D) sx.toInt sy.toInt sz.toInt) (h12 : ∀ g, g < 32 → bt kn g = true → g < 12) {m : Int32} (hs : gS (knb kn) (zsg m)) {f : Nat} (hf : f < 32) :
    bt (zfb kn m S.2.2.2.2.2.1 S.2.2.2.2.2.2 S.1).2.2.2.2 f = true ↔ bt kn f = true ∧ gFc (knb kn) (iI A) (iI B) (iI C) (iI D) sx.toInt sy.toInt sz.toInt (zsg m) f := by
  have hv := zPg_gV hg
  obtain ⟨hB, hD, hW⟩ := hg
  rw [((zfb_ok kn m S.2.2.2.2.2.1 S.2.2.2.2.2.2 S.2.1 S.2.1 S.2.1 S.2.1 S.2.1 S.1).2 f hf).2.2.2]
  have on : ∀ p, p < S.1 → (ztp m S.2.2.2.2.2.1 S.2.2.2.2.2.2 p ∧ zon kn S.2.2.2.2.2.1 S.2.2.2.2.2.2 p f ↔ bt kn f = true ∧ gQ (knb kn) (iI A) (iI B) (iI C) (iI D) (zsg m) (S.2.1 p).toInt (S.2.2.1 p).toInt (S.2.2.2.1 p).toInt (S.2.2.2.2.1 p).toInt ∧ gh (iI A) (iI B) (iI C) (iI D) f (S.2.1 p).toInt (S.2.2.1 p).toInt (S.2.2.2.1 p).toInt (S.2.2.2.2.1 p).toInt = 0) := by
    intro p hp
    show (ztp m _ _ p ∧ bt kn f = true ∧ ¬ _) ↔ _
    rw [zPb_off hB hp hf, show ztp m S.2.2.2.2.2.1 S.2.2.2.2.2.2 p ↔ _ from ztch hB hp m]
    constructor
    · rintro ⟨h1, h2, h3⟩
      exact ⟨h2, h1, Decidable.byContradiction fun q => h3 ⟨h12 f hf h2, h2, q⟩⟩
    · rintro ⟨h2, h1, h3⟩
      exact ⟨h1, h2, fun q => q.2.2 h3⟩
  constructor
  · rintro ⟨p, r, s, h1, h2, h3, h4, h5, h6⟩
    obtain ⟨k1, k2⟩ := (on p (by omega)).mp h4
    obtain ⟨-, k3⟩ := (on r (by omega)).mp h5
    obtain ⟨-, k4⟩ := (on s (by omega)).mp h6
    refine ⟨k1, fun g hg hk hgf => ?_⟩
    obtain ⟨i, a1, a2, a3, a4⟩ := g_face hv hp hs (h12 f hf k1) k1 (show p < S.1 by omega) (show r < S.1 by omega) h3 (by omega) (by omega) (by omega) k2 k3 k4 g hg hk hgf
    exact ⟨_, _, _, _, ⟨(hW _ _ _ _).mp ⟨i, a1, rfl, rfl, rfl, rfl⟩, a2⟩, a3, a4⟩
  · rintro ⟨hk, hF⟩
    obtain ⟨i, j, k, a1, a2, a3, n1, n2, n3, t1, t2, t3⟩ := g_three hv hp hs (h12 f hf hk) hk (fun g hg hkg hgf => by
      obtain ⟨x, y, z, q, ⟨hw, hq⟩, h1, h2⟩ := hF g hg hkg hgf
      obtain ⟨p, hp, rfl, rfl, rfl, rfl⟩ := (hW _ _ _ _).mpr hw
      exact ⟨p, hp, hq, h1, h2⟩)
    have o1 := (on i a1).mpr ⟨hk, t1⟩
    have o2 := (on j a2).mpr ⟨hk, t2⟩
    have o3 := (on k a3).mpr ⟨hk, t3⟩
    rcases Nat.lt_or_gt_of_ne n1 with q1 | q1
    · rcases Nat.lt_or_gt_of_ne n3 with q3 | q3
      · exact ⟨i, j, k, q1, q3, a3, o1, o2, o3⟩
      · rcases Nat.lt_or_gt_of_ne n2 with q2 | q2
        · exact ⟨i, k, j, q2, q3, a2, o1, o3, o2⟩
        · exact ⟨k, i, j, q2, q1, a2, o3, o1, o2⟩
    · rcases Nat.lt_or_gt_of_ne n2 with q2 | q2
      · exact ⟨j, i, k, q1, q2, a3, o2, o1, o3⟩
      · rcases Nat.lt_or_gt_of_ne n3 with q3 | q3
        · exact ⟨j, k, i, q3, q2, a1, o2, o3, o1⟩
        · exact ⟨k, j, i, q3, q1, a1, o3, o2, o1⟩
/-- beside a face there is a block -/
theorem zbs_ok (hg : zPg kn A B C D sx sy sz S) (hp : gP (knb kn) (iI A) (iI B) (iI C) (iI D) sx.toInt sy.toInt sz.toInt) {m m' : Int32} (hs : gS (knb kn) (zsg m)) (hs' : gS (knb kn) (zsg m')) {f : Nat} (hf : f < 6) (hk : bt kn f = true) (hm : ∀ g, g < 12 → bt m' g = (if g = f then !bt m g else bt m g))
    (hF : gFc (knb kn) (iI A) (iI B) (iI C) (iI D) sx.toInt sy.toInt sz.toInt (zsg m) f) : gBk (knb kn) (iI A) (iI B) (iI C) (iI D) sx.toInt sy.toInt sz.toInt (zsg m') := by
  have hv := zPg_gV hg
  obtain ⟨hB, hD, hW⟩ := hg
  intro g hg hkg
  obtain ⟨i, a1, a2, a3⟩ := g_beside (τ := zsg m') hv hp hs hs' (show f < 12 by omega) hk (by omega) (fun g hg _ => by
    unfold zsg
    rw [hm g hg]
    split
    · next h => cases hb : bt m g <;> simp
    · rfl) (fun g hg hkg hgf => by
      obtain ⟨x, y, z, q, ⟨hw, hq⟩, h1, h2⟩ := hF g hg hkg hgf
      obtain ⟨p, hp, rfl, rfl, rfl, rfl⟩ := (hW _ _ _ _).mpr hw
      exact ⟨p, hp, hq, h1, h2⟩) g hg hkg
  exact ⟨_, _, _, _, ⟨(hW _ _ _ _).mp ⟨i, a1, rfl, rfl, rfl, rfl⟩, a2⟩, a3⟩
end
/-- by x, then y, then z -/
def gL (x y z q x' y' z' q' : Int) : Prop := x * q' < x' * q ∨ (x * q' = x' * q ∧ (y * q' < y' * q ∨ (y * q' = y' * q ∧ z * q' < z' * q)))
theorem g_lt2 {a b c p q r : Int} (hp : 0 < p) (hq : 0 < q) (hr : 0 < r) (h1 : a * q < b * p) (h2 : b * r < c * q) : a * r < c * p := by
  have k1 := Int.mul_lt_mul_of_pos_right h1 hr
  have k2 := Int.mul_lt_mul_of_pos_right h2 hp
  have e1 : b * p * r = b * r * p := by clear h1 h2 k1 k2; grind
  have e2 : a * q * r = a * r * q := by clear h1 h2 k1 k2; grind
  have e3 : c * q * p = c * p * q := by clear h1 h2 k1 k2; grind
  rw [e2, e1] at k1
  rw [e3] at k2
  exact Int.lt_of_mul_lt_mul_right (Int.lt_trans k1 k2) (Int.le_of_lt hq)
theorem g_le2 {a b c p q r : Int} (hp : 0 < p) (hq : 0 < q) (hr : 0 < r) (h1 : a * q < b * p) (h2 : b * r = c * q) : a * r < c * p := by
  have k1 := Int.mul_lt_mul_of_pos_right h1 hr
  have e1 : b * p * r = b * r * p := by clear h1 h2 k1; grind
  have e2 : a * q * r = a * r * q := by clear h1 h2 k1; grind
  rw [e2, e1, h2] at k1
  have e3 : c * q * p = c * p * q := by clear h1 h2 k1; grind
  rw [e3] at k1
  exact Int.lt_of_mul_lt_mul_right k1 (Int.le_of_lt hq)
theorem g_el2 {a b c p q r : Int} (hp : 0 < p) (hq : 0 < q) (hr : 0 < r) (h1 : a * q = b * p) (h2 : b * r < c * q) : a * r < c * p := by
  have k2 := Int.mul_lt_mul_of_pos_right h2 hp
  have e1 : b * r * p = b * p * r := by clear h1 h2 k2; grind
  have e3 : c * q * p = c * p * q := by clear h1 h2 k2; grind
  rw [e1, ← h1, e3] at k2
  have e2 : a * q * r = a * r * q := by clear h1 h2 k2; grind
  rw [e2] at k2
  exact Int.lt_of_mul_lt_mul_right k2 (Int.le_of_lt hq)
theorem g_ee2 {a b c p q r : Int} (hq : 0 < q) (h1 : a * q = b * p) (h2 : b * r = c * q) : a * r = c * p := by
  have e2 : a * r * q = c * p * q := by
    have k1 : a * r * q = a * q * r := by clear h1 h2; grind
    have k2 : c * p * q = c * q * p := by clear h1 h2; grind
    rw [k1, k2, h1, ← h2]; clear h1 h2; grind
  exact Int.eq_of_mul_eq_mul_right (by omega) e2
theorem gL_tr {x y z q x' y' z' q' x'' y'' z'' q'' : Int} (hq : 0 < q) (hq' : 0 < q') (hq'' : 0 < q'') (h : gL x y z q x' y' z' q') (h' : gL x' y' z' q' x'' y'' z'' q'') : gL x y z q x'' y'' z'' q'' := by
  rcases h with h | ⟨e, h⟩
  · rcases h' with h' | ⟨e', h'⟩
    · exact Or.inl (g_lt2 hq hq' hq'' h h')
    · exact Or.inl (g_le2 hq hq' hq'' h e')
  · rcases h' with h' | ⟨e', h'⟩
    · exact Or.inl (g_el2 hq hq' hq'' e h')
    · refine Or.inr ⟨g_ee2 hq' e e', ?_⟩
      rcases h with h | ⟨f, h⟩
      · rcases h' with h' | ⟨f', h'⟩
        · exact Or.inl (g_lt2 hq hq' hq'' h h')
        · exact Or.inl (g_le2 hq hq' hq'' h f')
      · rcases h' with h' | ⟨f', h'⟩
        · exact Or.inl (g_el2 hq hq' hq'' f h')
        · exact Or.inr ⟨g_ee2 hq' f f', g_lt2 hq hq' hq'' h h'⟩
theorem gL_tt {x y z q x' y' z' q' : Int} (h : ¬ gL x y z q x' y' z' q') : gL x' y' z' q' x y z q ∨ (x * q' = x' * q ∧ y * q' = y' * q ∧ z * q' = z' * q) := by
  unfold gL at *
  omega
theorem gL_ir {x y z q : Int} (h : gL x y z q x y z q) : False := by
  unfold gL at h
  omega
/-- two rows in order with the same entries are one -/
theorem z_srt {T : Type} {R : T → T → Prop} (ir : ∀ a, ¬ R a a) (tr : ∀ a b c, R a b → R b c → R a c) {n m : Nat} {u v : Nat → T} (hu : ∀ i j, i < j → j < n → R (u i) (u j)) (hv : ∀ i j, i < j → j < m → R (v i) (v j)) (huv : ∀ i, i < n → ∃ j, j < m ∧ v j = u i) (hvu : ∀ j, j < m → ∃ i, i < n ∧ u i = v j) : n = m ∧ ∀ i, i < n → u i = v i := by
  have key : ∀ k, ∀ i, i < k → i < n → i < m → u i = v i := by
    intro k
    induction k with
    | zero => intro i hi; exact absurd hi (Nat.not_lt_zero _)
    | succ k ih =>
      intro i hi hn hm
      rcases Nat.lt_succ_iff_lt_or_eq.mp hi with h | rfl
      · exact ih i h hn hm
      · obtain ⟨j, hj, ej⟩ := huv i hn
        obtain ⟨l, hl, el⟩ := hvu i hm
        by_cases h1 : j < i
        · have := ih j h1 (by omega) hj
          have h3 := hu j i h1 hn
          rw [this, ej] at h3
          exact absurd h3 (ir _)
        · by_cases h2 : l < i
          · have := ih l h2 hl (by omega)
            have h3 := hv l i h2 hm
            rw [← el, ← this] at h3
            exact absurd h3 (ir _)
          · rcases Nat.eq_or_lt_of_le (Nat.not_lt.mp h1) with h3 | h3
            · subst h3; exact ej.symm
            · rcases Nat.eq_or_lt_of_le (Nat.not_lt.mp h2) with h4 | h4
              · subst h4; exact el
              · have a1 := hv i j h3 hj
                have a2 := hu i l h4 hl
                rw [ej] at a1
                rw [el] at a2
                exact absurd (tr _ _ _ a1 a2) (ir _)
  have hnm : n = m := by
    rcases Nat.lt_trichotomy n m with h | h | h
    · obtain ⟨i, hi, e⟩ := hvu n h
      have := key (i + 1) i (by omega) hi (by omega)
      have h3 := hv i n hi h
      rw [← this, e] at h3
      exact absurd h3 (ir _)
    · exact h
    · obtain ⟨j, hj, e⟩ := huv m h
      have := key (j + 1) j (by omega) (by omega) hj
      have h3 := hu j m hj h
      rw [this, e] at h3
      exact absurd h3 (ir _)
  exact ⟨hnm, fun i hi => key (i + 1) i (by omega) hi (by omega)⟩
/-- the same of two ints' points -/
abbrev zlx (x y z q : Nat → Int32) (p r : Nat) : Prop := x p * q r < x r * q p ∨ (x p * q r = x r * q p ∧ (y p * q r < y r * q p ∨ (y p * q r = y r * q p ∧ z p * q r < z r * q p)))
theorem zlx_ok {S : zPS} (hD : zPd S) {p r : Nat} (hp : p < S.1) (hr : r < S.1) : zlx S.2.1 S.2.2.1 S.2.2.2.1 S.2.2.2.2.1 p r ↔ gL (S.2.1 p).toInt (S.2.2.1 p).toInt (S.2.2.2.1 p).toInt (S.2.2.2.2.1 p).toInt (S.2.1 r).toInt (S.2.2.1 r).toInt (S.2.2.2.1 r).toInt (S.2.2.2.2.1 r).toInt := by
  obtain ⟨q1, x1, y1, z1⟩ := hD.1 p hp
  obtain ⟨q2, x2, y2, z2⟩ := hD.1 r hr
  have k : ∀ {a b : Int32}, (0 ≤ a.toInt ∧ a.toInt ≤ 10368) → (0 < b.toInt ∧ b.toInt ≤ 1296) → zbd (10368 * 1296) (a * b) (a.toInt * b.toInt) := fun ha hb => zbd_mul (zbd_self (by omega) ha.2) (zbd_self (by omega) hb.2) (by decide)
  unfold zlx gL
  rw [zbd_lt (k x1 q2) (k x2 q1), zbd_eq (k x1 q2) (k x2 q1), zbd_lt (k y1 q2) (k y2 q1), zbd_eq (k y1 q2) (k y2 q1), zbd_lt (k z1 q2) (k z2 q1)]
def updN (e : Nat → Nat) (k v : Nat) : Nat → Nat := fun i => if i = k then v else e i
theorem updN_s {e : Nat → Nat} {k v : Nat} : updN e k v k = v := if_pos rfl
theorem updN_n {e : Nat → Nat} {k v i : Nat} (h : i ≠ k) : updN e k v i = e i := if_neg h
theorem zsi_so {x y z q : Nat → Int32} {p N : Nat} (hN : N ≤ 220) (hp : p < N) (tr : ∀ a b c, a < N → b < N → c < N → zlx x y z q a b → zlx x y z q b c → zlx x y z q a c) : ∀ (k : Nat) (s : Nat → Int32) (e : Nat → Nat), (∀ i, i < k → e i < N ∧ s i = nI (e i)) → (∀ i j, i < j → j < k → zlx x y z q (e i) (e j)) → (∀ i, i < k → ¬ zlx x y z q p (e i) → zlx x y z q (e i) p) →
    ∃ e' : Nat → Nat, (∀ i, i < k + 1 → e' i < N ∧ zsi x y z q p k s i = nI (e' i)) ∧ (∀ i j, i < j → j < k + 1 → zlx x y z q (e' i) (e' j)) ∧ ∀ r, (∃ i, i < k + 1 ∧ e' i = r) ↔ r = p ∨ ∃ i, i < k ∧ e i = r := by
  intro k
  induction k with
  | zero =>
    intro s e h1 h2 h3
    refine ⟨fun _ => p, fun i hi => ⟨hp, ?_⟩, fun i j h4 h5 => by omega, fun r => ⟨?_, ?_⟩⟩
    · have : i = 0 := by omega
      subst this
      exact pk_us
    · rintro ⟨i, -, rfl⟩; exact Or.inl rfl
    · rintro (rfl | ⟨i, hi, -⟩)
      · exact ⟨0, by omega, rfl⟩
      · omega
  | succ k ih =>
    intro s e h1 h2 h3
    obtain ⟨b1, b2⟩ := h1 k (by omega)
    have hcl : (s k).toNatClampNeg = e k := by
      rw [b2]
      show (nI (e k)).toInt.toNat = e k
      rw [nI_toInt (by omega)]; rfl
    simp only [zsi, hcl]
    by_cases hc : zlx x y z q p (e k)
    · rw [if_pos hc]
      obtain ⟨e', c1, c2, c3⟩ := ih (upd s (k + 1) (s k)) e (fun i hi => by rw [pk_un (by omega)]; exact h1 i (by omega)) (fun i j a1 a2 => h2 i j a1 (by omega)) (fun i hi => h3 i (by omega))
      refine ⟨updN e' (k + 1) (e k), fun i hi => ?_, fun i j hij hj => ?_, fun r => ?_⟩
      · by_cases h : i = k + 1
        · subst h
          rw [updN_s, zsi_hi _ _ _ (by omega), pk_us]
          exact ⟨b1, b2⟩
        · rw [updN_n h]
          exact c1 i (by omega)
      · have hi' : i ≠ k + 1 := by omega
        rw [updN_n hi']
        by_cases h : j = k + 1
        · rw [h, updN_s]
          rcases (c3 (e' i)).mp ⟨i, by omega, rfl⟩ with h4 | ⟨l, hl, h4⟩
          · rw [h4]; exact hc
          · rw [← h4]; exact h2 l k hl (by omega)
        · rw [updN_n h]
          exact c2 i j hij (by omega)
      · constructor
        · rintro ⟨i, hi, h⟩
          by_cases h4 : i = k + 1
          · rw [h4, updN_s] at h
            exact Or.inr ⟨k, by omega, h⟩
          · rw [updN_n h4] at h
            rcases (c3 r).mp ⟨i, by omega, h⟩ with h5 | ⟨l, hl, h5⟩
            · exact Or.inl h5
            · exact Or.inr ⟨l, by omega, h5⟩
        · intro h
          have h5 : r = e k ∨ ∃ i, i < k + 1 ∧ e' i = r := by
            rcases h with h | ⟨l, hl, h⟩
            · exact Or.inr ((c3 r).mpr (Or.inl h))
            · rcases Nat.lt_succ_iff_lt_or_eq.mp hl with h6 | rfl
              · exact Or.inr ((c3 r).mpr (Or.inr ⟨l, h6, h⟩))
              · exact Or.inl h.symm
          rcases h5 with h5 | ⟨i, hi, h5⟩
          · exact ⟨k + 1, by omega, by rw [updN_s]; exact h5.symm⟩
          · exact ⟨i, by omega, by rw [updN_n (by omega)]; exact h5⟩
    · rw [if_neg hc]
      have hlt := h3 k (by omega) hc
      refine ⟨updN e (k + 1) p, fun i hi => ?_, fun i j hij hj => ?_, fun r => ?_⟩
      · by_cases h : i = k + 1
        · subst h
          rw [updN_s, pk_us]
          exact ⟨hp, rfl⟩
        · rw [updN_n h, pk_un h]
          exact h1 i (by omega)
      · have hi' : i ≠ k + 1 := by omega
        rw [updN_n hi']
        by_cases h : j = k + 1
        · rw [h, updN_s]
          rcases Nat.eq_or_lt_of_le (show i ≤ k by omega) with h4 | h4
          · rw [h4]; exact hlt
          · exact tr _ _ _ (h1 i (by omega)).1 b1 hp (h2 i k h4 (by omega)) hlt
        · rw [updN_n h]
          exact h2 i j hij (by omega)
      · constructor
        · rintro ⟨i, hi, h⟩
          by_cases h4 : i = k + 1
          · rw [h4, updN_s] at h
            exact Or.inl h.symm
          · rw [updN_n h4] at h
            exact Or.inr ⟨i, by omega, h⟩
        · rintro (h | ⟨l, hl, h⟩)
          · exact ⟨k + 1, by omega, by rw [updN_s]; exact h.symm⟩
          · exact ⟨l, by omega, by rw [updN_n (by omega)]; exact h⟩
/-- the corners, sorted -/
theorem zcp_so {S : zPS} (hD : zPd S) (hr : ∀ p r, p < S.1 → r < S.1 → (S.2.1 p).toInt * (S.2.2.2.2.1 r).toInt = (S.2.1 r).toInt * (S.2.2.2.2.1 p).toInt → (S.2.2.1 p).toInt * (S.2.2.2.2.1 r).toInt = (S.2.2.1 r).toInt * (S.2.2.2.2.1 p).toInt → (S.2.2.2.1 p).toInt * (S.2.2.2.2.1 r).toInt = (S.2.2.2.1 r).toInt * (S.2.2.2.2.1 p).toInt → p = r) (hc : S.1 ≤ 220) (m : Int32) (so : Nat → Int32) (n : Nat) (hn : n ≤ S.1) :
    ∃ e : Nat → Nat, (∀ i, i < (zcp m S.2.1 S.2.2.1 S.2.2.2.1 S.2.2.2.2.1 S.2.2.2.2.2.1 S.2.2.2.2.2.2 so n).1 → e i < S.1 ∧ (zcp m S.2.1 S.2.2.1 S.2.2.2.1 S.2.2.2.2.1 S.2.2.2.2.2.1 S.2.2.2.2.2.2 so n).2 i = nI (e i)) ∧ (∀ i j, i < j → j < (zcp m S.2.1 S.2.2.1 S.2.2.2.1 S.2.2.2.2.1 S.2.2.2.2.2.1 S.2.2.2.2.2.2 so n).1 → zlx S.2.1 S.2.2.1 S.2.2.2.1 S.2.2.2.2.1 (e i) (e j)) ∧ ∀ r, (∃ i, i < (zcp m S.2.1 S.2.2.1 S.2.2.2.1 S.2.2.2.2.1 S.2.2.2.2.2.1 S.2.2.2.2.2.2 so n).1 ∧ e i = r) ↔ r < n ∧ ztp m S.2.2.2.2.2.1 S.2.2.2.2.2.2 r := by
  induction n with
  | zero => exact ⟨fun _ => 0, fun i hi => absurd hi (Nat.not_lt_zero _), fun i j _ hj => absurd hj (Nat.not_lt_zero _), fun r => ⟨fun ⟨i, hi, _⟩ => absurd hi (Nat.not_lt_zero _), fun ⟨h, _⟩ => absurd h (Nat.not_lt_zero _)⟩⟩
  | succ n ih =>
    obtain ⟨e, h1, h2, h3⟩ := ih (by omega)
    simp only [zcp]
    by_cases ht : S.2.2.2.2.2.1 n &&& (m ^^^ -1) = 0 ∧ S.2.2.2.2.2.2 n &&& m = 0
    · rw [if_pos ht]
      obtain ⟨e', c1, c2, c3⟩ := zsi_so hc (show n < S.1 by omega) (fun a b c ha hb hc h1 h2 => by
        rw [zlx_ok hD ha hb] at h1
        rw [zlx_ok hD hb hc] at h2
        rw [zlx_ok hD ha hc]
        exact gL_tr (hD.1 a ha).1.1 (hD.1 b hb).1.1 (hD.1 c hc).1.1 h1 h2) _ _ e h1 h2 (fun i hi hno => by
        have hei := (h1 i hi).1
        rw [zlx_ok hD (by omega) hei] at hno
        rw [zlx_ok hD hei (by omega)]
        rcases gL_tt hno with h | ⟨k1, k2, k3⟩
        · exact h
        · have := hr n (e i) (by omega) hei k1 k2 k3
          have h4 := ((h3 (e i)).mp ⟨i, hi, rfl⟩).1
          omega)
      refine ⟨e', c1, c2, fun r => ?_⟩
      rw [c3, h3]
      constructor
      · rintro (rfl | ⟨k1, k2⟩)
        · exact ⟨by omega, ht⟩
        · exact ⟨by omega, k2⟩
      · rintro ⟨k1, k2⟩
        rcases Nat.lt_succ_iff_lt_or_eq.mp k1 with k3 | k3
        · exact Or.inr ⟨k3, k2⟩
        · exact Or.inl k3
    · rw [if_neg ht]
      refine ⟨e, h1, h2, fun r => ?_⟩
      rw [h3]
      constructor
      · rintro ⟨k1, k2⟩
        exact ⟨by omega, k2⟩
      · rintro ⟨k1, k2⟩
        rcases Nat.lt_succ_iff_lt_or_eq.mp k1 with k3 | rfl
        · exact ⟨k3, k2⟩
        · exact absurd k2 ht
/-- how many below n -/
noncomputable def zct (P : Nat → Prop) : Nat → Nat
  | 0 => 0
  | n + 1 => zct P n + @ite Nat (P n) (Classical.propDecidable _) 1 0
theorem zct_t {P : Nat → Prop} {n : Nat} (h : P n) : zct P (n + 1) = zct P n + 1 := by simp only [zct, if_pos h]
theorem zct_f {P : Nat → Prop} {n : Nat} (h : ¬ P n) : zct P (n + 1) = zct P n := by simp only [zct, if_neg h, Nat.add_zero]
theorem zct_mono {P : Nat → Prop} {n m : Nat} (h : n ≤ m) : zct P n ≤ zct P m := by
  induction m with
  | zero => have : n = 0 := by omega
            subst this; exact Nat.le_refl _
  | succ m ih =>
    rcases Nat.eq_or_lt_of_le h with h1 | h1
    · rw [h1]; exact Nat.le_refl _
    · have := ih (by omega)
      by_cases hp : P m
      · rw [zct_t hp]; omega
      · rw [zct_f hp]; omega
theorem zct_le (P : Nat → Prop) (n : Nat) : zct P n ≤ n := by
  induction n with
  | zero => exact Nat.le_refl _
  | succ n ih =>
    by_cases hp : P n
    · rw [zct_t hp]; omega
    · rw [zct_f hp]; omega
theorem zct_lt {P : Nat → Prop} {s n : Nat} (hs : P s) (h : s < n) : zct P s < zct P n := by
  have := zct_mono (P := P) (show s + 1 ≤ n by omega)
  rw [zct_t hs] at this
  omega
theorem zct_inj {P : Nat → Prop} {s t : Nat} (hs : P s) (ht : P t) (h : zct P s = zct P t) : s = t := by
  rcases Nat.lt_trichotomy s t with h1 | h1 | h1
  · have := zct_lt hs h1; omega
  · exact h1
  · have := zct_lt ht h1; omega
theorem zct_sur {P : Nat → Prop} {k n : Nat} (h : k < zct P n) : ∃ s, s < n ∧ P s ∧ zct P s = k := by
  induction n with
  | zero => exact absurd h (Nat.not_lt_zero _)
  | succ n ih =>
    by_cases hp : P n
    · rw [zct_t hp] at h
      rcases Nat.lt_succ_iff_lt_or_eq.mp h with h1 | h1
      · obtain ⟨s, a1, a2, a3⟩ := ih h1
        exact ⟨s, by omega, a2, a3⟩
      · exact ⟨n, by omega, hp, h1.symm⟩
    · rw [zct_f hp] at h
      obtain ⟨s, a1, a2, a3⟩ := ih h
      exact ⟨s, by omega, a2, a3⟩
theorem zct_cg {P Q : Nat → Prop} {n : Nat} (h : ∀ s, s < n → (P s ↔ Q s)) : zct P n = zct Q n := by
  induction n with
  | zero => rfl
  | succ n ih =>
    have h1 := ih (fun s hs => h s (by omega))
    by_cases hp : P n
    · rw [zct_t hp, zct_t ((h n (by omega)).mp hp), h1]
    · rw [zct_f hp, zct_f (mt (h n (by omega)).mpr hp), h1]
/-- the blocks, as findBlocks leaves them -/
theorem zbl_ok (kn : Int32) (a b : Nat → Int32) (c J : Nat) (S0 : zBS) (n : Nat) :
    (zbl kn a b c J S0 n).1 = zct (fun s => s < J ∧ (zfb kn (nI s ||| 1344) a b c).2.1 = kn) n ∧
    (∀ s, s < n → s < J → (zfb kn (nI s ||| 1344) a b c).2.1 = kn → (zbl kn a b c J S0 n).2.1 (zct (fun s => s < J ∧ (zfb kn (nI s ||| 1344) a b c).2.1 = kn) s) = nI s ∧ (zbl kn a b c J S0 n).2.2.1 (zct (fun s => s < J ∧ (zfb kn (nI s ||| 1344) a b c).2.1 = kn) s) = (zfb kn (nI s ||| 1344) a b c).2.2.2.2 ∧ (zbl kn a b c J S0 n).2.2.2.1 (zct (fun s => s < J ∧ (zfb kn (nI s ||| 1344) a b c).2.1 = kn) s) = (zfb kn (nI s ||| 1344) a b c).1 ∧ (zbl kn a b c J S0 n).2.2.2.2 s = nI (zct (fun s => s < J ∧ (zfb kn (nI s ||| 1344) a b c).2.1 = kn) s)) ∧
    (∀ s, s < n → ¬ (s < J ∧ (zfb kn (nI s ||| 1344) a b c).2.1 = kn) → (zbl kn a b c J S0 n).2.2.2.2 s = -1) := by
  induction n with
  | zero => exact ⟨rfl, fun s hs => absurd hs (Nat.not_lt_zero _), fun s hs => absurd hs (Nat.not_lt_zero _)⟩
  | succ n ih =>
    obtain ⟨i1, i2, i3⟩ := ih
    by_cases hp : n < J ∧ (zfb kn (nI n ||| 1344) a b c).2.1 = kn
    · have e : zbl kn a b c J S0 (n + 1) = ((zbl kn a b c J S0 n).1 + 1, upd (zbl kn a b c J S0 n).2.1 (zbl kn a b c J S0 n).1 (nI n), upd (zbl kn a b c J S0 n).2.2.1 (zbl kn a b c J S0 n).1 (zfb kn (nI n ||| 1344) a b c).2.2.2.2, upd (zbl kn a b c J S0 n).2.2.2.1 (zbl kn a b c J S0 n).1 (zfb kn (nI n ||| 1344) a b c).1, upd (upd (zbl kn a b c J S0 n).2.2.2.2 n (-1)) n (nI (zbl kn a b c J S0 n).1)) := by
        simp only [zbl, zbst]; rw [if_pos hp]
      rw [e]
      refine ⟨by rw [zct_t hp, i1], fun s hs hJ hk => ?_, fun s hs hno => ?_⟩
      · simp only
        rw [i1]
        rcases Nat.lt_succ_iff_lt_or_eq.mp hs with h | rfl
        · obtain ⟨k1, k2, k3, k4⟩ := i2 s h hJ hk
          have hne : zct (fun s => s < J ∧ (zfb kn (nI s ||| 1344) a b c).2.1 = kn) s ≠ zct (fun s => s < J ∧ (zfb kn (nI s ||| 1344) a b c).2.1 = kn) n := by
            have := zct_lt (P := fun s => s < J ∧ (zfb kn (nI s ||| 1344) a b c).2.1 = kn) (s := s) ⟨hJ, hk⟩ h
            omega
          rw [pk_un hne, pk_un hne, pk_un hne, pk_un (by omega), pk_un (by omega)]
          exact ⟨k1, k2, k3, k4⟩
        · rw [pk_us, pk_us, pk_us, pk_us]
          exact ⟨rfl, rfl, rfl, rfl⟩
      · rcases Nat.lt_succ_iff_lt_or_eq.mp hs with h | rfl
        · simp only
          rw [pk_un (by omega), pk_un (by omega)]
          exact i3 s h hno
        · exact absurd hp hno
    · have e : zbl kn a b c J S0 (n + 1) = ((zbl kn a b c J S0 n).1, (zbl kn a b c J S0 n).2.1, (zbl kn a b c J S0 n).2.2.1, (zbl kn a b c J S0 n).2.2.2.1, upd (zbl kn a b c J S0 n).2.2.2.2 n (-1)) := by
        simp only [zbl, zbst]; rw [if_neg hp]
      rw [e]
      refine ⟨by rw [zct_f hp, i1], fun s hs hJ hk => ?_, fun s hs hno => ?_⟩
      · rcases Nat.lt_succ_iff_lt_or_eq.mp hs with h | rfl
        · obtain ⟨k1, k2, k3, k4⟩ := i2 s h hJ hk
          simp only
          rw [pk_un (by omega)]
          exact ⟨k1, k2, k3, k4⟩
        · exact absurd ⟨hJ, hk⟩ hp
      · simp only
        rcases Nat.lt_succ_iff_lt_or_eq.mp hs with h | rfl
        · rw [pk_un (by omega)]
          exact i3 s h hno
        · exact pk_us
/-- how many pairs of planes -/
theorem zco_kn : ∀ j, j < 6 → zco (zkn j) 12 0 = (6 + j) * (5 + j) / 2 := by decide +kernel
theorem zkn_s : ∀ j, j < 6 → zkn j ||| (1 <<< (nI j &&& 31)) = zkn (j + 1) := by decide +kernel
theorem zkn_d : ∀ j, j < 6 → zkn (j + 1) &&& ((1 <<< (nI j &&& 31)) ^^^ -1) = zkn j := by decide +kernel
theorem zout_le {kn sx sy sz ot : Int32} {A B C D : Nat → Int32} {f : Nat} : ∀ (m g : Nat) (S : zPS), (zout kn sx sy sz A B C D ot f m g S).1 ≤ S.1 + zco ot m g := by
  have hin : ∀ (g m i : Nat) (S : zPS), (zinn kn sx sy sz A B C D ot f g m i S).1 ≤ S.1 + zci ot g m i := by
    intro g m
    induction m with
    | zero => intro i S; exact Nat.le_refl _
    | succ m ih =>
      intro i S
      simp only [zinn, zci]
      have := ih (i + 1) (if (ot >>> (nI g &&& 31)) &&& 1 = 1 ∧ (ot >>> (nI i &&& 31)) &&& 1 = 1 then zmt kn sx sy sz A B C D f g i S else S)
      by_cases hc : (ot >>> (nI g &&& 31)) &&& 1 = 1 ∧ (ot >>> (nI i &&& 31)) &&& 1 = 1
      · rw [if_pos hc] at this ⊢
        rw [if_pos hc]
        have h2 := zmt_le (kn := kn) (sx := sx) (sy := sy) (sz := sz) (A := A) (B := B) (C := C) (D := D) (f := f) (g := g) (i := i) (S := S)
        omega
      · rw [if_neg hc] at this ⊢
        rw [if_neg hc]
        omega
  intro m
  induction m with
  | zero => intro g S; exact Nat.le_refl _
  | succ m ih =>
    intro g S
    simp only [zout, zco]
    have h1 := ih (g + 1) (zinn kn sx sy sz A B C D ot f g (12 - (g + 1)) (g + 1) S)
    have h2 := hin g (12 - (g + 1)) (g + 1) S
    omega
/-- a plane cuts the box -/
def gCut (sx sy sz a b c d : Int) : Prop := min 0 (a * sx) + min 0 (b * sy) + min 0 (c * sz) < d ∧ d < max 0 (a * sx) + max 0 (b * sy) + max 0 (c * sz)
/-- the box's planes -/
def gBox (A B C D : Nat → Int) (sx sy sz : Int) : Prop := (A 6 = 1 ∧ B 6 = 0 ∧ C 6 = 0 ∧ D 6 = 0) ∧ (A 7 = 1 ∧ B 7 = 0 ∧ C 7 = 0 ∧ D 7 = sx) ∧ (A 8 = 0 ∧ B 8 = 1 ∧ C 8 = 0 ∧ D 8 = 0) ∧ (A 9 = 0 ∧ B 9 = 1 ∧ C 9 = 0 ∧ D 9 = sy) ∧ (A 10 = 0 ∧ B 10 = 0 ∧ C 10 = 1 ∧ D 10 = 0) ∧ (A 11 = 0 ∧ B 11 = 0 ∧ C 11 = 1 ∧ D 11 = sz)
/-- two planes are the same -/
def gSame (a b c d a' b' c' d' : Int) : Prop := a * b' = b * a' ∧ a * c' = c * a' ∧ b * c' = c * b' ∧ a * d' = d * a' ∧ b * d' = d * b' ∧ c * d' = d * c'
theorem g_same {A B C D : Nat → Int} {f g : Nat} {x y z q : Int} (hq : 0 < q) (hf : gh A B C D f x y z q = 0) (hg : gh A B C D g x y z q = 0) (h1 : gx1 B C f g = 0) (h2 : gx2 A C f g = 0) (h3 : gx3 A B f g = 0) : gSame (A f) (B f) (C f) (D f) (A g) (B g) (C g) (D g) := by
  simp only [gh, gx1, gx2, gx3] at *
  have k1 : (A f * D g - D f * A g) * q = 0 := by
    have : (A f * D g - D f * A g) * q = (A f * B g - B f * A g) * y - (C f * A g - A f * C g) * z + A g * (A f * x + B f * y + C f * z - D f * q) - A f * (A g * x + B g * y + C g * z - D g * q) := by clear hf hg h1 h2 h3; grind
    rw [this, hf, hg, h2, h3]; simp
  have k2 : (B f * D g - D f * B g) * q = 0 := by
    have : (B f * D g - D f * B g) * q = (B f * C g - C f * B g) * z - (A f * B g - B f * A g) * x + B g * (A f * x + B f * y + C f * z - D f * q) - B f * (A g * x + B g * y + C g * z - D g * q) := by clear hf hg h1 h2 h3 k1; grind
    rw [this, hf, hg, h1, h3]; simp
  have k3 : (C f * D g - D f * C g) * q = 0 := by
    have : (C f * D g - D f * C g) * q = (C f * A g - A f * C g) * x - (B f * C g - C f * B g) * y + C g * (A f * x + B f * y + C f * z - D f * q) - C f * (A g * x + B g * y + C g * z - D g * q) := by clear hf hg h1 h2 h3 k1 k2; grind
    rw [this, hf, hg, h1, h2]; simp
  have m1 := (Int.mul_eq_zero.mp k1).resolve_right (by omega)
  have m2 := (Int.mul_eq_zero.mp k2).resolve_right (by omega)
  have m3 := (Int.mul_eq_zero.mp k3).resolve_right (by omega)
  exact ⟨by omega, by omega, by omega, by omega, by omega, by omega⟩
theorem gSame_sy {a b c d a' b' c' d' : Int} (h : gSame a b c d a' b' c' d') : gSame a' b' c' d' a b c d := by
  obtain ⟨h1, h2, h3, h4, h5, h6⟩ := h
  refine ⟨?_, ?_, ?_, ?_, ?_, ?_⟩
  · rw [Int.mul_comm, ← h1, Int.mul_comm]
  · rw [Int.mul_comm, ← h2, Int.mul_comm]
  · rw [Int.mul_comm, ← h3, Int.mul_comm]
  · rw [Int.mul_comm, ← h4, Int.mul_comm]
  · rw [Int.mul_comm, ← h5, Int.mul_comm]
  · rw [Int.mul_comm, ← h6, Int.mul_comm]
theorem gP_ok {A B C D : Nat → Int} {sx sy sz : Int} {J : Nat} {kn : Nat → Prop} (hJ : J ≤ 6) (hk : ∀ g, g < 12 → (kn g ↔ g < J ∨ 6 ≤ g)) (hx : 1 ≤ sx) (hy : 1 ≤ sy) (hz : 1 ≤ sz) (hb : gBox A B C D sx sy sz) (hc : ∀ j, j < J → gCut sx sy sz (A j) (B j) (C j) (D j)) (hs : ∀ i j, i < j → j < J → ¬ gSame (A i) (B i) (C i) (D i) (A j) (B j) (C j) (D j)) : gP kn A B C D sx sy sz := by
  obtain ⟨b6, b7, b8, b9, b10, b11⟩ := hb
  have bx : ∀ g, 6 ≤ g → g < 12 → kn g := fun g h1 h2 => (hk g h2).mpr (Or.inr h1)
  have hnz : ∀ j, j < J → ¬ (A j = 0 ∧ B j = 0 ∧ C j = 0) := by
    rintro j hj ⟨z1, z2, z3⟩
    have := hc j hj
    unfold gCut at this
    rw [z1, z2, z3] at this
    simp at this
    omega
  have c6 : ∀ g, 6 ≤ g → g < 12 → g = 6 ∨ g = 7 ∨ g = 8 ∨ g = 9 ∨ g = 10 ∨ g = 11 := by omega
  -- a joint is no face of the box
  have jb : ∀ j g, j < J → 6 ≤ g → g < 12 → ¬ gSame (A j) (B j) (C j) (D j) (A g) (B g) (C g) (D g) := by
    intro j g hj h1 h2 hS
    have hcj := hc j hj
    unfold gCut at hcj
    unfold gSame at hS
    rcases c6 g h1 h2 with rfl | rfl | rfl | rfl | rfl | rfl
    · obtain ⟨e1, e2, e3, e4⟩ := b6
      rw [e1, e2, e3, e4] at hS
      have z1 : B j = 0 := by omega
      have z2 : C j = 0 := by omega
      rw [z1, z2] at hcj
      simp only [Int.zero_mul] at hcj
      omega
    · obtain ⟨e1, e2, e3, e4⟩ := b7
      rw [e1, e2, e3, e4] at hS
      have z1 : B j = 0 := by omega
      have z2 : C j = 0 := by omega
      rw [z1, z2] at hcj
      simp only [Int.zero_mul] at hcj
      omega
    · obtain ⟨e1, e2, e3, e4⟩ := b8
      rw [e1, e2, e3, e4] at hS
      have z1 : A j = 0 := by omega
      have z2 : C j = 0 := by omega
      rw [z1, z2] at hcj
      simp only [Int.zero_mul] at hcj
      omega
    · obtain ⟨e1, e2, e3, e4⟩ := b9
      rw [e1, e2, e3, e4] at hS
      have z1 : A j = 0 := by omega
      have z2 : C j = 0 := by omega
      rw [z1, z2] at hcj
      simp only [Int.zero_mul] at hcj
      omega
    · obtain ⟨e1, e2, e3, e4⟩ := b10
      rw [e1, e2, e3, e4] at hS
      have z1 : A j = 0 := by omega
      have z2 : B j = 0 := by omega
      rw [z1, z2] at hcj
      simp only [Int.zero_mul] at hcj
      omega
    · obtain ⟨e1, e2, e3, e4⟩ := b11
      rw [e1, e2, e3, e4] at hS
      have z1 : A j = 0 := by omega
      have z2 : B j = 0 := by omega
      rw [z1, z2] at hcj
      simp only [Int.zero_mul] at hcj
      omega
  have bb : ∀ f g, 6 ≤ f → f < g → g < 12 → ¬ gSame (A f) (B f) (C f) (D f) (A g) (B g) (C g) (D g) := by
    intro f g h1 h2 h3 hS
    unfold gSame at hS
    rcases c6 f h1 (by omega) with rfl | rfl | rfl | rfl | rfl | rfl <;> rcases c6 g (by omega) h3 with rfl | rfl | rfl | rfl | rfl | rfl <;> first | omega | (simp only [b6, b7, b8, b9, b10, b11] at hS; omega)
  refine ⟨fun g hg hkg => ?_, fun f g hf hg hkf hkg hfg x y z q hq h1 h2 hx => ?_, ⟨bx 6 (by decide) (by decide), bx 7 (by decide) (by decide), bx 8 (by decide) (by decide), bx 9 (by decide) (by decide), bx 10 (by decide) (by decide), bx 11 (by decide) (by decide)⟩, b6, b7, b8, b9, b10, b11⟩
  · rcases (hk g hg).mp hkg with h | h
    · exact hnz g h
    · rcases c6 g h hg with rfl | rfl | rfl | rfl | rfl | rfl <;> omega
  · have hS := g_same hq h1 h2 hx.1 hx.2.1 hx.2.2
    have hS' := gSame_sy hS
    rcases (hk f hf).mp hkf with a | a <;> rcases (hk g hg).mp hkg with b | b
    · rcases Nat.lt_or_gt_of_ne hfg with c | c
      · exact hs f g c b hS
      · exact hs g f c a hS'
    · exact jb f g a b hg hS
    · exact jb g f b a hf hS'
    · rcases Nat.lt_or_gt_of_ne hfg with c | c
      · exact bb f g a c hg hS
      · exact bb g f b c hf hS'
