theorem gW_srt {J : Nat} (hJ : J ≤ 6) {A B C D : Nat → Int} {sx sy sz x y z q : Int} : (∃ a b c, a < b ∧ b < c ∧ c < 12 ∧ (6 ≤ a ∨ a < J) ∧ (6 ≤ b ∨ b < J) ∧ (6 ≤ c ∨ c < J) ∧ gT A B C D sx sy sz a b c x y z q) ↔ gW (knb (zkn J)) A B C D sx sy sz x y z q := by
  have hk : ∀ g, g < 12 → (knb (zkn J) g ↔ 6 ≤ g ∨ g < J) := fun g hg => by
    show bt (zkn J) g = true ↔ _
    rw [zkn_bt J hJ g (by omega)]
    omega
  constructor
  · rintro ⟨a, b, c, h1, h2, h3, h4, h5, h6, h7⟩
    exact ⟨a, b, c, by omega, by omega, h3, (hk a (by omega)).mpr h4, (hk b (by omega)).mpr h5, (hk c h3).mpr h6, h7⟩
  · rintro ⟨a, b, c, ha, hb, hc, ka, kb, kc, h⟩
    have ka' := (hk a ha).mp ka
    have kb' := (hk b hb).mp kb
    have kc' := (hk c hc).mp kc
    obtain ⟨n1, n2, n3⟩ := gT_ne h
    by_cases h1 : a < b
    · by_cases h2 : b < c
      · exact ⟨a, b, c, h1, h2, hc, ka', kb', kc', h⟩
      · by_cases h3 : a < c
        · exact ⟨a, c, b, h3, by omega, hb, ka', kc', kb', gT_rt (gT_sw h)⟩
        · exact ⟨c, a, b, by omega, h1, hb, kc', ka', kb', gT_rt (gT_rt h)⟩
    · by_cases h2 : a < c
      · exact ⟨b, a, c, by omega, h2, hc, kb', ka', kc', gT_sw h⟩
      · by_cases h3 : b < c
        · exact ⟨b, c, a, h3, by omega, ha, kb', kc', ka', gT_rt h⟩
        · exact ⟨c, b, a, by omega, by omega, ha, kc', kb', ka', gT_sw (gT_rt h)⟩
/-- the reference's points -/
def rPg (J : Nat) (ms ml : Nat → Int32) (pn : Nat) (pt po pa pw : Nat → Int32) : Prop := rOk pn pt ∧ (∀ x y z q, zmm (rS pn pt) x y z q ↔ gW (knb (zkn J)) (iI (mA ml)) (iI (mB ml)) (iI (mC ml)) (iI (mD ml)) (ms 0).toInt (ms 1).toInt (ms 2).toInt x y z q) ∧ ∀ r, r < pn → zBt J ml pt po pa pw r 12
section IVA
variable {J : Nat} {ms ml : Nat → Int32} {pn : Nat} {pt po pa pw : Nat → Int32} {bl : Nat} {bs bf tk : Nat → Int32}
theorem rCut_pg (hJ : J ≤ 6) (h : rCut J ms ml pn pt po pa pw bl bs bf tk) : rPg J ms ml pn pt po pa pw := ⟨h.2.1, fun x y z q => (h.2.2.1 x y z q).trans (gW_srt hJ), h.2.2.2.1⟩
theorem gW_bx {kn : Nat → Prop} {A B C D : Nat → Int} {sx sy sz x y z q : Int} (h : gW kn A B C D sx sy sz x y z q) : 0 < q ∧ (0 ≤ x ∧ x ≤ sx * q) ∧ (0 ≤ y ∧ y ≤ sy * q) ∧ (0 ≤ z ∧ z ≤ sz * q) := by
  obtain ⟨a, b, c, -, -, -, -, -, -, h1, h2, h3, -⟩ := h
  exact ⟨h1, h3⟩
/-- the reference's bits -/
theorem rBt (hb : zpb (mA ml) (mB ml) (mC ml) (mD ml)) (h : rPg J ms ml pn pt po pa pw) {p : Nat} (hp : p < pn) {g : Nat} (hg : g < 12) :
    (zmo ml pt p g = 0 ↔ gh (iI (mA ml)) (iI (mB ml)) (iI (mC ml)) (iI (mD ml)) g (pt (4 * p)).toInt (pt (4 * p + 1)).toInt (pt (4 * p + 2)).toInt (pt (4 * p + 3)).toInt = 0) ∧ (0 < zmo ml pt p g ↔ 0 < gh (iI (mA ml)) (iI (mB ml)) (iI (mC ml)) (iI (mD ml)) g (pt (4 * p)).toInt (pt (4 * p + 1)).toInt (pt (4 * p + 2)).toInt (pt (4 * p + 3)).toInt) ∧ (zmo ml pt p g < 0 ↔ gh (iI (mA ml)) (iI (mB ml)) (iI (mC ml)) (iI (mD ml)) g (pt (4 * p)).toInt (pt (4 * p + 1)).toInt (pt (4 * p + 2)).toInt (pt (4 * p + 3)).toInt < 0) := by
  obtain ⟨k1, k2, k3, k4, -⟩ := h.1.1 p hp
  have e := zht_ok hb hg k1 k2 k3 k4
  have z0 : zbd 0 (0 : Int32) 0 := ⟨rfl, by decide, by decide⟩
  exact ⟨zbd_eq e z0, zbd_lt z0 e, zbd_lt e z0⟩
theorem rW (h : rPg J ms ml pn pt po pa pw) {p : Nat} (hp : p < pn) : gW (knb (zkn J)) (iI (mA ml)) (iI (mB ml)) (iI (mC ml)) (iI (mD ml)) (ms 0).toInt (ms 1).toInt (ms 2).toInt (pt (4 * p)).toInt (pt (4 * p + 1)).toInt (pt (4 * p + 2)).toInt (pt (4 * p + 3)).toInt := (h.2.1 _ _ _ _).mp ⟨p, hp, rfl, rfl, rfl, rfl⟩
theorem bt_1344 : ∀ s, s < 64 → ∀ g, g < 6 → bt (nI s ||| 1344) g = bt (nI s) g := by decide +kernel
theorem gQ_box {kn : Nat → Prop} {A B C D σ : Nat → Int} {sx sy sz x y z q : Int} (hB : gBox A B C D sx sy sz) (hS : gS kn σ) (hx : 0 ≤ x ∧ x ≤ sx * q) (hy : 0 ≤ y ∧ y ≤ sy * q) (hz : 0 ≤ z ∧ z ≤ sz * q) {g : Nat} (h6 : 6 ≤ g) (hg : g < 12) : 0 ≤ σ g * gh A B C D g x y z q := by
  obtain ⟨-, s6, s7, s8, s9, s10, s11⟩ := hS
  obtain ⟨⟨a6, b6, c6, d6⟩, ⟨a7, b7, c7, d7⟩, ⟨a8, b8, c8, d8⟩, ⟨a9, b9, c9, d9⟩, ⟨a10, b10, c10, d10⟩, ⟨a11, b11, c11, d11⟩⟩ := hB
  have hc : g = 6 ∨ g = 7 ∨ g = 8 ∨ g = 9 ∨ g = 10 ∨ g = 11 := by omega
  rcases hc with rfl | rfl | rfl | rfl | rfl | rfl <;> simp only [gh, s6, s7, s8, s9, s10, s11, a6, b6, c6, d6, a7, b7, c7, d7, a8, b8, c8, d8, a9, b9, c9, d9, a10, b10, c10, d10, a11, b11, c11, d11] <;> omega
/-- touched, at the reference -/
theorem rtch (hJ : J ≤ 6) (hb : zpb (mA ml) (mB ml) (mC ml) (mD ml)) (hB : gBox (iI (mA ml)) (iI (mB ml)) (iI (mC ml)) (iI (mD ml)) (ms 0).toInt (ms 1).toInt (ms 2).toInt) (h : rPg J ms ml pn pt po pa pw) {p : Nat} (hp : p < pn) {s : Nat} (hs : s < 64) :
    ztp (nI s) pa pw p ↔ gQ (knb (zkn J)) (iI (mA ml)) (iI (mB ml)) (iI (mC ml)) (iI (mD ml)) (zsg (nI s ||| 1344)) (pt (4 * p)).toInt (pt (4 * p + 1)).toInt (pt (4 * p + 2)).toInt (pt (4 * p + 3)).toInt := by
  obtain ⟨-, bx, by_, bz⟩ := gW_bx (rW h hp)
  have hbt := h.2.2 p hp
  show (_ ∧ _) ↔ _
  rw [zand0, zand0]
  constructor
  · rintro ⟨h1, h2⟩ g hg hk
    by_cases h6 : 6 ≤ g
    · exact gQ_box hB (zsg_S (kn := knb (zkn J)) hs) bx by_ bz h6 hg
    · have hgJ : g < J := by
        have := (zkn_bt J hJ g (by omega)).mp hk
        omega
      obtain ⟨-, i1, i2⟩ := hbt g (by omega)
      obtain ⟨-, r1, r2⟩ := rBt hb h hp hg
      have a1 := h1 g (by omega)
      have a2 := h2 g (by omega)
      rw [bt_not _ (by omega), i1, r1] at a1
      rw [i2, r2] at a2
      unfold zsg
      rw [bt_1344 s hs g (by omega)]
      split
      · next h =>
        rw [Int.one_mul]
        exact Int.not_lt.mp (fun q => a2 ⟨⟨hg, hgJ, q⟩, h⟩)
      · next h =>
        have : ¬ 0 < gh (iI (mA ml)) (iI (mB ml)) (iI (mC ml)) (iI (mD ml)) g (pt (4 * p)).toInt (pt (4 * p + 1)).toInt (pt (4 * p + 2)).toInt (pt (4 * p + 3)).toInt := fun q => a1 ⟨⟨hg, hgJ, q⟩, by simpa using h⟩
        omega
  · intro hq
    constructor
    · intro g hg
      rw [bt_not _ hg, (hbt g hg).2.1]
      rintro ⟨⟨h1, h2, h3⟩, h4⟩
      have := hq g h1 ((zkn_bt J hJ g hg).mpr (Or.inl h2))
      rw [(rBt hb h hp h1).2.1] at h3
      unfold zsg at this
      rw [bt_1344 s hs g (by omega), if_neg (by simpa using h4)] at this
      omega
    · intro g hg
      rw [(hbt g hg).2.2]
      rintro ⟨⟨h1, h2, h3⟩, h4⟩
      have := hq g h1 ((zkn_bt J hJ g hg).mpr (Or.inl h2))
      rw [(rBt hb h hp h1).2.2] at h3
      unfold zsg at this
      rw [bt_1344 s hs g (by omega), if_pos h4] at this
      omega
theorem r_on (hJ : J ≤ 6) (hb : zpb (mA ml) (mB ml) (mC ml) (mD ml)) (h : rPg J ms ml pn pt po pa pw) {p : Nat} (hp : p < pn) {g : Nat} (hg : g < 32) (hk : bt (zkn J) g = true) : bt (po p) g = true ↔ gh (iI (mA ml)) (iI (mB ml)) (iI (mC ml)) (iI (mD ml)) g (pt (4 * p)).toInt (pt (4 * p + 1)).toInt (pt (4 * p + 2)).toInt (pt (4 * p + 3)).toInt = 0 := by
  have hg12 := (zkn_bt J hJ g hg).mp hk
  rw [((h.2.2 p hp) g hg).1, (rBt hb h hp (by omega)).1]
  constructor
  · exact fun q => q.2.2
  · exact fun q => ⟨by omega, by omega, q⟩
/-- a block, at the reference -/
theorem rP_ok (hJ : J ≤ 6) (hb : zpb (mA ml) (mB ml) (mC ml) (mD ml)) (hB : gBox (iI (mA ml)) (iI (mB ml)) (iI (mC ml)) (iI (mD ml)) (ms 0).toInt (ms 1).toInt (ms 2).toInt) (h : rPg J ms ml pn pt po pa pw) {s : Nat} (hs : s < 64) :
    rP po pa pw J pn s ↔ gBk (knb (zkn J)) (iI (mA ml)) (iI (mB ml)) (iI (mC ml)) (iI (mD ml)) (ms 0).toInt (ms 1).toInt (ms 2).toInt (zsg (nI s ||| 1344)) := by
  unfold rP
  have hz : ∀ p, po p &&& (0 : Int32) = 0 := fun p => by
    apply b_ext; intro i _; rw [b_and, b_0, Bool.and_false]
  constructor
  · intro e g hg hk
    have h1 : bt (zfr po pa pw (nI s) 0 pn &&& zkn J) g = true := by rw [e]; exact hk
    rw [b_and, Bool.and_eq_true] at h1
    obtain ⟨p, hp, ht, -, ho⟩ := (zfr_bt po pa pw (nI s) 0 pn (by omega)).mp h1.1
    exact ⟨_, _, _, _, ⟨rW h hp, (rtch hJ hb hB h hp hs).mp ht⟩, fun q => ho ((r_on hJ hb h hp (by omega) hk).mpr q)⟩
  · intro hB'
    apply b_ext
    intro g hg
    rw [b_and]
    by_cases hk : bt (zkn J) g = true
    · rw [hk, Bool.and_true]
      obtain ⟨x, y, z, q, ⟨hw, hq⟩, hne⟩ := hB' g (by have := (zkn_bt J hJ g hg).mp hk; omega) hk
      obtain ⟨p, hp, rfl, rfl, rfl, rfl⟩ := (h.2.1 _ _ _ _).mpr hw
      exact (zfr_bt po pa pw (nI s) 0 pn hg).mpr ⟨p, hp, (rtch hJ hb hB h hp hs).mpr hq, hz p, fun q => hne ((r_on hJ hb h hp hg hk).mp q)⟩
    · rw [Bool.not_eq_true] at hk; rw [hk, Bool.and_false]
/-- a face, at the reference -/
theorem rF_ok (hJ : J ≤ 6) (hb : zpb (mA ml) (mB ml) (mC ml) (mD ml)) (hB : gBox (iI (mA ml)) (iI (mB ml)) (iI (mC ml)) (iI (mD ml)) (ms 0).toInt (ms 1).toInt (ms 2).toInt) (h : rPg J ms ml pn pt po pa pw) {s : Nat} (hs : s < 64) {f : Nat} (hf : f < 32) :
    bt (zff po pa pw J pn (nI s) 12) f = true ↔ bt (zkn J) f = true ∧ gFc (knb (zkn J)) (iI (mA ml)) (iI (mB ml)) (iI (mC ml)) (iI (mD ml)) (ms 0).toInt (ms 1).toInt (ms 2).toInt (zsg (nI s ||| 1344)) f := by
  rw [zff_bt po pa pw J pn (nI s) 12 (by decide) hf, ← and_assoc]
  have hkk : (f < 12 ∧ (6 ≤ f ∨ f < J)) ↔ bt (zkn J) f = true := by rw [zkn_bt J hJ f hf]; omega
  rw [hkk]
  refine and_congr_right (fun hkf => ?_)
  have hon : ∀ p, p < pn → (po p &&& (1 <<< ((nI f) &&& 31)) = (1 <<< ((nI f) &&& 31)) ↔ gh (iI (mA ml)) (iI (mB ml)) (iI (mC ml)) (iI (mD ml)) f (pt (4 * p)).toInt (pt (4 * p + 1)).toInt (pt (4 * p + 2)).toInt (pt (4 * p + 3)).toInt = 0) := fun p hp => by
    rw [← r_on hJ hb h hp hf hkf]
    constructor
    · intro e
      have h1 : bt (po p &&& (1 <<< ((nI f) &&& 31))) f = bt (1 <<< ((nI f) &&& 31)) f := by rw [e]
      rw [b_and, zbt_sh hf hf] at h1
      simpa using h1
    · intro e
      apply b_ext
      intro g hg
      rw [b_and, zbt_sh hg hf]
      by_cases hgf : g = f
      · subst hgf; simp [e]
      · simp [hgf]
  constructor
  · intro e g hg hk hne
    have h1 : bt (zfr po pa pw (nI s) (1 <<< ((nI f) &&& 31)) pn &&& zkn J) g = true := by
      rw [e, b_and, bt_not _ (by omega), zbt_sh (by omega) hf, show bt (zkn J) g = true from hk]
      simp [hne]
    rw [b_and, Bool.and_eq_true] at h1
    obtain ⟨p, hp, ht, hm, ho⟩ := (zfr_bt po pa pw (nI s) _ pn (by omega)).mp h1.1
    exact ⟨_, _, _, _, ⟨rW h hp, (rtch hJ hb hB h hp hs).mp ht⟩, (hon p hp).mp hm, fun q => ho ((r_on hJ hb h hp (by omega) hk).mpr q)⟩
  · intro hF
    apply b_ext
    intro g hg
    rw [b_and, b_and, bt_not _ hg, zbt_sh hg hf]
    by_cases hk : bt (zkn J) g = true
    · rw [hk, Bool.and_true, Bool.true_and]
      by_cases hgf : g = f
      · subst hgf
        simp only [decide_true, Bool.not_true]
        rw [Bool.eq_false_iff]
        intro hc
        obtain ⟨p, hp, ht, hm, ho⟩ := (zfr_bt po pa pw (nI s) _ pn hg).mp hc
        exact ho ((r_on hJ hb h hp hg hk).mpr ((hon p hp).mp hm))
      · simp only [hgf, decide_false, Bool.not_false]
        obtain ⟨x, y, z, q, ⟨hw, hq⟩, h0, hne⟩ := hF g (by have := (zkn_bt J hJ g hg).mp hk; omega) hk hgf
        obtain ⟨p, hp, rfl, rfl, rfl, rfl⟩ := (h.2.1 _ _ _ _).mpr hw
        exact (zfr_bt po pa pw (nI s) _ pn hg).mpr ⟨p, hp, (rtch hJ hb hB h hp hs).mpr hq, (hon p hp).mpr h0, fun q => hne ((r_on hJ hb h hp hg hk).mp q)⟩
    · rw [Bool.not_eq_true] at hk; rw [hk, Bool.and_false, Bool.false_and]
end IVA
