/-- sides of a block; its faces -/
def iB (J : Nat) (ms ml : Nat → Int32) (s : Nat) : Prop := gBk (knb (zkn J)) (iI (mA ml)) (iI (mB ml)) (iI (mC ml)) (iI (mD ml)) (ms 0).toInt (ms 1).toInt (ms 2).toInt (zsg (nI s ||| 1344))
def iF (J : Nat) (ms ml : Nat → Int32) (s f : Nat) : Prop := bt (zkn J) f = true ∧ gFc (knb (zkn J)) (iI (mA ml)) (iI (mB ml)) (iI (mC ml)) (iI (mD ml)) (ms 0).toInt (ms 1).toInt (ms 2).toInt (zsg (nI s ||| 1344)) f
/-- the planes are right -/
def iPl (J : Nat) (ms ml : Nat → Int32) : Prop := zpb (mA ml) (mB ml) (mC ml) (mD ml) ∧ (∀ c, c < 3 → zsz (ms c)) ∧ gBox (iI (mA ml)) (iI (mB ml)) (iI (mC ml)) (iI (mD ml)) (ms 0).toInt (ms 1).toInt (ms 2).toInt ∧ (∀ j, j < J → gCut (ms 0).toInt (ms 1).toInt (ms 2).toInt (mA ml j).toInt (mB ml j).toInt (mC ml j).toInt (mD ml j).toInt) ∧ ∀ i j, i < j → j < J → ¬ gSame (mA ml i).toInt (mB ml i).toInt (mC ml i).toInt (mD ml i).toInt (mA ml j).toInt (mB ml j).toInt (mC ml j).toInt (mD ml j).toInt
/-- blocks' rows -/
def iBl (J : Nat) (ms ml : Nat → Int32) (bc : Nat) (sd fc : Nat → Int32) : Prop := bc = zct (iB J ms ml) (2 ^ J) ∧ ∀ s, s < 2 ^ J → iB J ms ml s → sd (zct (iB J ms ml) s) = nI s ∧ ∀ f, f < 32 → (bt (fc (zct (iB J ms ml) s)) f = true ↔ iF J ms ml s f)
def iNu (J : Nat) (ms ml nu : Nat → Int32) : Prop := ∀ s, s < 64 → (s < 2 ^ J ∧ iB J ms ml s → nu s = nI (zct (iB J ms ml) s)) ∧ (¬ (s < 2 ^ J ∧ iB J ms ml s) → nu s = -1)
def iCc (J : Nat) (ms ml cc : Nat → Int32) (S : zPS) : Prop := ∀ s, s < 2 ^ J → iB J ms ml s → cc (zct (iB J ms ml) s) = (zfb (zkn J) (nI s ||| 1344) S.2.2.2.2.2.1 S.2.2.2.2.2.2 S.1).1
section IVB
variable {J : Nat} {ms ml : Nat → Int32}
theorem z2_64 : ∀ J, J ≤ 6 → 2 ^ J ≤ 64 := by decide
theorem iPl_gP (hJ : J ≤ 6) (h : iPl J ms ml) : gP (knb (zkn J)) (iI (mA ml)) (iI (mB ml)) (iI (mC ml)) (iI (mD ml)) (ms 0).toInt (ms 1).toInt (ms 2).toInt := by
  refine gP_ok hJ (fun g hg => ?_) (h.2.1 0 (by decide)).1 (h.2.1 1 (by decide)).1 (h.2.1 2 (by decide)).1 h.2.2.1 h.2.2.2.1 h.2.2.2.2
  show bt (zkn J) g = true ↔ _
  rw [zkn_bt J hJ g (by omega)]; omega
theorem zkn_12 (hJ : J ≤ 6) : ∀ g, g < 32 → bt (zkn J) g = true → g < 12 := fun g hg h => by
  have := (zkn_bt J hJ g hg).mp h; omega
theorem zct_cut {P : Nat → Prop} {N : Nat} : ∀ n, N ≤ n → zct (fun s => s < N ∧ P s) n = zct P N := by
  intro n
  induction n with
  | zero => intro h; have : N = 0 := by omega
            subst this; rfl
  | succ n ih =>
    intro h
    by_cases e : N = n + 1
    · subst e; exact zct_cg fun s hs => ⟨fun q => q.2, fun q => ⟨hs, q⟩⟩
    · rw [zct_f (by omega), ih (by omega)]
/-- the class's blocks -/
theorem iBl_c {S : zPS} (hJ : J ≤ 6) (h : iPl J ms ml) (hg : zPg (zkn J) (mA ml) (mB ml) (mC ml) (mD ml) (ms 0) (ms 1) (ms 2) S) {T B0 : zBS} (hT : T = zbl (zkn J) S.2.2.2.2.2.1 S.2.2.2.2.2.2 S.1 (2 ^ J) B0 64) : iBl J ms ml T.1 T.2.1 T.2.2.1 ∧ iNu J ms ml T.2.2.2.2 ∧ iCc J ms ml T.2.2.2.1 S := by
  have hgp := iPl_gP hJ h
  obtain ⟨z1, z2, z3⟩ := zbl_ok (zkn J) S.2.2.2.2.2.1 S.2.2.2.2.2.2 S.1 (2 ^ J) B0 64
  have h64 := z2_64 J hJ
  have hP : ∀ s, (zfb (zkn J) (nI s ||| 1344) S.2.2.2.2.2.1 S.2.2.2.2.2.2 S.1).2.1 = zkn J ↔ iB J ms ml s := fun s => zbk_ok hg (zkn_12 hJ) _
  have e1 : zct (fun s => s < 2 ^ J ∧ (zfb (zkn J) (nI s ||| 1344) S.2.2.2.2.2.1 S.2.2.2.2.2.2 S.1).2.1 = zkn J) 64 = zct (iB J ms ml) (2 ^ J) := by
    rw [zct_cut 64 h64]; exact zct_cg fun s _ => hP s
  have e2 : ∀ s, s ≤ 2 ^ J → zct (fun s => s < 2 ^ J ∧ (zfb (zkn J) (nI s ||| 1344) S.2.2.2.2.2.1 S.2.2.2.2.2.2 S.1).2.1 = zkn J) s = zct (iB J ms ml) s := fun s hs => zct_cg fun t ht => ⟨fun q => (hP t).mp q.2, fun q => ⟨by omega, (hP t).mpr q⟩⟩
  subst hT
  refine ⟨⟨z1.trans e1, fun s hs hb => ?_⟩, fun s hs => ⟨fun hb => ?_, fun hb => z3 s hs (fun q => hb ⟨q.1, (hP s).mp q.2⟩)⟩, fun s hs hb => ?_⟩
  · obtain ⟨k1, k2, -, -⟩ := z2 s (by omega) hs ((hP s).mpr hb)
    rw [e2 s (by omega)] at k1 k2
    refine ⟨k1, fun f hf => ?_⟩
    rw [k2]
    exact zfc_ok hg hgp (zkn_12 hJ) (zsg_S (by omega)) hf
  · obtain ⟨-, -, -, k4⟩ := z2 s hs hb.1 ((hP s).mpr hb.2)
    rw [e2 s (by omega)] at k4
    exact k4
  · obtain ⟨-, -, k3, -⟩ := z2 s (by omega) hs ((hP s).mpr hb)
    rw [e2 s (by omega)] at k3
    exact k3
/-- the reference's blocks -/
theorem iBl_r {pn bl : Nat} {pt po pa pw bs bf tk : Nat → Int32} (hJ : J ≤ 6) (h : iPl J ms ml) (hc : rCut J ms ml pn pt po pa pw bl bs bf tk) : iBl J ms ml bl bs bf ∧ ∀ k, k < bl → tk k = 0 := by
  have h64 := z2_64 J hJ
  have hp := rCut_pg hJ hc
  have hP : ∀ s, s < 64 → (rP po pa pw J pn s ↔ iB J ms ml s) := fun s hs => rP_ok hJ h.1 h.2.2.1 hp hs
  obtain ⟨-, -, -, -, hbl, hb1, hb2⟩ := hc
  have e2 : ∀ s, s ≤ 2 ^ J → zct (rP po pa pw J pn) s = zct (iB J ms ml) s := fun s hs => zct_cg fun t ht => hP t (by omega)
  refine ⟨⟨hbl.trans (e2 _ (Nat.le_refl _)), fun s hs hb => ?_⟩, fun k hk => hb2 k (by omega)⟩
  obtain ⟨k1, k2⟩ := hb1 s hs ((hP s (by omega)).mpr hb)
  rw [e2 s (by omega)] at k1 k2
  refine ⟨k1, fun f hf => ?_⟩
  rw [k2]
  exact rF_ok hJ h.1 h.2.2.1 hp (by omega) hf
theorem iBl_at {bc : Nat} {sd fc : Nat → Int32} (h : iBl J ms ml bc sd fc) {k : Nat} (hk : k < bc) : ∃ s, s < 2 ^ J ∧ iB J ms ml s ∧ zct (iB J ms ml) s = k ∧ sd k = nI s ∧ ∀ f, f < 32 → (bt (fc k) f = true ↔ iF J ms ml s f) := by
  rw [h.1] at hk
  obtain ⟨s, h1, h2, h3⟩ := zct_sur hk
  obtain ⟨k1, k2⟩ := h.2 s h1 h2
  rw [h3] at k1 k2
  exact ⟨s, h1, h2, h3, k1, k2⟩
theorem iBl_eq {bc bl : Nat} {sd fc bs bf : Nat → Int32} (h : iBl J ms ml bc sd fc) (h' : iBl J ms ml bl bs bf) : bl = bc ∧ ∀ k, k < bc → bs k = sd k ∧ bf k = fc k := by
  have e : bl = bc := h'.1.trans h.1.symm
  refine ⟨e, fun k hk => ?_⟩
  obtain ⟨s, h1, h2, h3, h4, h5⟩ := iBl_at h hk
  obtain ⟨k1, k2⟩ := h'.2 s h1 h2
  rw [h3] at k1 k2
  refine ⟨k1.trans h4.symm, b_ext fun f hf => ?_⟩
  rw [Bool.eq_iff_iff, k2 f hf, h5 f hf]
theorem iBl_le (hJ : J ≤ 6) {bc : Nat} {sd fc : Nat → Int32} (h : iBl J ms ml bc sd fc) : bc ≤ 64 := by
  have := zct_le (iB J ms ml) (2 ^ J)
  have := z2_64 J hJ
  rw [h.1]; omega
theorem nI_inj {a b : Nat} (ha : a < 2147483648) (hb : b < 2147483648) (h : nI a = nI b) : a = b := by
  have h1 := nI_toInt (n := a) (by omega)
  have h2 := nI_toInt (n := b) (by omega)
  rw [h] at h1
  omega
/-- find: the same -/
theorem iFi (hJ : J ≤ 6) {bc : Nat} {sd fc nu : Nat → Int32} (h : iBl J ms ml bc sd fc) (hn : iNu J ms ml nu) {s : Nat} (hs : s < 64) {t : Int32} (hf : rFi sd bc (nI s) t) : t = nu s := by
  have hle := iBl_le hJ h
  have h64 := z2_64 J hJ
  rcases hf with ⟨o, ho, rfl, he, -⟩ | ⟨rfl, hno⟩
  · obtain ⟨s', h1, h2, h3, h4, -⟩ := iBl_at h ho
    have : s' = s := nI_inj (by omega) (by omega) (h4.symm.trans he)
    subst this
    rw [(hn s' hs).1 ⟨h1, h2⟩, h3]
  · refine ((hn s hs).2 (fun q => ?_)).symm
    refine hno (zct (iB J ms ml) s) ?_ (h.2 s q.1 q.2).1
    rw [h.1]; exact zct_lt q.2 q.1
theorem iFi_no (hJ : J ≤ 6) {bc : Nat} {sd fc : Nat → Int32} (h : iBl J ms ml bc sd fc) {s t : Int32} (hs : ¬ ∃ m, m < 64 ∧ s = nI m) (hf : rFi sd bc s t) : t = -1 := by
  have h64 := z2_64 J hJ
  rcases hf with ⟨o, ho, rfl, he, -⟩ | ⟨rfl, hno⟩
  · obtain ⟨s', h1, h2, h3, h4, -⟩ := iBl_at h ho
    exact absurd ⟨s', by omega, he.symm.trans h4⟩ hs
  · rfl
theorem iNu_ok (hJ : J ≤ 6) {bc : Nat} {sd fc nu : Nat → Int32} (h : iBl J ms ml bc sd fc) (hn : iNu J ms ml nu) : ∀ m, m < 64 → nu m = -1 ∨ ∃ o, o < bc ∧ nu m = nI o ∧ sd o = nI m := fun m hm => by
  by_cases q : m < 2 ^ J ∧ iB J ms ml m
  · refine Or.inr ⟨zct (iB J ms ml) m, ?_, (hn m hm).1 q, (h.2 m q.1 q.2).1⟩
    rw [h.1]; exact zct_lt q.2 q.1
  · exact Or.inl ((hn m hm).2 q)
/-- beside a face there is a block -/
theorem bt_flip : ∀ s, s < 64 → ∀ f, f < 6 → ∀ g, g < 12 → bt (nI (s ^^^ (1 <<< f)) ||| 1344) g = (if g = f then !bt (nI s ||| 1344) g else bt (nI s ||| 1344) g) := by decide +kernel
theorem nI_flip : ∀ s, s < 64 → ∀ f, f < 6 → (nI s ^^^ (1 <<< ((nI f) &&& 31))) = nI (s ^^^ (1 <<< f)) ∧ s ^^^ (1 <<< f) < 64 := by decide +kernel
theorem z2_flip : ∀ J, J ≤ 6 → ∀ s, s < 64 → s < 2 ^ J → ∀ f, f < J → s ^^^ (1 <<< f) < 2 ^ J := by decide +kernel
theorem iBs (hJ : J ≤ 6) (h : iPl J ms ml) {S : zPS} (hg : zPg (zkn J) (mA ml) (mB ml) (mC ml) (mD ml) (ms 0) (ms 1) (ms 2) S) {bc : Nat} {sd fc : Nat → Int32} (hb : iBl J ms ml bc sd fc) {k : Nat} (hk : k < bc) {f : Nat} (hf : f < 6) (hfc : bt (fc k) f = true) : ∃ s, s < 2 ^ J ∧ sd k = nI s ∧ f < J ∧ s ^^^ (1 <<< f) < 2 ^ J ∧ iB J ms ml (s ^^^ (1 <<< f)) := by
  have h64 := z2_64 J hJ
  obtain ⟨s, h1, h2, h3, h4, h5⟩ := iBl_at hb hk
  obtain ⟨k1, k2⟩ := (h5 f (by omega)).mp hfc
  have hfJ : f < J := by have := (zkn_bt J hJ f (by omega)).mp k1; omega
  refine ⟨s, h1, h4, hfJ, z2_flip J hJ s (by omega) h1 f hfJ, ?_⟩
  exact zbs_ok hg (iPl_gP hJ h) (zsg_S (by omega)) (zsg_S (nI_flip s (by omega) f hf).2) hf k1 (bt_flip s (by omega) f hf) k2
end IVB
