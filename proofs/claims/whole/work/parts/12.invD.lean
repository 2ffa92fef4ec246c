/-- open faces -/
def iOp (op : Int32) (mo : Nat → Int32) : Prop := ∀ f, 6 ≤ f → f < 12 → (bt op f = true ↔ ¬ mo f = 0) ∧ (mo f = 0 ∨ mo f = 1)
theorem bt_bx : ∀ s, s < 64 → ∀ f, f < 12 → 6 ≤ f → bt (nI s ||| 1344) f = decide (f % 2 = 0) := by decide +kernel
section IVD
variable {J : Nat} {ms ml mo tk tk' : Nat → Int32} {op : Int32} {bc : Nat} {sd fc nu bs bf : Nat → Int32} {S : zPS}
theorem iIn (hJ : J ≤ 6) (hb : iBl J ms ml bc sd fc) (hb' : iBl J ms ml bc bs bf) {k : Nat} (hk : k < bc) {f : Nat} (hf : f < 12) (c : Nat) : ml (4 * f + c) * (if (if ((sd k ||| 1344) >>> (nI f &&& 31)) &&& 1 = 1 then (1 : Int32) else 0) = 0 then (-1 : Int32) else 1) = rIn ml bs k f c := by
  have h64 := z2_64 J hJ
  obtain ⟨s, h1, h2, h3, h4, h5⟩ := iBl_at hb hk
  have hbs : bs k = nI s := ((iBl_eq hb hb').2 k hk).1.trans h4
  have hT : rTu bs k f ↔ ¬ ((sd k ||| 1344) >>> (nI f &&& 31)) &&& 1 = 1 := by
    unfold rTu
    rw [zB_bt _ (by omega), zB_bt _ (by omega), hbs, h4]
    split
    · next h6 => rw [bt_bx s (by omega) f hf h6]; simp
    · next h6 => rw [bt_1344 s (by omega) f (by omega)]
  unfold rIn
  by_cases q : ((sd k ||| 1344) >>> (nI f &&& 31)) &&& 1 = 1
  · rw [if_neg (fun z => (hT.mp z) q), if_pos q, if_neg (by decide), Int32.mul_one]
  · rw [if_pos (hT.mpr q), if_neg q, if_pos rfl]
    grind
theorem iHd (hJ : J ≤ 6) (hp : iPl J ms ml) (hg : zPg (zkn J) (mA ml) (mB ml) (mC ml) (mD ml) (ms 0) (ms 1) (ms 2) S) (hb : iBl J ms ml bc sd fc) (hb' : iBl J ms ml bc bs bf) (hn : iNu J ms ml nu) (ho : iOp op mo) (ht : ∀ o, o < 64 → tk o = 0 ∨ tk o = 1) (htt : ∀ k, k < bc → tk' k = tk k) {k : Nat} (hk : k < bc) {f : Nat} (hf : f < 12) {s : Nat} (hs : s < 64) (hsd : sd k = nI s) : zHd op tk fc nu k s f ↔ rHd mo tk' bs bf bc k f := by
  have h64 := z2_64 J hJ
  have hle := iBl_le hJ hb
  obtain ⟨e1, e2⟩ := (iBl_eq hb hb').2 k hk
  unfold zHd rHd
  rw [e1, e2]
  refine and_congr_right (fun hfc => ?_)
  split
  · next h6 =>
    rw [zB_bt _ (by omega), (ho f h6 hf).1]
    exact Decidable.not_not
  · next h6 =>
    rw [zB_bt _ (by omega)] at hfc
    obtain ⟨s', g1, g2, g3, g4, g5⟩ := iBs hJ hp hg hb hk (show f < 6 by omega) hfc
    have : s' = s := nI_inj (by omega) (by omega) (g2.symm.trans hsd)
    subst this
    obtain ⟨n1, n2⟩ := nI_flip s' hs f (by omega)
    have hnu := (hn _ n2).1 ⟨g4, g5⟩
    have ho' := (hb.2 _ g4 g5).1
    have hlt : zct (iB J ms ml) (s' ^^^ (1 <<< f)) < bc := by rw [hb.1]; exact zct_lt g5 g4
    have hbs : ∀ o, o < bc → (bs o = nI (s' ^^^ (1 <<< f)) ↔ o = zct (iB J ms ml) (s' ^^^ (1 <<< f))) := fun o ho => by
      rw [((iBl_eq hb hb').2 o ho).1]
      constructor
      · intro e
        obtain ⟨t, t1, t2, t3, t4, -⟩ := iBl_at hb ho
        have := nI_inj (by omega) (by omega) (t4.symm.trans e)
        rw [← t3, this]
      · rintro rfl; exact ho'
    rw [hsd, n1]
    constructor
    · intro h
      refine ⟨_, hlt, (hbs _ hlt).mpr rfl, fun j hj e => ?_, ?_⟩
      · have := (hbs j (by omega)).mp e; omega
      · rw [htt _ hlt]
        exact (ht _ (by omega)).resolve_right (fun e => h ⟨(zB_bt _ (by omega)).mpr hfc, _, by omega, hnu, e⟩)
    · rintro ⟨o, o1, o2, -, o4⟩ ⟨-, o', p1, p2, p3⟩
      have e := (hbs o o1).mp o2
      have e' := nI_inj (by omega) (by omega) (hnu.symm.trans p2)
      rw [htt o o1, e, e'] at o4
      rw [o4] at p3
      exact absurd p3 (by decide)
theorem iGo (hJ : J ≤ 6) (hp : iPl J ms ml) (hg : zPg (zkn J) (mA ml) (mB ml) (mC ml) (mD ml) (ms 0) (ms 1) (ms 2) S) (hb : iBl J ms ml bc sd fc) (hb' : iBl J ms ml bc bs bf) (hn : iNu J ms ml nu) (ho : iOp op mo) (ht : ∀ o, o < 64 → tk o = 0 ∨ tk o = 1) (htt : ∀ k, k < bc → tk' k = tk k) {k : Nat} (hk : k < bc) {s : Nat} (hs : s < 64) (hsd : sd k = nI s) {a b c : Int32} : zGw op tk sd fc nu (mA ml) (mB ml) (mC ml) k s a b c ↔ rGo ml mo tk' bs bf bc k a b c := by
  refine and_congr_right (fun _ => forall_congr' fun f => forall_congr' fun hf => ?_)
  refine imp_congr (iHd hJ hp hg hb hb' hn ho ht htt hk hf hs hsd) ?_
  rw [← iIn hJ hb hb' hk hf 0, ← iIn hJ hb hb' hk hf 1, ← iIn hJ hb hb' hk hf 2]
  exact Iff.rfl
theorem iLd (hJ : J ≤ 6) (hp : iPl J ms ml) (hg : zPg (zkn J) (mA ml) (mB ml) (mC ml) (mD ml) (ms 0) (ms 1) (ms 2) S) (hb : iBl J ms ml bc sd fc) (hb' : iBl J ms ml bc bs bf) (hn : iNu J ms ml nu) (ho : iOp op mo) (ht : ∀ o, o < 64 → tk o = 0 ∨ tk o = 1) (htt : ∀ k, k < bc → tk' k = tk k) {k : Nat} (hk : k < bc) {s : Nat} (hs : s < 64) (hsd : sd k = nI s) {mT : Nat → Int32} {dc : Nat} {t : Int32} (h : zLd op tk sd fc nu (mA ml) (mB ml) (mC ml) (fun i => mT (3 * i)) (fun i => mT (3 * i + 1)) (fun i => mT (3 * i + 2)) dc k s t) : rLd ml mo tk' bs bf mT bc dc k t := by
  have G := fun a b c => iGo (a := a) (b := b) (c := c) hJ hp hg hb hb' hn ho ht htt hk hs hsd
  have e := htt k hk
  rcases h with ⟨h1, rfl⟩ | ⟨h1, ⟨i, h2, rfl, h3, h4⟩ | ⟨rfl, h2⟩⟩
  · exact Or.inr ⟨rfl, fun d _ q => by rw [e, h1] at q; exact absurd q.1 (by decide)⟩
  · exact Or.inl ⟨i, h2, rfl, e.trans h1, (G _ _ _).mp h3, fun j hj q => h4 j hj ((G _ _ _).mpr q.2)⟩
  · exact Or.inr ⟨rfl, fun d hd q => h2 d hd ((G _ _ _).mpr q.2)⟩
end IVD
theorem nI_m1 {n : Nat} (h : n < 2147483648) : nI n ≠ -1 := fun e => by
  have h1 := nI_toInt (n := n) (by omega)
  rw [e] at h1
  have : ((-1 : Int32)).toInt = -1 := by decide
  omega
theorem rLd_un {ml mo tk bs bf mT : Nat → Int32} {bl dr k : Nat} (hd : dr ≤ 8) {t t' : Int32} (h : rLd ml mo tk bs bf mT bl dr k t) (h' : rLd ml mo tk bs bf mT bl dr k t') : t = t' := by
  rcases h with ⟨d, h1, rfl, h2, h3, h4⟩ | ⟨rfl, h1⟩ <;> rcases h' with ⟨e, k1, rfl, k2, k3, k4⟩ | ⟨rfl, k1⟩
  · have : d = e := by
      rcases Nat.lt_trichotomy d e with q | q | q
      · exact absurd ⟨h2, h3⟩ (k4 d q)
      · exact q
      · exact absurd ⟨k2, k3⟩ (h4 e q)
    rw [this]
  · exact absurd ⟨h2, h3⟩ (k1 d h1)
  · exact absurd ⟨k2, k3⟩ (h1 e k1)
  · rfl
section IVE
variable {ml mo bs bf mT : Nat → Int32} {bl dr : Nat}
theorem rSt1_un (hd : dr ≤ 8) {T U V : zTS} (h : rSt1 ml mo bs bf mT bl dr T U) (h' : rSt1 ml mo bs bf mT bl dr T V) : U = V := by
  obtain ⟨k, t, h1, h2, h3, h4, rfl⟩ := h
  obtain ⟨k', t', k1, k2, k3, k4, rfl⟩ := h'
  have : k = k' := by
    rcases Nat.lt_trichotomy k k' with q | q | q
    · exact absurd (rLd_un hd h2 (k4 k q)) h3
    · exact q
    · exact absurd (rLd_un hd k2 (h4 k' q)) k3
  subst this
  rw [rLd_un hd h2 k2]
theorem rStn_un (hd : dr ≤ 8) : ∀ (n : Nat) {T U V : zTS}, rStn ml mo bs bf mT bl dr n T U → rStn ml mo bs bf mT bl dr n T V → U = V := by
  intro n
  induction n with
  | zero => intro T U V h h'; exact Eq.trans h (Eq.symm h')
  | succ n ih =>
    rintro T U V ⟨X, h1, h2⟩ ⟨Y, k1, k2⟩
    have := ih h1 k1
    subst this
    exact rSt1_un hd h2 k2
theorem rStn_part : ∀ (m n : Nat) {T V : zTS}, n < m → rStn ml mo bs bf mT bl dr m T V → ∃ U U', rStn ml mo bs bf mT bl dr n T U ∧ rSt1 ml mo bs bf mT bl dr U U' := by
  intro m
  induction m with
  | zero => intro n T V h; exact absurd h (Nat.not_lt_zero _)
  | succ m ih =>
    rintro n T V h ⟨X, h1, h2⟩
    by_cases e : n = m
    · subst e; exact ⟨X, V, h1, h2⟩
    · exact ih n (by omega) h1
theorem rSt0_no (hd : dr ≤ 8) {T U : zTS} (h : rSt0 ml mo bs bf mT bl dr T) (h' : rSt1 ml mo bs bf mT bl dr T U) : False := by
  obtain ⟨k, t, h1, h2, h3, -⟩ := h'
  exact h3 (rLd_un hd h2 (h k h1))
theorem rEnd_un (hd : dr ≤ 8) {n m : Nat} {T U V : zTS} (h1 : rStn ml mo bs bf mT bl dr n T U) (h2 : rSt0 ml mo bs bf mT bl dr U) (k1 : rStn ml mo bs bf mT bl dr m T V) (k2 : rSt0 ml mo bs bf mT bl dr V) : n = m ∧ U = V := by
  have : n = m := by
    rcases Nat.lt_trichotomy n m with q | q | q
    · obtain ⟨X, Y, x1, x2⟩ := rStn_part m n q k1
      rw [rStn_un hd n x1 h1] at x2
      exact (rSt0_no hd h2 x2).elim
    · exact q
    · obtain ⟨X, Y, x1, x2⟩ := rStn_part n m q h1
      rw [rStn_un hd m x1 k1] at x2
      exact (rSt0_no hd k2 x2).elim
  subst this
  exact ⟨rfl, rStn_un hd n h1 k1⟩
end IVE
/-- what is taken: the same -/
def iTk (bc : Nat) (T T' : zTS) : Prop := T'.1 = T.1 ∧ (∀ k, k < bc → T'.2.1 k = T.2.1 k) ∧ T'.2.2 = T.2.2
section IVF
variable {J : Nat} {ms ml mo : Nat → Int32} {op : Int32} {bc : Nat} {sd fc nu bs bf : Nat → Int32} {S : zPS}
theorem iSt1 (hJ : J ≤ 6) (hp : iPl J ms ml) (hg : zPg (zkn J) (mA ml) (mB ml) (mC ml) (mD ml) (ms 0) (ms 1) (ms 2) S) (hb : iBl J ms ml bc sd fc) (hb' : iBl J ms ml bc bs bf) (hn : iNu J ms ml nu) (ho : iOp op mo) {sf : Nat → Nat} (hsf : ∀ k, k < bc → sf k < 64 ∧ sd k = nI (sf k)) {mT : Nat → Int32} {dc : Nat} {T T' U : zTS} (ht : ∀ o, o < 64 → T.2.1 o = 0 ∨ T.2.1 o = 1) (hT : iTk bc T T') (h : zSt1 op sd fc nu (mA ml) (mB ml) (mC ml) (fun i => mT (3 * i)) (fun i => mT (3 * i + 1)) (fun i => mT (3 * i + 2)) dc bc sf T U) : ∃ U', rSt1 ml mo bs bf mT bc dc T' U' ∧ iTk bc U U' ∧ ∀ o, o < 64 → U.2.1 o = 0 ∨ U.2.1 o = 1 := by
  obtain ⟨k, t, h1, h2, h3, h4, h5, rfl⟩ := h
  obtain ⟨i1, i2, i3⟩ := hT
  refine ⟨_, ⟨k, t, h1, iLd hJ hp hg hb hb' hn ho ht i2 h1 (hsf k h1).1 (hsf k h1).2 h3, h4, fun j hj => iLd hJ hp hg hb hb' hn ho ht i2 (by omega) (hsf j (by omega)).1 (hsf j (by omega)).2 (h5 j hj), rfl⟩, ⟨?_, fun j hj => ?_, ?_⟩, fun o ho => ?_⟩
  · show T'.1 + 1 = T.1 + 1; rw [i1]
  · show upd T'.2.1 k 1 j = upd T.2.1 k 1 j
    by_cases e : j = k
    · subst e; rw [pk_us, pk_us]
    · rw [pk_un e, pk_un e]; exact i2 j hj
  · show (upd T'.2.2.1 T'.1 (nI k), upd T'.2.2.2 T'.1 t) = (upd T.2.2.1 T.1 (nI k), upd T.2.2.2 T.1 t)
    rw [i1, i3]
  · show upd T.2.1 k 1 o = 0 ∨ upd T.2.1 k 1 o = 1
    by_cases e : o = k
    · subst e; exact Or.inr pk_us
    · rw [pk_un e]; exact ht o ho
theorem iStn (hJ : J ≤ 6) (hp : iPl J ms ml) (hg : zPg (zkn J) (mA ml) (mB ml) (mC ml) (mD ml) (ms 0) (ms 1) (ms 2) S) (hb : iBl J ms ml bc sd fc) (hb' : iBl J ms ml bc bs bf) (hn : iNu J ms ml nu) (ho : iOp op mo) {sf : Nat → Nat} (hsf : ∀ k, k < bc → sf k < 64 ∧ sd k = nI (sf k)) {mT : Nat → Int32} {dc : Nat} {T T' : zTS} (ht : ∀ o, o < 64 → T.2.1 o = 0 ∨ T.2.1 o = 1) (hT : iTk bc T T') : ∀ (n : Nat) {U : zTS}, zStn op sd fc nu (mA ml) (mB ml) (mC ml) (fun i => mT (3 * i)) (fun i => mT (3 * i + 1)) (fun i => mT (3 * i + 2)) dc bc sf n T U → ∃ U', rStn ml mo bs bf mT bc dc n T' U' ∧ iTk bc U U' ∧ ∀ o, o < 64 → U.2.1 o = 0 ∨ U.2.1 o = 1 := by
  intro n
  induction n with
  | zero => intro U h; cases h; exact ⟨T', rfl, hT, ht⟩
  | succ n ih =>
    rintro U ⟨X, h1, h2⟩
    obtain ⟨X', x1, x2, x3⟩ := ih h1
    obtain ⟨U', u1, u2, u3⟩ := iSt1 hJ hp hg hb hb' hn ho hsf x3 x2 h2
    exact ⟨U', ⟨X', x1, u1⟩, u2, u3⟩
/-- order: the same -/
theorem iOrd (hJ : J ≤ 6) (hp : iPl J ms ml) (hg : zPg (zkn J) (mA ml) (mB ml) (mC ml) (mD ml) (ms 0) (ms 1) (ms 2) S) (hb : iBl J ms ml bc sd fc) (hb' : iBl J ms ml bc bs bf) (hn : iNu J ms ml nu) (ho : iOp op mo) {sf : Nat → Nat} (hsf : ∀ k, k < bc → sf k < 64 ∧ sd k = nI (sf k)) {mT : Nat → Int32} {dc : Nat} (hd : dc ≤ 8) {T T' : zTS} (ht : ∀ o, o < 64 → T.2.1 o = 0 ∨ T.2.1 o = 1) (hT : iTk bc T T') {n m : Nat} {U V : zTS} (h1 : zStn op sd fc nu (mA ml) (mB ml) (mC ml) (fun i => mT (3 * i)) (fun i => mT (3 * i + 1)) (fun i => mT (3 * i + 2)) dc bc sf n T U) (h2 : zSt0 op sd fc nu (mA ml) (mB ml) (mC ml) (fun i => mT (3 * i)) (fun i => mT (3 * i + 1)) (fun i => mT (3 * i + 2)) dc bc sf U) (k1 : rStn ml mo bs bf mT bc dc m T' V) (k2 : rSt0 ml mo bs bf mT bc dc V) : n = m ∧ iTk bc U V ∧ ∀ o, o < 64 → U.2.1 o = 0 ∨ U.2.1 o = 1 := by
  obtain ⟨U', u1, u2, u3⟩ := iStn hJ hp hg hb hb' hn ho hsf ht hT n h1
  have u4 : rSt0 ml mo bs bf mT bc dc U' := fun k hk => iLd hJ hp hg hb hb' hn ho u3 u2.2.1 hk (hsf k hk).1 (hsf k hk).2 (h2 k hk)
  obtain ⟨e1, e2⟩ := rEnd_un hd u1 u4 k1 k2
  subst e2
  exact ⟨e1, u2, u3⟩
end IVF
