/-- the class's cells alone -/
theorem cAll_lo {h h' : zH} {tc dc : Nat} {op : Int32} {tk tb ty : Nat → Int32} {jc bc : Nat} {sx sy sz kn : Int32} {sd fc cc nu pb so : Nat → Int32} {A B C D : Nat → Int32} {S : zPS} {dx dy dz : Nat → Int32} {p1 p2 p3 : Int32} (k : ∀ {j : Nat} {c : zE}, j < 84 → h[j]? = some c → h'[j]? = some c) (hC : cAll h tc dc op tk tb ty jc bc sx sy sz kn sd fc cc nu pb so A B C D S dx dy dz p1 p2 p3) : cAll h' tc dc op tk tb ty jc bc sx sy sz kn sd fc cc nu pb so A B C D S dx dy dz p1 p2 p3 := by
  obtain ⟨hw, hr, hpl, hp, hcr, ⟨F, ix, iy, iz, ux, uy, uz, l1, l2, l3, ho⟩, hdr⟩ := hC
  exact ⟨⟨k (by decide) hw.1, k (by decide) hw.2.1, k (by decide) hw.2.2.1, k (by decide) hw.2.2.2⟩, zRk_kp (fun a b c q => k (by omega) q) hr, zPl_kp (fun a b q => k (by omega) q) hpl, zPp_kp (fun a b c q => k (by omega) q) hp, zCr_kp (fun a b c q => k (by omega) q) hcr, ⟨F, ix, iy, iz, ux, uy, uz, l1, l2, l3, zHo_kp (fun a b q => k (by omega) q) ho⟩, k (by decide) hdr.1, fun j hj => k (by omega) (hdr.2.1 j hj), k (by decide) hdr.2.2⟩
theorem rAll_lo {h h' : zH} {th : Int32} {jn dr pn bl tn : Nat} {ms ml mo mT mp pt po pa pw bs bf tk tB tY : Nat → Int32} (k : ∀ {j : Nat} {c : zE}, 84 ≤ j → j < 104 → h[j]? = some c → h'[j]? = some c) (h : rAll h th jn dr pn bl tn ms ml mo mT mp pt po pa pw bs bf tk tB tY) : rAll h' th jn dr pn bl tn ms ml mo mT mp pt po pa pw bs bf tk tB tY :=
  ⟨k (by decide) (by decide) h.1, k (by decide) (by decide) h.2.1, k (by decide) (by decide) h.2.2.1, k (by decide) (by decide) h.2.2.2.1, k (by decide) (by decide) h.2.2.2.2.1, k (by decide) (by decide) h.2.2.2.2.2.1, k (by decide) (by decide) h.2.2.2.2.2.2.1, k (by decide) (by decide) h.2.2.2.2.2.2.2.1, k (by decide) (by decide) h.2.2.2.2.2.2.2.2.1, k (by decide) (by decide) h.2.2.2.2.2.2.2.2.2.1, ⟨_, k (by decide) (by decide) h.2.2.2.2.2.2.2.2.2.2.1.choose_spec⟩, k (by decide) (by decide) h.2.2.2.2.2.2.2.2.2.2.2.1, k (by decide) (by decide) h.2.2.2.2.2.2.2.2.2.2.2.2.1, k (by decide) (by decide) h.2.2.2.2.2.2.2.2.2.2.2.2.2.1, k (by decide) (by decide) h.2.2.2.2.2.2.2.2.2.2.2.2.2.2.1, k (by decide) (by decide) h.2.2.2.2.2.2.2.2.2.2.2.2.2.2.2.1, ⟨_, k (by decide) (by decide) h.2.2.2.2.2.2.2.2.2.2.2.2.2.2.2.2.1.choose_spec⟩, ⟨_, k (by decide) (by decide) h.2.2.2.2.2.2.2.2.2.2.2.2.2.2.2.2.2.1.choose_spec⟩, ⟨_, k (by decide) (by decide) h.2.2.2.2.2.2.2.2.2.2.2.2.2.2.2.2.2.2.1.choose_spec⟩, ⟨_, k (by decide) (by decide) h.2.2.2.2.2.2.2.2.2.2.2.2.2.2.2.2.2.2.2.choose_spec⟩⟩
/-- the reference's cells are as they were -/
def zkp (h h' : zH) : Prop := ∀ j, 84 ≤ j → j < 104 → h'[j]? = h[j]?
theorem zkp_r {h h' : zH} {th : Int32} {jn dr pn bl tn : Nat} {ms ml mo mT mp pt po pa pw bs bf tk tB tY : Nat → Int32} (k : zkp h h') (hr : rAll h th jn dr pn bl tn ms ml mo mT mp pt po pa pw bs bf tk tB tY) : rAll h' th jn dr pn bl tn ms ml mo mT mp pt po pa pw bs bf tk tB tY := rAll_lo (fun a b q => (k _ a b).trans q) hr
theorem zKPn {j : Nat} (h : 84 ≤ j) : j ∉ zKP := by
  intro q
  have := List.mem_range.mp q
  omega
theorem zMPn {j : Nat} (h : j < 84 ∨ 104 ≤ j) : j ∉ zMP := by
  intro q
  have := List.mem_range'_1.mp q
  omega
theorem zkp_z {h h' : zH} (hz : zsm zKP h h') : zkp h h' := fun j a _ => hz.2 j (zKPn a)
theorem zkp_s {h h1 h2 : zH} {c : zE} (hz : zkp h h1) (e : h2 = h1.set 104 c) : zkp h h2 := fun j a b => by
  subst e
  rw [List.getElem?_set_ne (by omega)]
  exact hz j a b
theorem zOu_len {h : zH} {fl : Nat → Int64} (ho : zOu h fl) : 104 < h.length := (List.getElem?_eq_some_iff.mp ho).1
theorem zp_lo {h h' : zH} {c : zE} {fl : Nat → Int64} (ho : zOu h fl) (e : h' = h ++ [c]) {j : Nat} (hj : j ≤ 104) : h'[j]? = h[j]? := by
  subst e
  have := zOu_len ho
  rw [List.getElem?_append_left (by omega)]
theorem zOu_z {h h' : zH} {fl : Nat → Int64} (hz : zsm zKP h h') (ho : zOu h fl) : zOu h' fl := (hz.2 104 (zKPn (by decide))).trans ho
theorem zOu_m {h h' : zH} {fl : Nat → Int64} (hz : zsm zMP h h') (ho : zOu h fl) : zOu h' fl := (hz.2 104 (zMPn (by decide))).trans ho
theorem cAll_m {h h' : zH} {tc dc : Nat} {op : Int32} {tk tb ty : Nat → Int32} {jc bc : Nat} {sx sy sz kn : Int32} {sd fc cc nu pb so : Nat → Int32} {A B C D : Nat → Int32} {S : zPS} {dx dy dz : Nat → Int32} {p1 p2 p3 : Int32} (hz : zsm zMP h h') (hC : cAll h tc dc op tk tb ty jc bc sx sy sz kn sd fc cc nu pb so A B C D S dx dy dz p1 p2 p3) : cAll h' tc dc op tk tb ty jc bc sx sy sz kn sd fc cc nu pb so A B C D S dx dy dz p1 p2 p3 := cAll_lo (fun {j} {c} a q => (hz.2 j (zMPn (Or.inl a))).trans q) hC
theorem cAll_s {h h' : zH} {tc dc : Nat} {op : Int32} {tk tb ty : Nat → Int32} {jc bc : Nat} {sx sy sz kn : Int32} {sd fc cc nu pb so : Nat → Int32} {A B C D : Nat → Int32} {S : zPS} {dx dy dz : Nat → Int32} {p1 p2 p3 : Int32} {c : zE} (e : h' = h.set 104 c) (hC : cAll h tc dc op tk tb ty jc bc sx sy sz kn sd fc cc nu pb so A B C D S dx dy dz p1 p2 p3) : cAll h' tc dc op tk tb ty jc bc sx sy sz kn sd fc cc nu pb so A B C D S dx dy dz p1 p2 p3 := cAll_lo (fun {j} {c} a q => zg_ne e (by omega) q) hC
theorem cAll_p {h h' : zH} {tc dc : Nat} {op : Int32} {tk tb ty : Nat → Int32} {jc bc : Nat} {sx sy sz kn : Int32} {sd fc cc nu pb so : Nat → Int32} {A B C D : Nat → Int32} {S : zPS} {dx dy dz : Nat → Int32} {p1 p2 p3 : Int32} {c : zE} (e : h' = h ++ [c]) (hC : cAll h tc dc op tk tb ty jc bc sx sy sz kn sd fc cc nu pb so A B C D S dx dy dz p1 p2 p3) : cAll h' tc dc op tk tb ty jc bc sx sy sz kn sd fc cc nu pb so A B C D S dx dy dz p1 p2 p3 := cAll_lo (fun {j} {c} a q => zp_ne e q) hC
/-- the class, over the reference's planes, directions, pull -/
def iC (h : zH) (op : Int32) (tc dc jc bc : Nat) (ms ml mT mp tk tb ty sd fc cc nu pb so : Nat → Int32) (S : zPS) : Prop := cAll h tc dc op tk tb ty jc bc (ms 0) (ms 1) (ms 2) (zkn jc) sd fc cc nu pb so (mA ml) (mB ml) (mC ml) (mD ml) S (fun i => mT (3 * i)) (fun i => mT (3 * i + 1)) (fun i => mT (3 * i + 2)) (mp 0) (mp 1) (mp 2)
/-- the blocks agree -/
def iG (jc bc pn : Nat) (ms ml pb pt po pa pw sd fc cc nu bs bf : Nat → Int32) (S : zPS) : Prop := jc ≤ 6 ∧ iPl jc ms ml ∧ iPt jc ms ml pb S ∧ rPg jc ms ml pn pt po pa pw ∧ pn ≤ 220 ∧ iBl jc ms ml bc sd fc ∧ iBl jc ms ml bc bs bf ∧ iNu jc ms ml nu ∧ iCc jc ms ml cc S
def iK (bc tc : Nat) (tk tr tb ty : Nat → Int32) : Prop := zTo bc (tc, tk, tb, ty) ∧ ∀ k, k < bc → tr k = tk k
/-- class and reference agree; the reference has thrown th -/
def iM (h : zH) (th : Int32) : Prop := ∃ (op : Int32) (tc dc jc bc pn : Nat) (ms ml mo mT mp pt po pa pw bs bf tr tk tb ty sd fc cc nu pb so : Nat → Int32) (S : zPS), iC h op tc dc jc bc ms ml mT mp tk tb ty sd fc cc nu pb so S ∧ rAll h th jc dc pn bc tc ms ml mo mT mp pt po pa pw bs bf tr tb ty ∧ iG jc bc pn ms ml pb pt po pa pw sd fc cc nu bs bf S ∧ iK bc tc tk tr tb ty ∧ dc ≤ 8 ∧ iOp op mo ∧ iMp mp
/-- after a call: the same answer -/
def iE (h : zH) (k : Int32) (v : Int64) : Prop := iM h k ∧ ∃ fl, zOu h fl ∧ (k = 0 → fl 0 = v)
/-- before a call -/
def iN (h : zH) : Prop := (∃ th, iM h th) ∧ ∃ fl, zOu h fl
theorem iE_N {h : zH} {k : Int32} {v : Int64} (hE : iE h k v) : iN h := ⟨⟨k, hE.1⟩, hE.2.choose, hE.2.choose_spec.1⟩
section IGF
variable {jc bc pn : Nat} {ms ml pb pt po pa pw sd fc cc nu bs bf : Nat → Int32} {S : zPS}
theorem iG.le (h : iG jc bc pn ms ml pb pt po pa pw sd fc cc nu bs bf S) : bc ≤ 64 := iBl_le h.1 h.2.2.2.2.2.1
theorem iG.nS (h : iG jc bc pn ms ml pb pt po pa pw sd fc cc nu bs bf S) : S.1 ≤ 220 := Nat.le_trans h.2.2.1.2.1 (zcap_le jc h.1)
theorem iG.zg (h : iG jc bc pn ms ml pb pt po pa pw sd fc cc nu bs bf S) : zPg (zkn jc) (mA ml) (mB ml) (mC ml) (mD ml) (ms 0) (ms 1) (ms 2) S := h.2.2.1.1
theorem iG.at (h : iG jc bc pn ms ml pb pt po pa pw sd fc cc nu bs bf S) {k : Nat} (hk : k < bc) : ∃ s, s < 64 ∧ s < 2 ^ jc ∧ iB jc ms ml s ∧ zct (iB jc ms ml) s = k ∧ sd k = nI s ∧ bs k = nI s ∧ bf k = fc k := by
  have h64 := z2_64 jc h.1
  obtain ⟨s, h1, h2, h3, h4, -⟩ := iBl_at h.2.2.2.2.2.1 hk
  obtain ⟨e1, e2⟩ := (iBl_eq h.2.2.2.2.2.1 h.2.2.2.2.2.2.1).2 k hk
  exact ⟨s, by omega, h1, h2, h3, h4, e1.trans h4, e2⟩
theorem iG.nn (h : iG jc bc pn ms ml pb pt po pa pw sd fc cc nu bs bf S) : ∀ m, m < 64 → nu m = -1 ∨ ∃ o, o < 64 ∧ nu m = nI o := fun m hm => by
  have := h.le
  rcases iNu_ok h.1 h.2.2.2.2.2.1 h.2.2.2.2.2.2.2.1 m hm with q | ⟨o, q1, q2, -⟩
  · exact Or.inl q
  · exact Or.inr ⟨o, by omega, q2⟩
/-- beside a face there is a block, at the reference -/
theorem iG.fx (h : iG jc bc pn ms ml pb pt po pa pw sd fc cc nu bs bf S) : ∀ k, k < bc → ∀ f, f < 6 → (bf k >>> (nI f &&& 31)) &&& 1 = 1 → ∃ o, o < bc ∧ bs o = (bs k ^^^ (1 <<< ((nI f) &&& 31))) := fun k hk f hf q => by
  obtain ⟨s0, a0, -, -, -, a4, a5, a6⟩ := h.at hk
  rw [a6, zB_bt _ (by omega)] at q
  obtain ⟨s, h1, h2, h3, h4, h5⟩ := iBs h.1 h.2.1 h.zg h.2.2.2.2.2.1 hk hf q
  have h64 := z2_64 jc h.1
  have : s = s0 := nI_inj (by omega) (by omega) (h2.symm.trans a4)
  subst this
  refine ⟨zct (iB jc ms ml) (s ^^^ (1 <<< f)), ?_, ?_⟩
  · rw [h.2.2.2.2.2.1.1]; exact zct_lt h5 h4
  · rw [a5, (nI_flip s a0 f hf).1]; exact (h.2.2.2.2.2.2.1.2 _ h4 h5).1
theorem iG.cn (h : iG jc bc pn ms ml pb pt po pa pw sd fc cc nu bs bf S) {k : Nat} (hk : k < bc) (so : Nat → Int32) : cc k = nI (iCp (sd k ||| 1344) S so).1 := by
  obtain ⟨s, h1, h2, h3, h4, h5, -⟩ := h.at hk
  have := h.2.2.2.2.2.2.2.2 s h2 h3
  rw [h4] at this
  rw [this, h5]
  exact (zfb_ok (zkn jc) (nI s ||| 1344) S.2.2.2.2.2.1 S.2.2.2.2.2.2 S.2.1 S.2.2.1 S.2.2.2.1 S.2.2.2.2.1 so S.1).1
end IGF
theorem iK.tq {bc tc : Nat} {tk tr tb ty : Nat → Int32} (h : iK bc tc tk tr tb ty) : zTq bc (tc, tr, tb, ty) := by
  have h1 : tc + zct (fun j => tk j = 0) bc ≤ 64 := h.1.2
  show tc + zct (fun j => tr j = 0) bc ≤ 64
  rw [zct_cg (P := fun j => tr j = 0) (Q := fun j => tk j = 0) (fun s hs => by rw [h.2 s hs])]
  exact h1
theorem iK.tr {bc tc : Nat} {tk tr tb ty : Nat → Int32} (hb : bc ≤ 64) (h : iK bc tc tk tr tb ty) : ∀ o, o < bc → tr o = 0 ∨ tr o = 1 := fun o ho => by rw [h.2 o ho]; exact h.1.1 o (by omega)
theorem iK.tc {bc tc : Nat} {tk tr tb ty : Nat → Int32} (h : iK bc tc tk tr tb ty) : tc ≤ 64 := by
  have h1 : tc + zct (fun j => tk j = 0) bc ≤ 64 := h.1.2
  omega
theorem iK0 {bc : Nat} {tk tr tb ty : Nat → Int32} (hb : bc ≤ 64) (hr : ∀ k, k < bc → tr k = 0) : iK bc 0 (zcl 64 tk) tr tb ty := by
  have h0 : ∀ o, o < 64 → zcl 64 tk o = 0 := fun o ho => if_pos ho
  refine ⟨⟨fun o ho => Or.inl (h0 o ho), ?_⟩, fun k hk => (hr k hk).trans (h0 k (by omega)).symm⟩
  have := zct_le (fun j => zcl 64 tk j = 0) bc
  show 0 + zct (fun j => zcl 64 tk j = 0) bc ≤ 64
  omega
