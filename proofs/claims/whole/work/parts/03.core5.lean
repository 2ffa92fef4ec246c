theorem zT_good : ∀ w ∈ zT, w ∈ zT ∧ ((w.onTables && w.keeps) = true ∨ ∃ ty, w = .arrayClass ty) := fun w hw => ⟨hw, good_of_word (List.mem_filter.mp hw).2⟩
theorem zNw_warm {s U : State} (hW : s.WarmedH U.vm) (h : ∀ w ∈ zNw, va_Nw w s) : ∀ w ∈ zNw, va_Nw w U := by
  intro w hw
  have h1 := h w hw
  have h2 := (List.mem_filter.mp hw).2
  cases w <;> first | exact va_Nw.warmM hW h1 | exact va_Nw.warmD hW h1 | exact va_Nw.warmC hW h1 | (simp [zisN] at h2)
theorem zSV.moved {G : zG} {nm ds : String} {u U : State} (hvm : u.vm.Alike U.vm) (hq : ∀ a : Nat, a < u.heap.size → ¬ G.A a → U.heap[a]? = u.heap[a]?) (h : zSV G nm ds u) : zSV G nm ds U := by
  obtain ⟨c, i, a, k, f, cell, v, h1, h2, h3, h4, h5, h6, h7, h8, h9, h10, h11, h12⟩ := h
  obtain ⟨k', hi', he⟩ := State.fieldFound?_setVm hvm h2
  exact ⟨c, i, a, k', f, cell, v, by rw [hvm.findClass]; exact h1, hi', h3, by rw [he]; exact h4, by rw [hq a (Array.getElem?_eq_some_iff.mp h5).1 h12]; exact h5, h6, h7, h8, by rw [he]; exact h9, h10, h11, h12⟩
theorem zScr.lt {G : zG} {s : State} (h : zScr G s) : G.b < s.heap.size := by
  obtain ⟨⟨scr, h1, -⟩, -⟩ := h
  exact (Array.getElem?_eq_some_iff.mp h1).1
theorem zScr.moved {G : zG} {s U : State} (hvm : s.vm.Alike U.vm) (hq : ∀ a : Nat, a < s.heap.size → ¬ G.A a → U.heap[a]? = s.heap[a]?) (h : zScr G s) : zScr G U :=
  ⟨(h.1.moved hvm).kept (hq G.b h.lt (Nat.not_le.mpr h.2)), h.2⟩
theorem zZ.warm {G : zG} {s U : State} (hW : s.WarmedH U.vm) (hq : ∀ a : Nat, a < s.heap.size → ¬ G.A a → U.heap[a]? = s.heap[a]?) (h : zZ G s) : zZ G U :=
  ⟨h.1, h.2.1, h.2.2.1.moved hW.alike hq, h.2.2.2.1.moved hW.alike hq, zNw_warm hW h.2.2.2.2.1, h.2.2.2.2.2.1.moved hW.alike, h.2.2.2.2.2.2.1.moved hW.alike, fun q hq => by obtain ⟨a, ha⟩ := h.2.2.2.2.2.2.2.1 q hq; exact ⟨a, ha.warm hW⟩, h.2.2.2.2.2.2.2.2.1.moved hW.alike, h.2.2.2.2.2.2.2.2.2.moved hW.alike hq⟩
/-- a method's start -/
def zPc (G : zG) (ad : Nat → Nat) (h : zH) (A : List Value) : Array Value → State → Prop := va_Pc (A.map (zv ad)) (fun U => zR G ad h U.heap ∧ va_K G.D zCl G.tys U ∧ G.n0 ≤ U.heap.size ∧ zZ G U)
def zQc (G : zG) (P : Bool) (ad : Nat → Nat) (h : zH) (Q : zO → zH → Prop) : Array Value → State → Outcome → State → Prop := fun _ st o t => zQ G ad h.length Q o t.heap ∧ va_F (zF G P) st t
def zentry (n : Nat) (A : List Value) : List (Option Value) := A.map some ++ List.replicate (n - A.length) none
theorem zargs {vs : List Value} (hc : ∀ v ∈ vs, v.category = 1) (j i : Nat) (v : Value) (hv : vs[i]? = some v) : (j + i, v) ∈ lv_args j vs := by
  induction vs generalizing i j with
  | nil => simp at hv
  | cons w t ih =>
    have h1 : w.category = 1 := hc w List.mem_cons_self
    simp only [lv_args, h1]
    cases i with
    | zero => simp at hv; subst hv; simp
    | succ i =>
      refine List.mem_cons_of_mem _ ?_
      have := ih (fun v h => hc v (List.mem_cons_of_mem _ h)) (j + 1) i (by simpa using hv)
      simpa [Nat.add_assoc, Nat.add_comm 1 i] using this
theorem zsl {vs : List Value} (hc : ∀ v ∈ vs, v.category = 1) : (lg_sl vs).length = vs.length := by
  induction vs with
  | nil => rfl
  | cons w t ih =>
    have h1 : w.category = 1 := hc w List.mem_cons_self
    have h2 := ih (fun v h => hc v (List.mem_cons_of_mem _ h))
    simp only [lg_sl, List.flatMap_cons, h1] at h2 ⊢
    simp [h2]
theorem zentry_get {n i : Nat} {A : List Value} {v : Value} (h : (zentry n A)[i]? = some (some v)) : A[i]? = some v := by
  unfold zentry at h
  by_cases hi : i < A.length
  · rw [List.getElem?_append_left (by simpa using hi)] at h
    simpa using h
  · rw [List.getElem?_append_right (by simpa using Nat.le_of_not_lt hi)] at h
    have := List.mem_of_getElem? h
    simp at this
theorem zentry_has {ad : Nat → Nat} {A : List Value} {n : Nat} (hc : ∀ v ∈ A, v.category = 1) (hn : A.length ≤ n) : zhas ad (zentry n A) n ((lg_sl (A.map (zv ad)) ++ List.replicate (n - (lg_sl (A.map (zv ad))).length) Slot.unset).toArray) := by
  have hc' : ∀ v ∈ A.map (zv ad), v.category = 1 := fun v hv => by
    obtain ⟨w, hw, rfl⟩ := List.mem_map.mp hv
    rw [zcat]; exact hc w hw
  have hl := lv_entry (A.map (zv ad)) (n := n) (by rw [zsl hc']; simpa using hn)
  refine ⟨hl.1, hl.2.1, fun i v hi => ?_⟩
  have hA := zentry_get hi
  have := zargs hc' 0 i (zv ad v) (by simp [hA])
  rw [Nat.zero_add] at this
  exact hl.2.2 _ this
/-- the contract, as the kit has it, of a method that returns -/
theorem zmet {G : zG} {M : zM} {R : Room} {P : Bool} {Q : zO → zH → Prop} {A : List Value} {h : zH} (hhs : M.hs = []) (hpl : plainName M.nm.cls = true) (hc : ∀ v ∈ A, v.category = 1) (hn : A.length ≤ M.maxL) (hP : PW G M R P Q 0 (zentry M.maxL A) [] h 0 0) (hret : ∀ r h', Q r h' → ∃ v, r = .inl v) (ad : Nat → Nat) (ho : zos h.length A) :
    Met G.l M.nm (Cond.code M.nm M.code M.maxL M.ret :: zT) R (zPc G ad h A) (zQc G P ad h Q) R.cells R.slots (zF G P) := by
  refine Met.ofW (cc := M.code) (maxL := M.maxL) (ret := M.ret) hpl rfl ?_
  intro p e s m args below meth c s₁ B hml hv
  obtain ⟨rfl, hR, hK, hn0, hZ⟩ := hv
  have hts := atoms_spec (ws := Cond.code M.nm M.code M.maxL M.ret :: zT) B.pre
  have htab : c.exceptionTable.toList.map (fun h => (h.startPc, h.endPc, h.handlerPc, h.catchType)) = M.hs := by
    obtain ⟨meth', c', q1, q2, -, -, -, -, q7, -⟩ := Cond.code_spec B.named (hts _ List.mem_cons_self)
    cases B.method.symm.trans q1
    have hc : meth.code = some c := (Stand.of_body B).code
    cases hc.symm.trans q2
    rw [hhs, Array.isEmpty_iff.mp q7]; rfl
  have C : zX G M p e s m (A.map (zv ad)).toArray meth c := ⟨B.exec, B.bytes, B.returns, hml, findClass_of_methodNamed B.named, fun w hw => hts w (List.mem_cons_of_mem _ hw), B.notSynchronized, hK, hn0, (name_of_methodNamed B.named B.method).1, htab, hZ⟩
  rw [lg_entry_eq]
  refine zW_mono (fun t ht => ?_) (hP p e s m _ below meth c ad h.length C ad s.heap [] _ ⟨fun _ _ => rfl, Nat.le_refl _, hR, va_S.rf, fun i v hi => ⟨ho v (List.mem_of_getElem? (zentry_get hi)), hc v (List.mem_of_getElem? (zentry_get hi))⟩, zos_nil, zentry_has hc hn⟩)
  obtain ⟨o, h1, h2, h3, h4, h5, L, h6, h7⟩ := ht
  refine ⟨o, h1, h2, ⟨h3, h4⟩, L, ⟨?_, h5, h6⟩, h7⟩
  obtain ⟨r, h', ad', hq, -, -, -, -, rfl⟩ := h3
  obtain ⟨v, rfl⟩ := hret r h' hq
  exact ⟨_, rfl⟩
theorem zPc_blind {G : zG} {ad : Nat → Nat} {h : zH} {A : List Value} : FrameBlind (zPc G ad h A) := by
  intro a U g mk q
  obtain ⟨q0, q1, q2, q3, q4⟩ := q
  exact ⟨q0, q1, va_K.moved (u := U) (U := U.calling g mk a) (Vm.Alike.refl U.vm) q2, q3, q4.1, q4.2.1, q4.2.2.1.moved (U := U.calling g mk a) (Vm.Alike.refl U.vm) (fun _ _ _ => rfl), q4.2.2.2.1.moved (U := U.calling g mk a) (Vm.Alike.refl U.vm) (fun _ _ _ => rfl), fun w hw => va_Nw.same (u := U) (U := U.calling g mk a) (by
    have h2 := (List.mem_filter.mp hw).2
    cases w <;> first | rfl | (simp [zisN] at h2)) rfl (q4.2.2.2.2.1 w hw), q4.2.2.2.2.2.1.moved (Vm.Alike.refl U.vm), q4.2.2.2.2.2.2.1.moved (Vm.Alike.refl U.vm), fun q hq => by obtain ⟨x, hx⟩ := q4.2.2.2.2.2.2.2.1 q hq; exact ⟨x, hx.same rfl⟩, q4.2.2.2.2.2.2.2.2.1.moved (U := U.calling g mk a) (Vm.Alike.refl U.vm), q4.2.2.2.2.2.2.2.2.2.moved (U := U.calling g mk a) (Vm.Alike.refl U.vm) (fun _ _ _ => rfl)⟩
/-- the start holds at a call -/
theorem zPc_at {G : zG} {M : zM} {p : Program} {e : Env} {s : State} {m : MethodId} {args : Array Value} {meth : Method} {c : Code} {P : Bool} {ad0 : Nat → Nat} {n : Nat} {ad : Nat → Nat} {H : Heap} {locs : List Loc} {ls : Array Slot} {pl : List (Option Value)} {st : List Value} {h : zH} (C : zX G M p e s m args meth c) (hI : zI G M P s ad0 n ad H locs ls pl st h) {A : List Value} {U : State} (hU : U.heap = H) (hW : s.WarmedH U.vm) : zPc G ad h A (A.map (zv ad)).toArray U :=
  ⟨rfl, by rw [hU]; exact hI.2.2.1, va_K.moved hW.alike C.K, by rw [hU]; exact Nat.le_trans C.n0 hI.2.2.2.1.1, C.Z.warm hW (fun a h1 h2 => by rw [hU]; exact (zS2 hI.2.2.2.1).2.1 a h1 h2)⟩
/-- behind a call that returned -/
theorem zback {G : zG} {M : zM} {R : Room} {P P' : Bool} {Q Q' : zO → zH → Prop} {pc : Nat} {pl : List (Option Value)} {stk st : List Value} {h : zH} {nc ns mc ms : Nat} {p : Program} {e : Env} {s : State} {m : MethodId} {args : Array Value} {below : List Frame} {meth : Method} {c : Code} {ad0 : Nat → Nat} {n : Nat} {ad : Nat → Nat} {H : Heap} {locs : List Loc} {ls : Array Slot} (hPP : P = true → P' = true) (C : zX G M p e s m args meth c) (hI : zI G M P s ad0 n ad H locs ls pl stk h) (hst : zos h.length st) {st0 : List Value} {a : Array Value}
    (hr : va_Run p G.l e R s m args below meth c H locs nc ns mc ms (F0 m pc ls st0) (st.map (zv ad)) (zQc G P' ad h Q' a) (zF G P')) (kk : ∀ v h', Q' (.inl v) h' → PW G M R P Q (pc + 3) pl (v.toList ++ st) h' (nc + mc) (ns + ms)) : W p G.l e R s m args below meth c H locs nc ns (zEnd G P below s R.cells R.slots (zQ G ad0 n Q)) (F0 m pc ls st0) := by
  intro T hT X
  obtain ⟨v, st₀, t, T', L, h0, X', hL, e1, e2, ⟨⟨r, h', ad', hq, ha, hlen, hR', hor, hv⟩, hz, hk⟩, go⟩ := hr T hT X
  cases r with
  | inr q => cases hv
  | inl v' =>
    cases hv
    rw [h0] at hz hk
    have hPF : ∀ q, zF G P' q → zF G P q := fun q z => ⟨by cases hb : P with | false => rfl | true => exact absurd (hPP hb) (by rw [z.1]; decide), z.2⟩
    have hS : va_S (zF G P) s.heap T'.heap (locs ++ L) := ⟨Nat.le_trans hI.2.2.2.1.1 (by rw [e1]; exact hz), fun q h1 h2 => by rw [e1, hk q (Nat.lt_of_lt_of_le h1 hI.2.2.2.1.1) (fun z => h2 (hPF q z))]; exact hI.2.2.2.1.2.1 q h1 h2, fun q hq => by
      rcases List.mem_append.mp hq with h | h
      · exact hI.2.2.2.1.2.2 q h
      · exact hPF _ (hL q h)⟩
    have hI' : zI G M P s ad0 n ad' T'.heap (locs ++ L) ls pl (v'.toList ++ st) h' := by
      refine ⟨fun k hk => (ha k (Nat.lt_of_lt_of_le hk hI.2.1)).trans (hI.1 k hk), Nat.le_trans hI.2.1 hlen, by rw [e1]; exact hR', hS, fun i w hi => ⟨zov_mono hlen (hI.2.2.2.2.1 i w hi).1, (hI.2.2.2.2.1 i w hi).2⟩, ?_, zhas_cong ha hI.2.2.2.2.1 hI.2.2.2.2.2.2⟩
      intro w hw
      rcases List.mem_append.mp hw with h1 | h1
      · cases v' with
        | none => cases h1
        | some x =>
          simp at h1
          subst h1
          exact hor _ rfl
      · exact zov_mono hlen (hst w h1)
    obtain ⟨t2, a1, b1⟩ := kk v' h' hq p e s m args below meth c ad0 n C ad' T'.heap (locs ++ L) ls hI' T' rfl X'
    refine ⟨t2, go t2 ?_, b1⟩
    have e3 : (v'.toList ++ st).map (zv ad') = (v'.map (zv ad')).toList ++ st.map (zv ad) := by
      rw [List.map_append, zst_cong ha hst]
      cases v' <;> rfl
    rw [e3] at a1
    exact a1
