/-- a link to a static method with handlers -/
def zLW (own : String) (idx : Nat) (M' : zM) (n : Nat) : Prop := Cond.codeWith M'.nm M'.code M'.maxL M'.ret M'.hs ∈ zT ∧ Cond.initialized M'.nm.cls ∈ zT ∧ (M'.nm.cls ≠ "java/lang/invoke/MethodHandle" ∧ M'.nm.cls ≠ "java/lang/invoke/VarHandle") ∧ (parseMethodDescriptor M'.nm.desc).map (fun d => d.parameters.length) = some n ∧ plainName M'.nm.cls = true ∧ Cond.methodLink own idx M'.nm ∈ zT ∧ Cond.static M'.nm ∈ zT
theorem zmetW {G : zG} {M : zM} {R : Room} {P : Bool} {Q : zO → zH → Prop} {A : List Value} {h : zH} (hpl : plainName M.nm.cls = true) (hc : ∀ v ∈ A, v.category = 1) (hn : A.length ≤ M.maxL) (hP : PW G M R P Q 0 (zentry M.maxL A) [] h 0 0) (hret : ∀ r h', Q r h' → ∃ v, r = .inl v) (ad : Nat → Nat) (ho : zos h.length A) :
    Met G.l M.nm (Cond.codeWith M.nm M.code M.maxL M.ret M.hs :: zT) R (zPc G ad h A) (zQc G P ad h Q) R.cells R.slots (zF G P) := by
  refine va_MetW (cc := M.code) (maxL := M.maxL) (ret := M.ret) (hh := M.hs) hpl rfl ?_
  intro p e s m args below meth c s₁ B hml hv
  obtain ⟨rfl, hR, hK, hn0, hZ⟩ := hv
  have hts := atoms_spec (ws := Cond.codeWith M.nm M.code M.maxL M.ret M.hs :: zT) B.pre
  have htab : c.exceptionTable.toList.map (fun h => (h.startPc, h.endPc, h.handlerPc, h.catchType)) = M.hs := by
    obtain ⟨m9, meth', c', q0, q1, q2, -, -, q7, -⟩ := Cond.codeWith_spec (hts _ List.mem_cons_self)
    cases B.named.symm.trans q0
    cases B.method.symm.trans q1
    have hc : meth.code = some c := (Stand.of_body B).code
    cases hc.symm.trans q2
    exact q7
  have C : zX G M p e s m (A.map (zv ad)).toArray meth c := ⟨B.exec, B.bytes, B.returns, hml, findClass_of_methodNamed B.named, fun w hw => hts w (List.mem_cons_of_mem _ hw), B.notSynchronized, hK, hn0, (name_of_methodNamed B.named B.method).1, htab, hZ⟩
  rw [lg_entry_eq]
  refine zW_mono (fun t ht => ?_) (hP p e s m _ below meth c ad h.length C ad s.heap [] _ ⟨fun _ _ => rfl, Nat.le_refl _, hR, va_S.rf, fun i v hi => ⟨ho v (List.mem_of_getElem? (zentry_get hi)), hc v (List.mem_of_getElem? (zentry_get hi))⟩, zos_nil, zentry_has hc hn⟩)
  obtain ⟨o, h1, h2, h3, h4, h5, L, h6, h7⟩ := ht
  refine ⟨o, h1, h2, ⟨h3, h4⟩, L, ⟨?_, h5, h6⟩, h7⟩
  obtain ⟨r, h', ad', hq, -, -, -, -, rfl⟩ := h3
  obtain ⟨v, rfl⟩ := hret r h' hq
  exact ⟨_, rfl⟩
section PWcw
variable {G : zG} {M M' : zM} {R R' : Room} {P P' : Bool} {Q Q' : zO → zH → Prop} {pc : Nat} {pl : List (Option Value)} {st : List Value} {h : zH} {nc ns : Nat}
theorem pw_callSW (A : List Value) {idx : Nat} {stk : List Value} (hPP : P = true → P' = true) (hd : decode M.code pc = .ok (.invokestatic idx, 3)) (hl : zLW M.nm.cls idx M' A.length) (hst : stk = A.reverse ++ st) (hk : zchk A st A.length M' R' R nc ns = true)
    (hb : PW G M' R' P' Q' 0 (zentry M'.maxL A) [] h 0 0) (hret : ∀ r h', Q' r h' → ∃ v, r = .inl v) (kk : ∀ v h', Q' (.inl v) h' → PW G M R P Q (pc + 3) pl (v.toList ++ st) h' (nc + R'.cells) (ns + R'.slots)) : PW G M R P Q pc pl stk h nc ns := by
  obtain ⟨hA, hmax, hw, hf⟩ := zchk_ok hk
  subst hst
  intro p e s m args below meth c ad0 n C ad H locs ls hI
  obtain ⟨c1, c2, c3, c4, c5, l1, l2⟩ := hl
  have hM := zmetW (G := G) (M := M') (R := R') c5 (A := A) hA hmax hb hret ad (zargsok hI.s0)
  have hws : ∀ w ∈ (Cond.codeWith M'.nm M'.code M'.maxL M'.ret M'.hs :: zT), ∀ (a' : Array Value) (U : State), s.WarmedH U.vm → w.before a' U = true :=
    pay_in (big := zT) C.ts (fun w hw => by
      rcases List.mem_cons.mp hw with rfl | h
      · exact zT_good _ c1
      · exact zT_good _ h)
  have hK : Back G.l R p e below s args M'.nm 3 8 (PreOf R R'.cells R'.slots (zPc G ad h A)) (PostOf (zQc G P' ad h Q') R'.cells R'.slots (zF G P')) :=
    va_backW (hh := M'.hs) (bytes := M'.code) (maxL := M'.maxL) (ret := M'.ret) hM zPc_blind rfl rfl hf.1 hf.2.1 hws List.mem_cons_self (fun a' U hW => hws _ (List.mem_cons_of_mem _ c2) a' U hW)
  refine zback (st := st) (st0 := (A.reverse ++ st).map (zv ad)) (a := (A.map (zv ad)).toArray) hPP C hI (zrestok hI.s0) (mc := R'.cells) (ms := R'.slots) ?_ kk
  intro T hT X
  obtain ⟨mk, methM, cM, hnamed, hmethM, -, -, -, -, -, -, hsigM⟩ := Cond.codeWith_spec (C.ts _ c1)
  have hstatic : methM.isStatic = true := Cond.static_spec hnamed hmethM (C.ts _ l2)
  obtain ⟨kP, hkP, -⟩ := className_of_methodNamed hnamed
  have hinitP : kP.init = .initialized := Cond.initialized_spec (findClass_of_methodNamed hnamed) hkP (C.ts _ c2)
  obtain ⟨vm₁, X₁, hstep₁⟩ := X.invokestatic C.exec C.own (C.ts _ l1) hnamed hmethM hstatic hkP hinitP c3 (g := F0 m pc ls ((A.reverse ++ st).map (zv ad))) rfl (argsL := A.map (zv ad)) (rest := st.map (zv ad)) (by rw [List.length_map]; exact zsig c4 _ hsigM) (by simp) (by rw [C.bytes]; exact hd)
  obtain ⟨v, ⟨U', l2', c2', s2'⟩, X', ⟨g', mk', t, L, e1, e2, hq, h1, hL, h2, h3⟩, hsteps⟩ := hK m meth c ⟨T.setVm vm₁, locs, nc, ns⟩ { F0 m pc ls ((A.reverse ++ st).map (zv ad)) with stack := st.map (zv ad) } (.invokestatic idx) mk (A.map (zv ad)).toArray X₁ rfl (hI.2.2.2.2.2.2.1.trans C.maxL.symm) (by rw [C.bytes]; exact hd) (lv_room (by rw [zcatsum]; exact hw)) (X₁.named hnamed) ⟨hf.2.2.1, hf.2.2.2, zPc_at C hI hT X₁.warmed⟩
  dsimp only [Pt.U, Pt.locs, Pt.cells, Pt.slots] at X' e1 e2 h1 h2 h3 hsteps
  subst h1; subst h2; subst h3
  exact ⟨v, (T.setVm vm₁).calling g' mk' (A.map (zv ad)).toArray, t, U', L, hT, X', hL, e1, e2, hq, fun target h => hstep₁ _ fun acts => by rw [doInvoke_state]; exact hsteps.trans h⟩
end PWcw
