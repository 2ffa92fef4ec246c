/-- the contract of a method that returns or throws -/
theorem zmetT {G : zG} {M : zM} {R : Room} {P : Bool} {Q : zO → zH → Prop} {A : List Value} {h : zH} (hhs : M.hs = []) (hpl : plainName M.nm.cls = true) (hc : ∀ v ∈ A, v.category = 1) (hn : A.length ≤ M.maxL) (hP : PW G M R P Q 0 (zentry M.maxL A) [] h 0 0) (ad : Nat → Nat) (ho : zos h.length A) :
    MetFree G.l M.nm (headSpec (Cond.code M.nm M.code M.maxL M.ret :: zT) R) (zPc G ad h A) (fun _ _ _ _ _ => True) (fun a st o t => zQc G P ad h Q a st o t ∧ st.WarmedH t.vm ∧ ∃ L, st.sameButNew ({ t with vm := st.vm } : State) L R.cells R.slots ∧ ∀ q ∈ L, zF G P q.base) := by
  refine MetFree.of_bodyS (code := M.code) (maxLocals := M.maxL) (ret := M.ret) hpl ?_ ?_
  · intro args s m h hn
    obtain ⟨meth, c, h1, h2, h3, h4, h5, h6, -, -⟩ := Cond.code_spec hn (atoms_spec (ws := Cond.code M.nm M.code M.maxL M.ret :: zT) h _ List.mem_cons_self)
    exact ⟨meth, c, h1, h2, h3, h4, h5, h6⟩
  · intro p e s m args below meth c s₁ B hml hv _
    obtain ⟨rfl, hR, hK, hn0, hZ⟩ := hv
    have hh0 : s₁.heap = s.heap := by rw [B.state]; rfl
    have hts := atoms_spec (ws := Cond.code M.nm M.code M.maxL M.ret :: zT) B.pre
    have htab : c.exceptionTable.toList.map (fun h => (h.startPc, h.endPc, h.handlerPc, h.catchType)) = M.hs := by
      obtain ⟨meth', c', q1, q2, -, -, -, -, q7, -⟩ := Cond.code_spec B.named (hts _ List.mem_cons_self)
      cases B.method.symm.trans q1
      have hc : meth.code = some c := (Stand.of_body B).code
      cases hc.symm.trans q2
      rw [hhs, Array.isEmpty_iff.mp q7]; rfl
    have C : zX G M p e s m (A.map (zv ad)).toArray meth c := ⟨B.exec, B.bytes, B.returns, hml, findClass_of_methodNamed B.named, fun w hw => hts w (List.mem_cons_of_mem _ hw), B.notSynchronized, hK, hn0, (name_of_methodNamed B.named B.method).1, htab, hZ⟩
    rw [lg_entry_eq]
    obtain ⟨t, a1, o, h1, h2, h3, h4, h5, L, h6, h7⟩ := hP p e s m _ below meth c ad h.length C ad s.heap [] _ ⟨fun _ _ => rfl, Nat.le_refl _, hR, va_S.rf, fun i v hi => ⟨ho v (List.mem_of_getElem? (zentry_get hi)), hc v (List.mem_of_getElem? (zentry_get hi))⟩, zos_nil, zentry_has hc hn⟩ s₁ hh0 (Stand.of_body B)
    exact ⟨t, o, a1, h1, h2, ⟨h3, h4⟩, h5, L, h6, h7⟩
set_option maxHeartbeats 1000000 in
/-- a call that throws: where the machine stands then -/
theorem zthrow {G : zG} {M M' : zM} {R R' : Room} {P P' : Bool} {Q' : zO → zH → Prop} {pc : Nat} {pl : List (Option Value)} {st A : List Value} {h : zH} {nc ns idx k ci : Nat} {fs : List Value} {p : Program} {e : Env} {s : State} {m : MethodId} {args : Array Value} {below : List Frame} {meth : Method} {c : Code} {ad0 : Nat → Nat} {n : Nat} {ad : Nat → Nat} {H : Heap} {locs : List Loc} {ls : Array Slot} {T : State}
    (hPP : P = true → P' = true) (C : zX G M p e s m args meth c) (hI : zI G M P s ad0 n ad H locs ls pl (A.reverse ++ .ref k :: st) h) (hT : T.heap = H) (X : Stand p G.l e R s m args below meth c T locs nc ns) (hd : decode M.code pc = .ok (.invokevirtual idx, 3)) (hl : zLV M.nm.cls idx M' A.length) (hh : h[k]? = some (.inr (ci, fs))) (hc : (zCl[ci]?).map Prod.fst = some M'.nm.cls) (hA : ∀ v ∈ A, v.category = 1) (hmax : A.length + 1 ≤ M'.maxL) (hf : zfit M' R' R nc ns) (hw : (st.map fun v => v.category).sum ≤ 8)
    (hb : PW G M' R' P' Q' 0 (zentry M'.maxL (.ref k :: A)) [] h 0 0) (hthr : ∀ r h', Q' r h' → ∃ q, r = .inr q) :
    ∃ (q : Nat × Nat) (h' : zH) (ad' : Nat → Nat) (B : State) (L : List Loc), Q' (.inr q) h' ∧ zI G M P s ad0 n ad' B.heap (locs ++ L) ls pl [.ref q.2] h' ∧ Stand p G.l e R s m args below meth c B (locs ++ L) (nc + R'.cells) (ns + R'.slots) ∧
      ∀ target, Steps p.tables e below ((B.setTop (F0 m pc ls (st.map (zv ad)))).pushFrame (.throwing (ad' q.2))) target → Steps p.tables e below (T.setTop (F0 m pc ls ((A.reverse ++ .ref k :: st).map (zv ad)))) target := by
  obtain ⟨⟨c1, c2, c3, c4, c5, c6⟩, l1, l2, l3⟩ := hl
  have ho : zos h.length (.ref k :: A) := zos_c (zos_h (zrestok hI.s0)) (zargsok hI.s0)
  have hM := zmetT (G := G) (M := M') (R := R') c6 c5 (A := .ref k :: A) (fun v hv => by rcases List.mem_cons.mp hv with rfl | h; exact rfl; exact hA v h) hmax hb ad ho
  obtain ⟨q0, hq1, hq2⟩ := Option.map_eq_some_iff.mp hc
  obtain ⟨cellB, hcB, hoB, hclB⟩ := va_recv C.K hI.2.2.1.1 hq1 (zw_get hh)
  rw [hq2] at hclB
  obtain ⟨mk, methM, hnamed, hmethM, hstM, habM⟩ := Cond.instanceMethod_spec (C.ts _ l2)
  obtain ⟨methM', cM, hmethM', hcM, -, hlM, -, -, -, hsigM⟩ := Cond.code_spec hnamed (C.ts _ c1)
  cases hmethM.symm.trans hmethM'
  obtain ⟨cc2, r2, m2, q1, q2, q3, q4, kP, hkP, hkPi⟩ := Cond.selects_spec (C.ts _ l3)
  cases hclB.symm.trans q1
  cases (State.methodFound?_of_named hnamed c3).symm.trans q2
  cases hnamed.symm.trans q3
  have hselP : selectMethod e.platform s.vm cellB.cls mk = .method mk := by rw [Launch.admits_selectMethod X.admits]; exact q4
  have hlen : (A.map (zv ad)).length = methM.sig.parameters.length := by rw [List.length_map]; exact zsig c4 _ hsigM
  obtain ⟨vm₁, X₁, hstep₁⟩ := X.invokevirtual C.exec C.own (C.ts _ l1) hnamed hmethM hstM hkP hkPi c3 (a := ad k) (cell := cellB) (by rw [hT]; exact hcB)
    (fun z h => by rw [h] at hoB; cases hoB) hselP hmethM habM hkP hkPi (g := F0 m pc ls ((A.reverse ++ .ref k :: st).map (zv ad))) rfl (argsL := A.map (zv ad)) (rest := st.map (zv ad)) hlen (by simp [zv]) (by rw [C.bytes]; exact hd)
  generalize hU : T.setVm vm₁ = U at X₁ hstep₁
  have hUh : U.heap = H := by rw [← hU]; exact hT
  have hUn : U.methodNamed? M'.nm = some mk := X₁.named hnamed
  have hbefore : ∀ w ∈ (Cond.code M'.nm M'.code M'.maxL M'.ret :: zT), ∀ a' : Array Value, w.before a' U = true := fun w hw a' => zwords C c1 w hw a' U X₁.warmed
  obtain ⟨methY, cY, hmY, hcY, -, hlY, -, -, -, -⟩ := Cond.code_spec hUn (hbefore _ List.mem_cons_self #[])
  obtain ⟨kY, hkY, -⟩ := className_of_methodNamed hUn
  have hinitY : kY.init = .initialized := Cond.initialized_spec (findClass_of_methodNamed hUn) hkY (hbefore _ (List.mem_cons_of_mem _ c2) #[])
  have hg' : (F0 m pc ls (st.map (zv ad))).locals.size = c.maxLocals := hI.2.2.2.2.2.2.1.trans C.maxL.symm
  have happ : (headSpec (Cond.code M'.nm M'.code M'.maxL M'.ret :: zT) R').appliesLoose M'.nm e.platform (U.calling (F0 m pc ls (st.map (zv ad))) mk ((Value.ref (ad k) :: A.map (zv ad)).toArray)) = true :=
    Spec.appliesLoose_calling (g := F0 m pc ls (st.map (zv ad))) X₁.here (by rw [C.bytes]; exact hd) hUn hkY hinitY
      (X₁.room_calling (g := F0 m pc ls (st.map (zv ad))) (R' := R') hg' hmY hcY hf.1 (by
        rw [hlY]
        show 2 * 0 + ((st.map (zv ad)).map fun v => v.category).sum + (M'.maxL + 11) + R'.locals ≤ R.locals
        rw [zcatsum]; have := hf.2.1; omega) hf.2.2.1 hf.2.2.2) (atoms_intro fun w hw => hbefore w hw _)
  obtain ⟨mid, hmid⟩ := X₁.here.above
  have hfr : (U.setTop (F0 m pc ls (st.map (zv ad)))).frames = (.java (F0 m pc ls (st.map (zv ad))) :: mid) ++ below := by rw [State.frames_setTop' _ X₁.here.top, hmid]; rfl
  obtain ⟨o, s₂, hsteps, -, hend, ⟨⟨r, h', ad', hq, ha, hlen', hR', hor, rfl⟩, hz, hk⟩, hW₂, L, ⟨e2, w2, w3, w4, w5, w6⟩, hL⟩ := Steps.callFree hM p X₁.admits X₁.cas X₁.clock (acts := []) (args := (Value.ref (ad k) :: A.map (zv ad)).toArray) (m := mk) hfr happ (zPc_blind _ U (F0 m pc ls (st.map (zv ad))) mk (zPc_at C hI (A := .ref k :: A) hUh X₁.warmed)) trivial
  obtain ⟨q, rfl⟩ := hthr _ _ hq
  rw [State.frames_setTop' _ X₁.here.top] at hend
  have hf₂ : s₂.frames = .throwing (ad' q.2) :: .java (F0 m pc ls (st.map (zv ad))) :: U.frames.tail := hend
  have hW' : U.WarmedH s₂.vm := hW₂
  obtain ⟨g₀, hg0⟩ := Option.isSome_iff_exists.mp X₁.here.top
  obtain ⟨fr, hfr0⟩ := State.topJava?_eq_some.mp hg0
  have e3 : s₂ = ({ (U.calling (F0 m pc ls (st.map (zv ad))) mk ((Value.ref (ad k) :: A.map (zv ad)).toArray)).setFrames s₂.frames with heap := s₂.heap, slotsUsed := s₂.slotsUsed } : State).setVm s₂.vm := by
    have : s₂ = ({ s₂ with vm := (U.calling (F0 m pc ls (st.map (zv ad))) mk ((Value.ref (ad k) :: A.map (zv ad)).toArray)).vm } : State).setVm s₂.vm := rfl
    exact this.trans (by rw [show ({ s₂ with vm := (U.calling (F0 m pc ls (st.map (zv ad))) mk ((Value.ref (ad k) :: A.map (zv ad)).toArray)).vm } : State) = _ from e2]; rfl)
  have hsame : U.sameButNew ({ U with heap := s₂.heap, slotsUsed := s₂.slotsUsed } : State) L R'.cells R'.slots := by
    refine ⟨?_, w2, w3, w4, w5, w6⟩
    obtain ⟨t, ht, -⟩ := State.frames_cons hfr0
    show ({ U with heap := s₂.heap, slotsUsed := s₂.slotsUsed } : State) = { U.setFrames U.frames with heap := s₂.heap, slotsUsed := s₂.slotsUsed }
    rw [State.setFrames_self ht]
  generalize hB : (({ U with heap := s₂.heap, slotsUsed := s₂.slotsUsed } : State).setVm s₂.vm) = B
  have hBh : B.heap = s₂.heap := by rw [← hB]; rfl
  have hs₂ : s₂ = (B.setTop (F0 m pc ls (st.map (zv ad)))).pushFrame (.throwing (ad' q.2)) := by
    have hr' : B.frames = .java g₀ :: fr := by rw [← hB]; exact hfr0
    refine e3.trans ?_
    rw [hf₂, State.calling_eq X₁.here.top, State.setFrames_setFrames, State.pushFrame, State.frames_setTop _ hr', State.setTop_of_frames _ hr', State.setFrames_setFrames, hfr0, ← hB]
    rfl
  have hz' : H.size ≤ s₂.heap.size := by rw [← hUh]; exact hz
  have hk' : ∀ x : Nat, x < H.size → ¬ zF G P' x → s₂.heap[x]? = H[x]? := fun x h1 h2 => by rw [← hUh] at h1 ⊢; exact hk x h1 h2
  have hPF : ∀ x, zF G P' x → zF G P x := fun x z => ⟨by cases hb : P with | false => rfl | true => exact absurd (hPP hb) (by rw [z.1]; decide), z.2⟩
  have hS : va_S (zF G P) s.heap B.heap (locs ++ L) := ⟨Nat.le_trans hI.2.2.2.1.1 (by rw [hBh]; exact hz'), fun x h1 h2 => by rw [hBh, hk' x (Nat.lt_of_lt_of_le h1 hI.2.2.2.1.1) (fun z => h2 (hPF x z))]; exact hI.2.2.2.1.2.1 x h1 h2, fun x hx => by
      rcases List.mem_append.mp hx with h | h
      · exact hI.2.2.2.1.2.2 x h
      · exact hPF _ (hL x h)⟩
  refine ⟨q, h', ad', B, L, hq, ⟨fun j hj => (ha j (Nat.lt_of_lt_of_le hj hI.2.1)).trans (hI.1 j hj), Nat.le_trans hI.2.1 hlen', by rw [hBh]; exact hR', hS, fun i w hi => ⟨zov_mono hlen' (hI.2.2.2.2.1 i w hi).1, (hI.2.2.2.2.1 i w hi).2⟩, zos_c hor zos_nil, zhas_cong ha hI.2.2.2.2.1 hI.2.2.2.2.2.2⟩, ?_, fun target ht => ?_⟩
  · rw [← hB]
    exact ⟨X.admits, X.cas, X.clock, X.frames, X.room, X.hears, X.method, X.code, (X₁.here.setHeapUsed s₂.heap s₂.slotsUsed).setVm hW'.alike, X₁.tail, State.WarmedH.trans X₁.warmed hW', X₁.limits, X₁.bytes, X₁.same.trans (hsame.setVm s.vm)⟩
  · refine hstep₁ _ fun acts => ?_
    rw [doInvoke_state]
    rw [← hs₂] at ht
    exact hsteps.trans ht
/-- a call that throws, in a method without handlers: it throws too -/
theorem pw_callVT {G : zG} {M M' : zM} {R R' : Room} {P P' : Bool} {Q Q' : zO → zH → Prop} {pc : Nat} {pl : List (Option Value)} {st : List Value} {h : zH} {nc ns : Nat} (A : List Value) {idx k ci : Nat} {fs : List Value} {stk : List Value} (hPP : P = true → P' = true) (hd : decode M.code pc = .ok (.invokevirtual idx, 3)) (hl : zLV M.nm.cls idx M' A.length) (hh : h[k]? = some (.inr (ci, fs))) (hc : (zCl[ci]?).map Prod.fst = some M'.nm.cls) (hst : stk = A.reverse ++ .ref k :: st) (hA : ∀ v ∈ A, v.category = 1) (hmax : A.length + 1 ≤ M'.maxL) (hf : zfit M' R' R nc ns) (hw : (st.map fun v => v.category).sum ≤ 8) (hhs : M.hs = [])
    (hb : PW G M' R' P' Q' 0 (zentry M'.maxL (.ref k :: A)) [] h 0 0) (hthr : ∀ r h', Q' r h' → ∃ q, r = .inr q) (hq : ∀ r h', Q' r h' → Q r h') : PW G M R P Q pc pl stk h nc ns := by
  subst hst
  intro p e s m args below meth c ad0 n C ad H locs ls hI T hT X
  obtain ⟨q, h', ad', B, L, h1, hI', X', hgo⟩ := zthrow hPP C hI hT X hd hl hh hc hA hmax hf hw hb hthr
  obtain ⟨hst, hrun, hend, hWU, hsame⟩ := X'.leaveThrown (ad' q.2) (g := F0 m pc ls (st.map (zv ad))) rfl rfl rfl (fun x hx => by
      have := C.tab
      rw [hhs] at this
      rw [List.map_eq_nil_iff.mp this] at hx
      cases hx) C.locks
  exact ⟨_, hgo _ hst, .threw (ad' q.2), hrun, hend, ⟨.inr q, h', ad', hq _ _ h1, hI'.1, hI'.2.1, hI'.2.2.1, zos_h hI'.s0, rfl⟩, hI'.2.2.2.1.F rfl, hWU, locs ++ L, hsame.mono hf.2.2.1 hf.2.2.2, hI'.2.2.2.1.2.2⟩
