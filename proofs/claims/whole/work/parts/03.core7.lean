/-- the words of a throw, as the state gives them -/
def zat (a : Cond) : Bool := decide (a ∈ zT) || decide (a ∈ zNw) || decide (a = Cond.laysStatic "java/lang/Throwable" "UNASSIGNED_STACK" "[Ljava/lang/StackTraceElement;") || decide (a = Cond.laysStatic "java/lang/Throwable" "SUPPRESSED_SENTINEL" "Ljava/util/List;") || decide (a = Cond.isRef (.static "java/lang/Throwable" "UNASSIGNED_STACK" "[Ljava/lang/StackTraceElement;")) || decide (a = Cond.isRef (.static "java/lang/Throwable" "SUPPRESSED_SENTINEL" "Ljava/util/List;"))
theorem zSV.lays {G : zG} {nm ds : String} {s : State} {args : Array Value} (h : zSV G nm ds s) : (Cond.laysStatic "java/lang/Throwable" nm ds).before args s = true := by
  obtain ⟨c, i, a, k, f, cell, v, h1, h2, h3, h4, h5, h6, h7, h8, h9, h10, h11, h12⟩ := h
  exact Cond.laysStatic_of h1 h2 h3 h4 h5 h6 h7 h8 h9
theorem zSV.ref {G : zG} {nm ds : String} {s : State} {args : Array Value} (h : zSV G nm ds s) : (Cond.isRef (.static "java/lang/Throwable" nm ds)).before args s = true := by
  obtain ⟨c, i, a, k, f, cell, v, h1, h2, h3, h4, h5, h6, h7, h8, h9, h10, h11, h12⟩ := h
  have hv : (Term.static "java/lang/Throwable" nm ds).eval args s none [] s = some v := by
    simp [Term.eval, State.fieldNamed?, h2, h3, h4, h5, h6, h10]
  simp only [Cond.before, Cond.holds, Cond.value, hv]
  cases v <;> first | rfl | (simp [Value.isRef] at h11)
theorem zat_ok {G : zG} {M : zM} {p : Program} {e : Env} {s : State} {m : MethodId} {args : Array Value} {meth : Method} {c : Code} (C : zX G M p e s m args meth c) {a : Cond} (h : zat a = true) : a.before args s = true := by
  simp only [zat, Bool.or_eq_true, decide_eq_true_eq] at h
  rcases h with ((((h | h) | h) | h) | h) | h
  · exact C.ts a h
  · exact va_Nw.use (by
      have h2 := (List.mem_filter.mp h).2
      cases a <;> first | rfl | (simp [zisN] at h2)) (C.Z.2.2.2.2.1 a h)
  · subst h; exact C.Z.2.2.1.lays
  · subst h; exact C.Z.2.2.2.1.lays
  · subst h; exact C.Z.2.2.1.ref
  · subst h; exact C.Z.2.2.2.1.ref
theorem zsame_eq {s t : State} {k n : Nat} (h : s.sameButNew t [] k n) : s.heap.size ≤ t.heap.size ∧ ∀ q : Nat, q < s.heap.size → t.heap[q]? = s.heap[q]? := by
  refine ⟨h.2.1, fun q hq => ?_⟩
  have hc : s.heap[q]? = some s.heap[q] := Array.getElem?_eq_getElem hq
  obtain ⟨c', h1, h2, h3, h4⟩ := h.2.2.2.2.2 q _ hc
  have h5 : c'.slots = (s.heap[q]).slots := Array.ext_getElem? fun i => h4 i (by simp)
  rw [h1, hc, h2, h5]
/-- a class of exceptions: its number, what lies between it and Throwable -/
def zXc (ci : Nat) (cls : String) (names : List String) : Prop := zCl[ci]? = some (cls, T_0, 0) ∧ Cond.instantiable cls 6 ∈ zT ∧ Cond.initialized cls ∈ zT ∧ Jvm.Bundle.fit cls = true ∧ (∀ n ∈ names, Jvm.Bundle.fit n = true) ∧ names.length = 2
section PWthrow
variable {G : zG} {M : zM} {R : Room} {P : Bool} {Q : zO → zH → Prop} {pc : Nat} {pl : List (Option Value)} {st : List Value} {h : zH} {ns : Nat}
set_option maxHeartbeats 1000000 in
theorem pw_throw {ci i0 i4 i6 : Nat} {cls tx : String} {names : List String} (hP : P = true) (hd0 : decode M.code pc = .ok (.new i0, 3)) (hd3 : decode M.code (pc + 3) = .ok (.dup, 1)) (hd4 : decode M.code (pc + 3 + 1) = .ok (.ldc i4, 2)) (hd6 : decode M.code (pc + 3 + 1 + 2) = .ok (.invokespecial i6, 3)) (hd9 : decode M.code (pc + 3 + 1 + 2 + 3) = .ok (.athrow, 1))
    (hx : zXc ci cls names) (hl : Cond.classLink M.nm.cls i0 cls ∈ zT) (hw : M.nm.cls = "WedgePlanes") (hs : (i4, tx) ∈ zSt) (ha : (Jvm.Bundle.ownAtoms M.nm.cls i6 cls names).all zat = true) (hhs : M.hs = []) (hc : 1 ≤ R.cells) (hsl : ns + 6 ≤ R.slots) (hf : 5 < R.frames) (hlo : (st.map fun v => v.category).sum + 82 ≤ R.locals)
    (hq : Q (.inr (ci, h.length)) (h ++ [.inr (ci, [])])) : PW G M R P Q pc pl st h 0 ns := by
  intro p e s m args below meth c ad0 n C ad H locs ls hI T0 hT0 X0
  have hsz : H.size ≤ s.heap.size := by have := X0.heapSize; rw [hT0] at this; simpa using this
  have hlocs : locs = [] := List.eq_nil_iff_forall_not_mem.mpr fun q hq => by have := (hI.2.2.2.1.2.2 q hq).1; rw [hP] at this; cases this
  subst hlocs
  obtain ⟨hx1, hx2, hx3, hx4, hx5, hx6⟩ := hx
  obtain ⟨qs, hqs⟩ := C.Z.2.2.2.2.2.2.2.1 _ hs
  rw [← hw] at hqs
  revert T0
  refine (fun w T0 hT0 X0 => w T0 hT0 X0 : W p G.l e R s m args below meth c H [] 0 ns _ _ → _) ?_
  refine W.newc C.exec C.bytes C.own (C.ts _ hl) (C.ts _ hx2) (C.ts _ hx3) rfl hd0 (by simpa using hc) hsl (fun cX kX f1 f2 f3 f4 => ?_)
  refine lv_dup C.exec C.bytes hd3 rfl ?_
  refine va_ldcS C.exec C.bytes C.own hqs hd4 ?_
  intro T hT X
  have htr : e.platform.stackTraces = false := by
    have h1 := X.admits.2.2.2.2.1
    rw [h1]
    show G.l.stackTraces = false
    unfold Launch.stackTraces
    rw [C.Z.2.1]
    decide +kernel
  obtain ⟨U, hst, hrun, hend, hWU, hsame, ce, hce, hOwn⟩ := X.ctorThrowS C.exec htr (own := M.nm.cls) (cls := cls) (names := names) (ic := i6) C.own hx4 hx5 (fun a hm => zat_ok C (List.all_eq_true.mp ha a hm)) (fun x hx => by cases hx) f1 f2 (a := H.size) (by rw [hT, Array.getElem?_push_size]) hI.2.2.2.1.1 (msg := .ref qs) rfl (g := F0 m (pc + 3 + 1 + 2) ls (.ref qs :: .ref H.size :: .ref H.size :: st.map (zv ad))) rfl (hI.2.2.2.2.2.2.1.trans C.maxL.symm) rfl rfl (rest := st.map (zv ad)) rfl (by rw [C.bytes]; exact hd6) (by rw [C.bytes]; exact hd9) (fun x hx => by
      have := C.tab
      rw [hhs] at this
      rw [List.map_eq_nil_iff.mp this] at hx
      cases hx) (by rw [hx6]; omega) (by
      show 2 * 0 + (1 + ((st.map (zv ad)).map fun v => v.category).sum) + (13 * (names.length + 1) + 42) ≤ R.locals
      rw [zcatsum, hx6]; omega) C.locks
  obtain ⟨hz1, hz2⟩ := zsame_eq hsame
  have hold : ∀ q : Nat, q < H.size → U.heap[q]? = H[q]? := fun q hq => by
    have h1 : U.heap[q]? = s.heap[q]? := hz2 q (Nat.lt_of_lt_of_le hq hsz)
    rw [h1, hI.2.2.2.1.2.1 q (Nat.lt_of_lt_of_le hq hsz) (fun z => by rw [hP] at z; cases z.1)]
  have hcls : ce.cls = G.D.1 ci := Option.some.inj (hOwn.cls.symm.trans (C.K.1 ci _ hx1).2.1)
  have hup : ∀ k, k < h.length → va_up ad h.length H.size k = ad k := fun k hk => by unfold va_up; rw [if_neg (Nat.ne_of_lt hk)]
  have hself : va_up ad h.length H.size h.length = H.size := by unfold va_up; rw [if_pos rfl]
  refine ⟨U, hst, .threw H.size, hrun, hend, ⟨.inr (ci, h.length), h ++ [.inr (ci, [])], va_up ad h.length H.size, hq, fun k hk => (hup k (Nat.lt_of_lt_of_le hk hI.2.1)).trans (hI.1 k hk), by rw [List.length_append]; exact Nat.le_trans hI.2.1 (Nat.le_add_right _ _), ⟨?_, ?_, zoh_push (c := .inr (ci, [])) hI.2.2.1.2.2 (show zoc _ (.inr (ci, [])) from fun v hv => by cases hv)⟩, by simp [zor], by simp only [zo, hself]⟩, ⟨hz1, fun q h1 _ => hz2 q h1⟩, hWU, [], hsame.mono (by simpa using hc) hsl, fun q hq => by cases hq⟩
  · rw [zw_push hI.2.2.1.2.2 hup, hself]
    refine va_P.app (hI.2.2.1.1.kept (fun k q hq => hold _ (hI.2.2.1.1 k q hq).lt)) (fun k q hq => ?_)
    have : q ∈ [(H.size, zc (va_up ad h.length H.size) G.tys (.inr (ci, [])))] := List.mem_of_getElem? hq
    rw [List.mem_singleton] at this
    subst this
    exact ⟨_, hx1, ce, hce, hcls, hOwn.vm, fun k hk => absurd hk (Nat.not_lt_zero k)⟩
  · rw [zw_push hI.2.2.1.2.2 hup, hself]
    exact hI.2.2.1.2.1.push hI.2.2.1.1 rfl (C.A _ hI.2.2.2.1.1)
end PWthrow
