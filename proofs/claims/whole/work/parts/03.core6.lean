/-- a callee: its words -/
def zL0 (M' : zM) (n : Nat) : Prop := Cond.code M'.nm M'.code M'.maxL M'.ret ∈ zT ∧ Cond.initialized M'.nm.cls ∈ zT ∧ (M'.nm.cls ≠ "java/lang/invoke/MethodHandle" ∧ M'.nm.cls ≠ "java/lang/invoke/VarHandle") ∧ (parseMethodDescriptor M'.nm.desc).map (fun d => d.parameters.length) = some n ∧ plainName M'.nm.cls = true ∧ M'.hs = []
def zLV (own : String) (idx : Nat) (M' : zM) (n : Nat) : Prop := zL0 M' n ∧ Cond.methodLink own idx M'.nm ∈ zT ∧ Cond.instanceMethod M'.nm ∈ zT ∧ Cond.selects M'.nm.cls M'.nm M'.nm ∈ zT
def zLS (own : String) (idx : Nat) (M' : zM) (n : Nat) : Prop := zL0 M' n ∧ (Cond.methodLink own idx M'.nm ∈ zT ∨ ∃ host, Cond.methodLinkNest own idx M'.nm host ∈ zNw) ∧ Cond.static M'.nm ∈ zT
def zLI (own : String) (idx : Nat) (M' : zM) (n : Nat) : Prop := zL0 M' n ∧ (Cond.methodLink own idx M'.nm ∈ zT ∨ ∃ host, Cond.methodLinkNest own idx M'.nm host ∈ zNw) ∧ M'.nm.name = "<init>" ∧ Cond.instanceMethod M'.nm ∈ zT ∧ M'.ret = none
/-- the callee's room in the caller's -/
def zfit (M' : zM) (R' R : Room) (nc ns : Nat) : Prop := R'.frames + 1 ≤ R.frames ∧ 8 + (M'.maxL + 11) + R'.locals ≤ R.locals ∧ nc + R'.cells ≤ R.cells ∧ ns + R'.slots ≤ R.slots
theorem zwords {G : zG} {M M' : zM} {p : Program} {e : Env} {s : State} {m : MethodId} {args : Array Value} {meth : Method} {c : Code} (C : zX G M p e s m args meth c) (hc : Cond.code M'.nm M'.code M'.maxL M'.ret ∈ zT) : ∀ w ∈ (Cond.code M'.nm M'.code M'.maxL M'.ret :: zT), ∀ (a' : Array Value) (U : State), s.WarmedH U.vm → w.before a' U = true :=
  pay_in (big := zT) C.ts (fun w hw => by
    rcases List.mem_cons.mp hw with rfl | h
    · exact zT_good _ hc
    · exact zT_good _ h)
theorem zsig {M' : zM} {n : Nat} (h : (parseMethodDescriptor M'.nm.desc).map (fun d => d.parameters.length) = some n) : ∀ sig, parseMethodDescriptor M'.nm.desc = some sig → n = sig.parameters.length := fun sig hs => by
  rw [hs] at h
  exact (Option.some.inj h).symm
theorem zargsok {n : Nat} {A : List Value} {st : List Value} (h : zos n (A.reverse ++ st)) : zos n A := fun v hv => h v (List.mem_append_left _ (List.mem_reverse.mpr hv))
theorem zrestok {n : Nat} {A : List Value} {st : List Value} (h : zos n (A.reverse ++ st)) : zos n st := fun v hv => h v (List.mem_append_right _ hv)
theorem zcatsum (ad : Nat → Nat) (st : List Value) : ((st.map (zv ad)).map fun v => v.category).sum = (st.map fun v => v.category).sum := by
  rw [List.map_map]
  congr 1
  exact List.map_congr_left fun v _ => zcat ad v
section PWcall
variable {G : zG} {M M' : zM} {R R' : Room} {P P' : Bool} {Q Q' : zO → zH → Prop} {pc : Nat} {pl : List (Option Value)} {st : List Value} {h : zH} {nc ns : Nat}
theorem pw_callV (A : List Value) {idx k ci : Nat} {fs : List Value} {stk : List Value} (hPP : P = true → P' = true) (hd : decode M.code pc = .ok (.invokevirtual idx, 3)) (hl : zLV M.nm.cls idx M' A.length) (hh : h[k]? = some (.inr (ci, fs))) (hc : (zCl[ci]?).map Prod.fst = some M'.nm.cls) (hst : stk = A.reverse ++ .ref k :: st) (hA : ∀ v ∈ A, v.category = 1) (hmax : A.length + 1 ≤ M'.maxL) (hf : zfit M' R' R nc ns) (hw : (st.map fun v => v.category).sum ≤ 8)
    (hb : PW G M' R' P' Q' 0 (zentry M'.maxL (.ref k :: A)) [] h 0 0) (hret : ∀ r h', Q' r h' → ∃ v, r = .inl v) (kk : ∀ v h', Q' (.inl v) h' → PW G M R P Q (pc + 3) pl (v.toList ++ st) h' (nc + R'.cells) (ns + R'.slots)) : PW G M R P Q pc pl stk h nc ns := by
  subst hst
  intro p e s m args below meth c ad0 n C ad H locs ls hI
  obtain ⟨⟨c1, c2, c3, c4, c5, c6⟩, l1, l2, l3⟩ := hl
  have ho : zos h.length (.ref k :: A) := zos_c (zos_h (zrestok hI.s0)) (zargsok hI.s0)
  have hM := zmet (G := G) (M := M') (R := R') c6 c5 (A := .ref k :: A) (fun v hv => by rcases List.mem_cons.mp hv with rfl | h; exact rfl; exact hA v h) hmax hb hret ad ho
  obtain ⟨q, hq1, hq2⟩ := Option.map_eq_some_iff.mp hc
  have hrec := va_recv C.K hI.2.2.1.1 hq1 (zw_get hh)
  rw [hq2] at hrec
  refine zback (st := st) (st0 := (A.reverse ++ .ref k :: st).map (zv ad)) hPP C hI (zos_t (zrestok hI.s0)) (va_runV (C := M'.nm.cls) (As := A.map (zv ad)) (b := ad k) (rest := st.map (zv ad)) ⟨C.exec, C.bytes, C.maxL, C.own, C.ts⟩ hM ⟨⟨rfl, rfl, hf.1, hf.2.1, zwords C c1, List.mem_cons_self, C.ts _ c1, C.ts _ c2, c3, zsig c4, C.ts _ l1⟩, C.ts _ l2, C.ts _ l3⟩ ⟨zPc_blind, hrec, fun U hU hW => zPc_at C hI hU hW⟩ rfl (by simp) hI.2.2.2.2.2.2.1 (by simp [zv]) (lv_room (by rw [zcatsum]; exact hw)) hd ⟨hf.2.2.1, hf.2.2.2⟩) kk
theorem pw_callS (A : List Value) {idx : Nat} {stk : List Value} (hPP : P = true → P' = true) (hd : decode M.code pc = .ok (.invokestatic idx, 3)) (hl : zLS M.nm.cls idx M' A.length) (hst : stk = A.reverse ++ st) (hA : ∀ v ∈ A, v.category = 1) (hmax : A.length ≤ M'.maxL) (hf : zfit M' R' R nc ns) (hw : (st.map fun v => v.category).sum ≤ 8)
    (hb : PW G M' R' P' Q' 0 (zentry M'.maxL A) [] h 0 0) (hret : ∀ r h', Q' r h' → ∃ v, r = .inl v) (kk : ∀ v h', Q' (.inl v) h' → PW G M R P Q (pc + 3) pl (v.toList ++ st) h' (nc + R'.cells) (ns + R'.slots)) : PW G M R P Q pc pl stk h nc ns := by
  subst hst
  intro p e s m args below meth c ad0 n C ad H locs ls hI
  obtain ⟨⟨c1, c2, c3, c4, c5, c6⟩, l1, l2⟩ := hl
  have hM := zmet (G := G) (M := M') (R := R') c6 c5 (A := A) hA hmax hb hret ad (zargsok hI.s0)
  rcases l1 with l1 | ⟨host, l1⟩
  · exact zback (st := st) (st0 := (A.reverse ++ st).map (zv ad)) hPP C hI (zrestok hI.s0) (va_runS (As := A.map (zv ad)) (rest := st.map (zv ad)) ⟨C.exec, C.bytes, C.maxL, C.own, C.ts⟩ hM ⟨⟨rfl, rfl, hf.1, hf.2.1, zwords C c1, List.mem_cons_self, C.ts _ c1, C.ts _ c2, c3, zsig c4, C.ts _ l1⟩, C.ts _ l2⟩ ⟨zPc_blind, fun U hU hW => zPc_at C hI hU hW⟩ rfl (by simp) hI.2.2.2.2.2.2.1 (by simp) (lv_room (by rw [zcatsum]; exact hw)) hd ⟨hf.2.2.1, hf.2.2.2⟩) kk
  · exact zback (st := st) (st0 := (A.reverse ++ st).map (zv ad)) hPP C hI (zrestok hI.s0) (va_runSN (As := A.map (zv ad)) (rest := st.map (zv ad)) ⟨C.exec, C.bytes, C.maxL, C.own, C.ts⟩ hM ⟨⟨⟨rfl, rfl, hf.1, hf.2.1, zwords C c1, List.mem_cons_self⟩, C.ts _ c1, C.ts _ c2, c3, zsig c4, va_Nw.use rfl (C.Z.2.2.2.2.1 _ l1)⟩, C.ts _ l2, trivial⟩ ⟨zPc_blind, fun U hU hW => zPc_at C hI hU hW⟩ rfl (by simp) hI.2.2.2.2.2.2.1 (by simp) (lv_room (by rw [zcatsum]; exact hw)) hd ⟨hf.2.2.1, hf.2.2.2⟩) kk
theorem pw_callI (A : List Value) {idx k : Nat} {stk : List Value} (hPP : P = true → P' = true) (hd : decode M.code pc = .ok (.invokespecial idx, 3)) (hl : zLI M.nm.cls idx M' A.length) (hst : stk = A.reverse ++ .ref k :: st) (hA : ∀ v ∈ A, v.category = 1) (hmax : A.length + 1 ≤ M'.maxL) (hf : zfit M' R' R nc ns) (hw : (st.map fun v => v.category).sum ≤ 8)
    (hb : PW G M' R' P' Q' 0 (zentry M'.maxL (.ref k :: A)) [] h 0 0) (hret : ∀ r h', Q' r h' → ∃ v, r = .inl v) (kk : ∀ v h', Q' (.inl v) h' → PW G M R P Q (pc + 3) pl (v.toList ++ st) h' (nc + R'.cells) (ns + R'.slots)) : PW G M R P Q pc pl stk h nc ns := by
  subst hst
  intro p e s m args below meth c ad0 n C ad H locs ls hI
  obtain ⟨⟨c1, c2, c3, c4, c5, c6⟩, l1, l2, l3, l4⟩ := hl
  have ho : zos h.length (.ref k :: A) := zos_c (zos_h (zrestok hI.s0)) (zargsok hI.s0)
  have hM := zmet (G := G) (M := M') (R := R') c6 c5 (A := .ref k :: A) (fun v hv => by rcases List.mem_cons.mp hv with rfl | h; exact rfl; exact hA v h) hmax hb hret ad ho
  rw [l4] at hM c1
  have hw0 := zwords (M' := (M'.1, M'.2.1, M'.2.2.1, none, [])) C c1
  rcases l1 with l1 | ⟨host, l1⟩
  · exact zback (st := st) (st0 := (A.reverse ++ .ref k :: st).map (zv ad)) hPP C hI (zos_t (zrestok hI.s0)) (va_runI (As := A.map (zv ad)) (b := ad k) (rest := st.map (zv ad)) ⟨C.exec, C.bytes, C.maxL, C.own, C.ts⟩ hM ⟨⟨rfl, rfl, hf.1, hf.2.1, hw0, List.mem_cons_self, C.ts _ c1, C.ts _ c2, c3, zsig c4, C.ts _ l1⟩, l2, C.ts _ l3⟩ ⟨zPc_blind, fun U hU hW => zPc_at C hI hU hW⟩ rfl (by simp) hI.2.2.2.2.2.2.1 (by simp [zv]) (lv_room (by rw [zcatsum]; exact hw)) hd ⟨hf.2.2.1, hf.2.2.2⟩) kk
  · exact zback (st := st) (st0 := (A.reverse ++ .ref k :: st).map (zv ad)) hPP C hI (zos_t (zrestok hI.s0)) (va_runIN (As := A.map (zv ad)) (b := ad k) (rest := st.map (zv ad)) ⟨C.exec, C.bytes, C.maxL, C.own, C.ts⟩ hM ⟨⟨⟨rfl, rfl, hf.1, hf.2.1, hw0, List.mem_cons_self⟩, C.ts _ c1, C.ts _ c2, c3, zsig c4, va_Nw.use rfl (C.Z.2.2.2.2.1 _ l1)⟩, l2, C.ts _ l3⟩ ⟨zPc_blind, fun U hU hW => zPc_at C hI hU hW⟩ rfl (by simp) hI.2.2.2.2.2.2.1 (by simp [zv]) (lv_room (by rw [zcatsum]; exact hw)) hd ⟨hf.2.2.1, hf.2.2.2⟩) kk
/-- what a method with one answer and one heap behind it promises -/
def zr (v : Option Value) (h2 : zH) : zO → zH → Prop := fun r h' => r = .inl v ∧ h' = h2
theorem zr_ret {v : Option Value} {h2 : zH} : ∀ r h', zr v h2 r h' → ∃ w, r = .inl w := fun r h' q => ⟨v, q.1⟩
/-- all numbers of a call, by one evaluation -/
def zchk (A st : List Value) (n : Nat) (M' : zM) (R' R : Room) (nc ns : Nat) : Bool := A.all (fun v => v.category == 1) && (Nat.ble n M'.maxL && (Nat.ble ((st.map fun v => v.category).sum) 8 && (Nat.ble (R'.frames + 1) R.frames && (Nat.ble (8 + (M'.maxL + 11) + R'.locals) R.locals && (Nat.ble (nc + R'.cells) R.cells && Nat.ble (ns + R'.slots) R.slots)))))
theorem zchk_ok {A st : List Value} {n : Nat} {M' : zM} {R' R : Room} {nc ns : Nat} (h : zchk A st n M' R' R nc ns = true) : (∀ v ∈ A, v.category = 1) ∧ n ≤ M'.maxL ∧ (st.map fun v => v.category).sum ≤ 8 ∧ zfit M' R' R nc ns := by
  simp only [zchk, Bool.and_eq_true, List.all_eq_true, beq_iff_eq, Nat.ble_eq] at h
  exact ⟨h.1, h.2.1, h.2.2.1, h.2.2.2.1, h.2.2.2.2.1, h.2.2.2.2.2.1, h.2.2.2.2.2.2⟩
theorem pw_callV1 (A : List Value) {idx k ci : Nat} {fs : List Value} {stk : List Value} {h2 : zH} {w : Value} (hPP : P = true → P' = true) (hd : decode M.code pc = .ok (.invokevirtual idx, 3)) (hl : zLV M.nm.cls idx M' A.length) (hh : h[k]? = some (.inr (ci, fs))) (hc : (zCl[ci]?).map Prod.fst = some M'.nm.cls) (hst : stk = A.reverse ++ .ref k :: st) (hk : zchk A st (A.length + 1) M' R' R nc ns = true)
    (hb : PW G M' R' P' (zr (some w) h2) 0 (zentry M'.maxL (.ref k :: A)) [] h 0 0) (kk : PW G M R P Q (pc + 3) pl (w :: st) h2 (nc + R'.cells) (ns + R'.slots)) : PW G M R P Q pc pl stk h nc ns :=
  pw_callV A hPP hd hl hh hc hst (zchk_ok hk).1 (zchk_ok hk).2.1 (zchk_ok hk).2.2.2 (zchk_ok hk).2.2.1 hb zr_ret (fun v h' q => by obtain ⟨e1, rfl⟩ := q; cases e1; exact kk)
theorem pw_callV0 (A : List Value) {idx k ci : Nat} {fs : List Value} {stk : List Value} {h2 : zH} (hPP : P = true → P' = true) (hd : decode M.code pc = .ok (.invokevirtual idx, 3)) (hl : zLV M.nm.cls idx M' A.length) (hh : h[k]? = some (.inr (ci, fs))) (hc : (zCl[ci]?).map Prod.fst = some M'.nm.cls) (hst : stk = A.reverse ++ .ref k :: st) (hk : zchk A st (A.length + 1) M' R' R nc ns = true)
    (hb : PW G M' R' P' (zr none h2) 0 (zentry M'.maxL (.ref k :: A)) [] h 0 0) (kk : PW G M R P Q (pc + 3) pl st h2 (nc + R'.cells) (ns + R'.slots)) : PW G M R P Q pc pl stk h nc ns :=
  pw_callV A hPP hd hl hh hc hst (zchk_ok hk).1 (zchk_ok hk).2.1 (zchk_ok hk).2.2.2 (zchk_ok hk).2.2.1 hb zr_ret (fun v h' q => by obtain ⟨e1, rfl⟩ := q; cases e1; exact kk)
theorem pw_callVq (A : List Value) {idx k ci : Nat} {fs : List Value} {stk : List Value} (hPP : P = true → P' = true) (hd : decode M.code pc = .ok (.invokevirtual idx, 3)) (hl : zLV M.nm.cls idx M' A.length) (hh : h[k]? = some (.inr (ci, fs))) (hc : (zCl[ci]?).map Prod.fst = some M'.nm.cls) (hst : stk = A.reverse ++ .ref k :: st) (hk : zchk A st (A.length + 1) M' R' R nc ns = true)
    (hb : PW G M' R' P' Q' 0 (zentry M'.maxL (.ref k :: A)) [] h 0 0) (hret : ∀ r h', Q' r h' → ∃ v, r = .inl v) (kk : ∀ v h', Q' (.inl v) h' → PW G M R P Q (pc + 3) pl (v.toList ++ st) h' (nc + R'.cells) (ns + R'.slots)) : PW G M R P Q pc pl stk h nc ns :=
  pw_callV A hPP hd hl hh hc hst (zchk_ok hk).1 (zchk_ok hk).2.1 (zchk_ok hk).2.2.2 (zchk_ok hk).2.2.1 hb hret kk
theorem pw_callS1 (A : List Value) {idx : Nat} {stk : List Value} {h2 : zH} {w : Value} (hPP : P = true → P' = true) (hd : decode M.code pc = .ok (.invokestatic idx, 3)) (hl : zLS M.nm.cls idx M' A.length) (hst : stk = A.reverse ++ st) (hk : zchk A st A.length M' R' R nc ns = true)
    (hb : PW G M' R' P' (zr (some w) h2) 0 (zentry M'.maxL A) [] h 0 0) (kk : PW G M R P Q (pc + 3) pl (w :: st) h2 (nc + R'.cells) (ns + R'.slots)) : PW G M R P Q pc pl stk h nc ns :=
  pw_callS A hPP hd hl hst (zchk_ok hk).1 (zchk_ok hk).2.1 (zchk_ok hk).2.2.2 (zchk_ok hk).2.2.1 hb zr_ret (fun v h' q => by obtain ⟨e1, rfl⟩ := q; cases e1; exact kk)
theorem pw_callS0 (A : List Value) {idx : Nat} {stk : List Value} {h2 : zH} (hPP : P = true → P' = true) (hd : decode M.code pc = .ok (.invokestatic idx, 3)) (hl : zLS M.nm.cls idx M' A.length) (hst : stk = A.reverse ++ st) (hk : zchk A st A.length M' R' R nc ns = true)
    (hb : PW G M' R' P' (zr none h2) 0 (zentry M'.maxL A) [] h 0 0) (kk : PW G M R P Q (pc + 3) pl st h2 (nc + R'.cells) (ns + R'.slots)) : PW G M R P Q pc pl stk h nc ns :=
  pw_callS A hPP hd hl hst (zchk_ok hk).1 (zchk_ok hk).2.1 (zchk_ok hk).2.2.2 (zchk_ok hk).2.2.1 hb zr_ret (fun v h' q => by obtain ⟨e1, rfl⟩ := q; cases e1; exact kk)
theorem pw_callSq (A : List Value) {idx : Nat} {stk : List Value} (hPP : P = true → P' = true) (hd : decode M.code pc = .ok (.invokestatic idx, 3)) (hl : zLS M.nm.cls idx M' A.length) (hst : stk = A.reverse ++ st) (hk : zchk A st A.length M' R' R nc ns = true)
    (hb : PW G M' R' P' Q' 0 (zentry M'.maxL A) [] h 0 0) (hret : ∀ r h', Q' r h' → ∃ v, r = .inl v) (kk : ∀ v h', Q' (.inl v) h' → PW G M R P Q (pc + 3) pl (v.toList ++ st) h' (nc + R'.cells) (ns + R'.slots)) : PW G M R P Q pc pl stk h nc ns :=
  pw_callS A hPP hd hl hst (zchk_ok hk).1 (zchk_ok hk).2.1 (zchk_ok hk).2.2.2 (zchk_ok hk).2.2.1 hb hret kk
theorem pw_callI1 (A : List Value) {idx k : Nat} {stk : List Value} {h2 : zH} {w : Value} (hPP : P = true → P' = true) (hd : decode M.code pc = .ok (.invokespecial idx, 3)) (hl : zLI M.nm.cls idx M' A.length) (hst : stk = A.reverse ++ .ref k :: st) (hk : zchk A st (A.length + 1) M' R' R nc ns = true)
    (hb : PW G M' R' P' (zr (some w) h2) 0 (zentry M'.maxL (.ref k :: A)) [] h 0 0) (kk : PW G M R P Q (pc + 3) pl (w :: st) h2 (nc + R'.cells) (ns + R'.slots)) : PW G M R P Q pc pl stk h nc ns :=
  pw_callI A hPP hd hl hst (zchk_ok hk).1 (zchk_ok hk).2.1 (zchk_ok hk).2.2.2 (zchk_ok hk).2.2.1 hb zr_ret (fun v h' q => by obtain ⟨e1, rfl⟩ := q; cases e1; exact kk)
theorem pw_callI0 (A : List Value) {idx k : Nat} {stk : List Value} {h2 : zH} (hPP : P = true → P' = true) (hd : decode M.code pc = .ok (.invokespecial idx, 3)) (hl : zLI M.nm.cls idx M' A.length) (hst : stk = A.reverse ++ .ref k :: st) (hk : zchk A st (A.length + 1) M' R' R nc ns = true)
    (hb : PW G M' R' P' (zr none h2) 0 (zentry M'.maxL (.ref k :: A)) [] h 0 0) (kk : PW G M R P Q (pc + 3) pl st h2 (nc + R'.cells) (ns + R'.slots)) : PW G M R P Q pc pl stk h nc ns :=
  pw_callI A hPP hd hl hst (zchk_ok hk).1 (zchk_ok hk).2.1 (zchk_ok hk).2.2.2 (zchk_ok hk).2.2.1 hb zr_ret (fun v h' q => by obtain ⟨e1, rfl⟩ := q; cases e1; exact kk)
theorem pw_callIq (A : List Value) {idx k : Nat} {stk : List Value} (hPP : P = true → P' = true) (hd : decode M.code pc = .ok (.invokespecial idx, 3)) (hl : zLI M.nm.cls idx M' A.length) (hst : stk = A.reverse ++ .ref k :: st) (hk : zchk A st (A.length + 1) M' R' R nc ns = true)
    (hb : PW G M' R' P' Q' 0 (zentry M'.maxL (.ref k :: A)) [] h 0 0) (hret : ∀ r h', Q' r h' → ∃ v, r = .inl v) (kk : ∀ v h', Q' (.inl v) h' → PW G M R P Q (pc + 3) pl (v.toList ++ st) h' (nc + R'.cells) (ns + R'.slots)) : PW G M R P Q pc pl stk h nc ns :=
  pw_callI A hPP hd hl hst (zchk_ok hk).1 (zchk_ok hk).2.1 (zchk_ok hk).2.2.2 (zchk_ok hk).2.2.1 hb hret kk
def zLO (own : String) (idx : Nat) : Prop := Cond.methodLink own idx Lib.objectInit ∈ zT
theorem zobj1 : Cond.instanceMethod Lib.objectInit ∈ zT := by decide +kernel
theorem zobj2 : Cond.code Lib.objectInit ⟨#[0xb1]⟩ 1 none ∈ zT := by decide +kernel
theorem pw_objInit {idx k : Nat} (hd : decode M.code pc = .ok (.invokespecial idx, 3)) (hl : zLO M.nm.cls idx) (hf : 1 ≤ R.frames) (hw : (st.map fun v => v.category).sum + 12 ≤ R.locals) (kk : PW G M R P Q (pc + 3) pl st h nc ns) : PW G M R P Q pc pl (.ref k :: st) h nc ns := by
  intro p e s m args below meth c ad0 n C ad H locs ls hI
  exact W.objInit C.exec C.bytes C.own (C.ts _ hl) (C.ts _ zobj1) (C.ts _ zobj2) rfl (hI.2.2.2.2.2.2.1.trans C.maxL.symm) rfl hd hf (by show 2 * 0 + ((st.map (zv ad)).map fun v => v.category).sum + 12 ≤ R.locals; rw [zcatsum]; omega) (kk p e s m args below meth c ad0 n C ad H locs ls (hI.st (zos_t hI.s0)))
end PWcall
