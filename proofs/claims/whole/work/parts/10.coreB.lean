section PWb
variable {G : zG} {M : zM} {R R' : Room} {P : Bool} {Q : zO → zH → Prop} {pc : Nat} {pl : List (Option Value)} {st : List Value} {h : zH} {nc ns : Nat}
theorem pw_tabOut {x : Int32} {dflt lo hi : Int} {offs : Array Int} {len tgt : Nat} (hd : decode M.code pc = .ok (.tableswitch dflt lo hi offs, len)) (hx : x.toInt < lo ∨ hi < x.toInt) (ht : (pc : Int) + dflt = (tgt : Int)) (kk : PW G M R P Q tgt pl st h nc ns) : PW G M R P Q pc pl (.int x :: st) h nc ns := by
  intro p e s m args below meth c ad0 n C ad H locs ls hI
  exact lv_tableOut C.1 C.2.1 hd hx ht (kk p e s m args below meth c ad0 n C ad H locs ls (hI.st (zos_t hI.s0)))
theorem pw_tabIn {x : Int32} {dflt lo hi off : Int} {offs : Array Int} {len tgt : Nat} (hd : decode M.code pc = .ok (.tableswitch dflt lo hi offs, len)) (h1 : ¬ x.toInt < lo) (h2 : ¬ hi < x.toInt) (ho : offs[(x.toInt - lo).toNat]? = some off) (ht : (pc : Int) + off = (tgt : Int)) (kk : PW G M R P Q tgt pl st h nc ns) : PW G M R P Q pc pl (.int x :: st) h nc ns := by
  intro p e s m args below meth c ad0 n C ad H locs ls hI
  exact lv_tableIn C.1 C.2.1 hd h1 h2 ho ht (kk p e s m args below meth c ad0 n C ad H locs ls (hI.st (zos_t hI.s0)))
theorem zsum_app {s U : Heap} (hs : s.size ≤ U.size) (hq : ∀ q : Nat, q < s.size → U[q]? = s[q]?) : U.toList = s.toList ++ U.toList.drop s.size := by
  apply List.ext_getElem?
  intro i
  rw [List.getElem?_append]
  simp only [Array.length_toList]
  split
  · next h => rw [Array.getElem?_toList, Array.getElem?_toList]; exact hq i h
  · next h => rw [List.getElem?_drop]; congr 1; omega
/-- a walk from where the machine stands, as if the method had begun there -/
theorem pw_rebase (hR : R'.frames ≤ R.frames ∧ R'.locals ≤ R.locals ∧ nc + R'.cells ≤ R.cells ∧ ns + R'.slots ≤ R.slots) (hP : P = false) (w : PW G M R' true Q pc pl st h 0 0) : PW G M R P Q pc pl st h nc ns := by
  intro p e s m args below meth c ad0 n C ad H locs ls hI T hT X
  obtain ⟨s', hs'⟩ : ∃ s' : State, s' = { s with heap := T.heap, slotsUsed := T.slotsUsed } := ⟨_, rfl⟩
  have hvm : s'.vm = s.vm := by rw [hs']
  have hfr : s'.frames = s.frames := by rw [hs']; rfl
  have hhp : s'.heap = T.heap := by rw [hs']
  have hsl : s'.slotsUsed = T.slotsUsed := by rw [hs']
  have hsame := X.same
  have hW0 : s.WarmedH s'.vm := by rw [hvm]; exact State.WarmedH.refl s
  have hWm : ∀ v, s'.WarmedH v ↔ s.WarmedH v := fun v => by subst hs'; exact Iff.rfl
  have hkeep : ∀ a : Nat, a < s.heap.size → ¬ G.A a → s'.heap[a]? = s.heap[a]? := fun a h1 h2 => by
    rw [hhp, hT]
    exact hI.2.2.2.1.2.1 a h1 (fun z => h2 z.2)
  have C' : zX G M p e s' m args meth c := ⟨C.1, C.2.1, C.2.2.1, C.2.2.2.1, by rw [hvm]; exact C.2.2.2.2.1, fun v hv => pay_in (big := zT) (ws := zT) C.ts (fun v hv => zT_good _ hv) v hv args s' hW0, C.locks, C.K.moved hW0.alike, by rw [hhp, hT]; exact Nat.le_trans C.n0 hI.2.2.2.1.1, C.name, C.tab, C.Z.warm hW0 hkeep⟩
  have X' : Stand p G.l e R' s' m args below meth c T [] 0 0 := by
    refine ⟨X.admits, X.cas, X.clock, by rw [hfr]; exact X.frames, ?_, by subst hs'; exact X.hears, by rw [hvm]; exact X.method, X.code, X.here, X.tail, (hWm _).mpr X.warmed, by subst hs'; exact X.limits, by subst hs'; exact X.bytes, ?_⟩
    · have h1 : (T.setVm s.vm).heap.size ≤ s.heap.size + nc := hsame.2.2.1
      have h2 := hsame.2.2.2.1
      have h3 := hsame.2.2.2.2.1
      refine State.hasRoom_ride (s := s) (r := R) ?_ ?_ ?_ ?_ ?_ ?_ ?_ X.room
      · rw [hfr]; have := hR.1; omega
      · subst hs'; have := hR.2.1; show s.localsInUse + R'.locals ≤ s.localsInUse + R.locals; omega
      · subst hs'; rfl
      · subst hs'; rfl
      · rw [hhp]; have : T.heap.size ≤ s.heap.size + nc := h1; have := hR.2.2.1; omega
      · rw [hsl]; have h4 : T.slotsUsed = s.slotsUsed + _ := h2; have h5 : _ ≤ ns := h3; have := hR.2.2.2; omega
      · have := State.slotsTrue_of_sameButNew (State.hasRoom_slotsTrue X.room) hsame
        subst hs'; exact this
    · refine ⟨?_, ?_, ?_, ?_, ?_, ?_⟩
      · subst hs'; exact hsame.1
      · rw [hhp]; exact Nat.le_refl _
      · rw [hhp]; exact Nat.le_refl _
      · rw [hhp, hsl]
        show T.slotsUsed = T.slotsUsed + ((T.heap.toList.drop T.heap.size).map _).sum
        rw [List.drop_eq_nil_of_le (by simp)]; rfl
      · rw [hhp]
        show ((T.heap.toList.drop T.heap.size).map _).sum ≤ 0
        rw [List.drop_eq_nil_of_le (by simp)]; exact Nat.le_refl _
      · intro a c0 hc0
        rw [hhp] at hc0
        exact ⟨c0, hc0, rfl, rfl, fun i _ => rfl⟩
  have hI' : zI G M true s' ad h.length ad H [] ls pl st h := ⟨fun _ _ => rfl, Nat.le_refl _, hI.2.2.1, by rw [hhp, hT]; exact va_S.rf, hI.2.2.2.2.1, hI.2.2.2.2.2.1, hI.2.2.2.2.2.2⟩
  obtain ⟨U, hst, o, k1, k2, ⟨r, h', ad', q1, q2, q3, q4, q5, q6⟩, k4, k5, L, k6, k7⟩ := w p e s' m args below meth c ad h.length C' ad H [] ls hI' T hT X'
  have hL : L = [] := List.eq_nil_iff_forall_not_mem.mpr fun q hq => by have := (k7 q hq).1; cases this
  subst hL
  obtain ⟨hz1, hz2⟩ := zsame_eq k6
  have hz1' : T.heap.size ≤ U.heap.size := by rw [← hhp]; exact hz1
  have hz2' : ∀ q : Nat, q < T.heap.size → U.heap[q]? = T.heap[q]? := fun q hq => by rw [← hhp] at hq ⊢; exact hz2 q hq
  refine ⟨U, hst, o, k1, k2, ⟨r, h', ad', q1, fun k hk => (q2 k (Nat.lt_of_lt_of_le hk hI.2.1)).trans (hI.1 k hk), Nat.le_trans hI.2.1 q3, q4, q5, q6⟩, ⟨?_, ?_⟩, (hWm _).mp k5, locs, ⟨?_, ?_, ?_, ?_, ?_, ?_⟩, fun q hq => hI.2.2.2.1.2.2 q hq⟩
  · exact Nat.le_trans hsame.2.1 hz1'
  · intro q h1 h2
    rw [hz2' q (Nat.lt_of_lt_of_le h1 hsame.2.1), hT]
    exact hI.2.2.2.1.2.1 q h1 h2
  · have := k6.1
    subst hs'
    exact this
  · exact Nat.le_trans hsame.2.1 hz1'
  · have h1 : T.heap.size ≤ s.heap.size + nc := hsame.2.2.1
    have h2 : U.heap.size ≤ s'.heap.size + R'.cells := k6.2.2.1
    rw [hhp] at h2
    show U.heap.size ≤ _
    have := hR.2.2.1
    omega
  · have a1 : T.slotsUsed = s.slotsUsed + ((T.heap.toList.drop s.heap.size).map (·.slots.size)).sum := hsame.2.2.2.1
    have a2 : U.slotsUsed = s'.slotsUsed + ((U.heap.toList.drop s'.heap.size).map (·.slots.size)).sum := k6.2.2.2.1
    rw [hhp, hsl] at a2
    have a3 := zsum_app hz1' hz2'
    have a4 : s.heap.size ≤ T.heap.size := hsame.2.1
    show U.slotsUsed = s.slotsUsed + ((U.heap.toList.drop s.heap.size).map (·.slots.size)).sum
    rw [a3, List.drop_append_of_le_length (by simpa using a4), List.map_append, List.sum_append, a2, a1]
    omega
  · have a1 : ((T.heap.toList.drop s.heap.size).map (·.slots.size)).sum ≤ ns := hsame.2.2.2.2.1
    have a2 : ((U.heap.toList.drop s'.heap.size).map (·.slots.size)).sum ≤ R'.slots := k6.2.2.2.2.1
    rw [hhp] at a2
    have a3 := zsum_app hz1' hz2'
    have a4 : s.heap.size ≤ T.heap.size := hsame.2.1
    show ((U.heap.toList.drop s.heap.size).map (·.slots.size)).sum ≤ R.slots
    rw [a3, List.drop_append_of_le_length (by simpa using a4), List.map_append, List.sum_append]
    have := hR.2.2.2
    omega
  · intro a c0 hc0
    obtain ⟨c', b1, b2, b3, b4⟩ := hsame.2.2.2.2.2 a c0 hc0
    have hlt : a < T.heap.size := Nat.lt_of_lt_of_le (Array.getElem?_eq_some_iff.mp hc0).1 hsame.2.1
    exact ⟨c', (hz2' a hlt).trans b1, b2, b3, b4⟩
end PWb
