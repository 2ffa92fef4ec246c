section PWscr
variable {G : zG} {M : zM} {R : Room} {P : Bool} {Q : zO → zH → Prop} {pc : Nat} {pl : List (Option Value)} {st : List Value} {h : zH} {nc ns : Nat}
theorem pw_saload_n {k : Fin 4} {i x : Nat} (hd : decode M.code pc = .ok (.aload_n k, 1)) (hk : (k : Nat) = i) (hx : pl[i]? = some (some (.retAddr x))) (kk : PW G M R P Q (pc + 1) pl (.retAddr x :: st) h nc ns) : PW G M R P Q pc pl st h nc ns := by
  intro p e s m args below meth c ad0 n C ad H locs ls hI
  exact lv_aload_n C.1 C.2.1 hd hk (hI.l hx) (kk p e s m args below meth c ad0 n C ad H locs ls (hI.st (zos_c trivial hI.s0)))
theorem pw_sload {i : Int32} {j : Nat} (hd : decode M.code pc = .ok (.iaload, 1)) (hi : i = nI j) (hj : j < G.L) (hL : G.L < 2 ^ 31) (kk : PW G M R P Q (pc + 1) pl (.int (G.xs j) :: st) h nc ns) : PW G M R P Q pc pl (.int i :: .retAddr G.b :: st) h nc ns := by
  subst hi
  intro p e s m args below meth c ad0 n C ad H locs ls hI
  have h1 := vp_in_nI hj hL
  have h2 := nI_clamp (Nat.lt_trans hj hL)
  have kk' := kk p e s m args below meth c ad0 n C ad H locs ls (hI.st (zos_c trivial (zos_t (zos_t hI.s0))))
  rw [← h2] at kk'
  have hS := C.Z.2.2.2.2.2.2.2.2.2
  exact va_sld C.exec C.bytes hS.1 hS.lt (fun z => Nat.not_le.mpr hS.2 z.2) hI.2.2.2.1 h1 hd kk'
theorem pw_slen (hd : decode M.code pc = .ok (.arraylength, 1)) (kk : PW G M R P Q (pc + 1) pl (.int (Int32.ofNat G.L) :: st) h nc ns) : PW G M R P Q pc pl (.retAddr G.b :: st) h nc ns := by
  intro p e s m args below meth c ad0 n C ad H locs ls hI
  have hS := C.Z.2.2.2.2.2.2.2.2.2
  exact va_slen C.exec C.bytes hS.1 hS.lt (fun z => Nat.not_le.mpr hS.2 z.2) hI.2.2.2.1 hd (kk p e s m args below meth c ad0 n C ad H locs ls (hI.st (zos_c trivial (zos_t hI.s0))))
theorem pw_widen {nc' ns' : Nat} (h1 : nc ≤ nc') (h2 : ns ≤ ns') (w : PW G M R P Q pc pl st h nc' ns') : PW G M R P Q pc pl st h nc ns := by
  intro p e s m args below meth c ad0 n C ad H locs ls hI
  exact W.widen h1 h2 (w p e s m args below meth c ad0 n C ad H locs ls hI)
end PWscr
theorem lw_Law_69 : zLW "WedgePlanesLaw" 69 M_Law_joint 6 := ⟨(zmem 389 (by decide +kernel) rfl), (zmem 0 (by decide +kernel) rfl), by decide +kernel, by decide +kernel, by decide +kernel, (zmem 387 (by decide +kernel) rfl), (zmem 388 (by decide +kernel) rfl)⟩
theorem lw_Law_81 : zLW "WedgePlanesLaw" 81 M_Law_open 4 := ⟨(zmem 507 (by decide +kernel) rfl), (zmem 0 (by decide +kernel) rfl), by decide +kernel, by decide +kernel, by decide +kernel, (zmem 505 (by decide +kernel) rfl), (zmem 506 (by decide +kernel) rfl)⟩
theorem lw_Law_85 : zLW "WedgePlanesLaw" 85 M_Law_direction 5 := ⟨(zmem 531 (by decide +kernel) rfl), (zmem 0 (by decide +kernel) rfl), by decide +kernel, by decide +kernel, by decide +kernel, (zmem 529 (by decide +kernel) rfl), (zmem 530 (by decide +kernel) rfl)⟩
theorem lw_Law_89 : zLW "WedgePlanesLaw" 89 M_Law_pull 4 := ⟨(zmem 543 (by decide +kernel) rfl), (zmem 0 (by decide +kernel) rfl), by decide +kernel, by decide +kernel, by decide +kernel, (zmem 541 (by decide +kernel) rfl), (zmem 542 (by decide +kernel) rfl)⟩
theorem lw_Law_97 : zLW "WedgePlanesLaw" 97 M_Law_block 4 := ⟨(zmem 551 (by decide +kernel) rfl), (zmem 0 (by decide +kernel) rfl), by decide +kernel, by decide +kernel, by decide +kernel, (zmem 549 (by decide +kernel) rfl), (zmem 550 (by decide +kernel) rfl)⟩
theorem lw_Law_101 : zLW "WedgePlanesLaw" 101 M_Law_corner 5 := ⟨(zmem 573 (by decide +kernel) rfl), (zmem 0 (by decide +kernel) rfl), by decide +kernel, by decide +kernel, by decide +kernel, (zmem 571 (by decide +kernel) rfl), (zmem 572 (by decide +kernel) rfl)⟩
theorem lw_Law_108 : zLW "WedgePlanesLaw" 108 M_Law_beside 4 := ⟨(zmem 597 (by decide +kernel) rfl), (zmem 0 (by decide +kernel) rfl), by decide +kernel, by decide +kernel, by decide +kernel, (zmem 595 (by decide +kernel) rfl), (zmem 596 (by decide +kernel) rfl)⟩
theorem lw_Law_111 : zLW "WedgePlanesLaw" 111 M_Law_goes 4 := ⟨(zmem 605 (by decide +kernel) rfl), (zmem 0 (by decide +kernel) rfl), by decide +kernel, by decide +kernel, by decide +kernel, (zmem 603 (by decide +kernel) rfl), (zmem 604 (by decide +kernel) rfl)⟩
theorem lw_Law_114 : zLW "WedgePlanesLaw" 114 M_Law_take 3 := ⟨(zmem 613 (by decide +kernel) rfl), (zmem 0 (by decide +kernel) rfl), by decide +kernel, by decide +kernel, by decide +kernel, (zmem 611 (by decide +kernel) rfl), (zmem 612 (by decide +kernel) rfl)⟩
theorem lw_Law_122 : zLW "WedgePlanesLaw" 122 M_Law_taken 4 := ⟨(zmem 620 (by decide +kernel) rfl), (zmem 0 (by decide +kernel) rfl), by decide +kernel, by decide +kernel, by decide +kernel, (zmem 618 (by decide +kernel) rfl), (zmem 619 (by decide +kernel) rfl)⟩
theorem lw_Law_129 : zLW "WedgePlanesLaw" 129 M_Law_mode 3 := ⟨(zmem 629 (by decide +kernel) rfl), (zmem 0 (by decide +kernel) rfl), by decide +kernel, by decide +kernel, by decide +kernel, (zmem 627 (by decide +kernel) rfl), (zmem 628 (by decide +kernel) rfl)⟩
theorem lw_Law_132 : zLW "WedgePlanesLaw" 132 M_Law_told 3 := ⟨(zmem 659 (by decide +kernel) rfl), (zmem 0 (by decide +kernel) rfl), by decide +kernel, by decide +kernel, by decide +kernel, (zmem 657 (by decide +kernel) rfl), (zmem 658 (by decide +kernel) rfl)⟩
