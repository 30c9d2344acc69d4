theorem fa_FM_cong {v v1 : fa_V} (h1 : v1 397 = v 397) (h2 : v1 398 = v 398) (h : fa_FM v) : fa_FM v1 := by
  unfold fa_FM at h ⊢
  rw [h1, h2]
  exact h
theorem fa_FV_cong {v v1 : fa_V} (h : ∀ k, ¬ k = 398 → v1 k = v k) (hF : fa_FV v) : fa_FV v1 := by
  unfold fa_FV at hF ⊢
  rw [h 113 (by omega), h 1 (by omega), h (1 + 2) (by omega), h (1 + 5) (by omega), h (1 + 7) (by omega), h 395 (by omega), h 0 (by omega)]
  exact hF
theorem fa_RA_cong {r r1 : fa_R} (h : ∀ k, ¬ k = 397 → r1 k = r k) (hA : fa_RA r) : fa_RA r1 := by
  unfold fa_RA at hA ⊢
  rw [h 0 (by omega), h 113 (by omega), h 395 (by omega)]
  exact hA
section FAL
variable {p : Program} {l : Launch} {e : Env} {R : Room} {s : State} {m : MethodId} {args : Array Value} {below : List Frame} {meth : Method} {c : Code} {H : Heap} {locs : List Loc} {cells slots : Nat} {Q : State → Prop}
variable {G : fa_G} {n : Nat} {v : fa_V} {r : fa_R} {cc : ByteArray} {nL : Nat} {own : String} {pc : Nat} {ls : Array Slot} {rest : List Value}
theorem fa_scr {b L j : Nat} {xs : Nat → Int32} (CX : fa_CX G p s m args c cc nL own) (HX : fa_HX G n v r s H locs) (hX : va_X b L xs s s.heap) (hbl : b < s.heap.size) (hG : fa_B G = s.heap.size) (hj : j < L) (hL : L < 2 ^ 31) (hdg : decode cc pc = .ok (.iaload, 1))
    (kk : W p l e R s m args below meth c H locs cells slots Q (F0 m (pc + 1) ls (.int (xs j) :: rest))) : W p l e R s m args below meth c H locs cells slots Q (F0 m pc ls (.int (nI j) :: .ref b :: rest)) :=
  va_sld CX.1.1 CX.1.2.1 hX hbl (show ¬ fa_A G b by unfold fa_A; omega) HX.2 (fa_ix hj hL) hdg (by rw [nI_clamp (by omega)]; exact kk)
theorem fa_slen {b L : Nat} {xs : Nat → Int32} (CX : fa_CX G p s m args c cc nL own) (HX : fa_HX G n v r s H locs) (hX : va_X b L xs s s.heap) (hbl : b < s.heap.size) (hG : fa_B G = s.heap.size) (hdg : decode cc pc = .ok (.arraylength, 1))
    (kk : W p l e R s m args below meth c H locs cells slots Q (F0 m (pc + 1) ls (.int (nI L) :: rest))) : W p l e R s m args below meth c H locs cells slots Q (F0 m pc ls (.ref b :: rest)) :=
  va_slen CX.1.1 CX.1.2.1 hX hbl (show ¬ fa_A G b by unfold fa_A; omega) HX.2 hdg kk
end FAL
