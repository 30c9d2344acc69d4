/-! THE CELLS OF THE SCRIPT -/
set_option maxHeartbeats 4000000 in
theorem l_cell (l : Launch) (G : fa_G) (n : Nat) (v : fa_V) (r : fa_R) {b L k : Nat} {xs : Nat → Int32} (hL : L ≤ 260) (hbB : b < fa_B G) (hk : k < 40) :
    Met l yL_cell (fa_ws yL_cell cL_cell 2 (some .int)) (fa_rm 1) (va_Pc [.ref b, .int (nI k)] (fun U => fa_Pre G n v r U ∧ va_X b L xs U U.heap)) (va_Qi (fun x (w : fa_V × fa_R) => w = (v, r) ∧ ∃ ce : Nat, ce < 2147483648 ∧ x = nI ce) (fun (w : fa_V × fa_R) t => fa_Mem G n w.1 w.2 t.heap) (fa_A G)) 0 0 (fa_A G) := by
  refine fa_start (G := G) (n := n) (v := v) (r := r) (by decide +kernel) (Nat.le_of_ble_eq_true rfl) (fun U h => h.1) (fun p e s m below meth c ls hP CX hr hlk hmn hl HX => ?_)
  have hl : lv_has ls 2 [(0, .ref b), (1, .int (nI k))] := hl
  have hx := CX.1.1
  have hb := CX.1.2.1
  have hbs : b < s.heap.size := Nat.lt_of_lt_of_le hbB CX.2.2.2.2.2.2.2
  have hbA : ¬ fa_A G b := Nat.not_le.mpr hbB
  have END : ∀ (ls : Array Slot) (x : Int32), lv_has ls 2 [(0, .ref b), (1, .int (nI k))] → W p l e (fa_rm 1) s m [.ref b, .int (nI k)].toArray below meth c s.heap [] 0 0 (MQ below (va_Qi (fun x (w : fa_V × fa_R) => w = (v, r) ∧ ∃ ce : Nat, ce < 2147483648 ∧ x = nI ce) (fun (w : fa_V × fa_R) t => fa_Mem G n w.1 w.2 t.heap) (fa_A G)) [.ref b, .int (nI k)].toArray s 0 0 (fa_A G)) (F0 m 20 ls [.int x]) := fun ls x hl => by
    refine lv_ldc (v := 2147483647) hx hb CX.1.2.2.2.1 (CX.1.2.2.2.2 _ cw_L_8) dL_cell_20 ?_
    refine lv_iand hx hb dL_cell_22 ?_
    exact fa_iret CX HX hr hlk dL_cell_23 ⟨rfl, pk_andE x 31 (by decide)⟩
  refine lv_iload_n hx hb dL_cell_0 rfl (lv_at hl 1 rfl) ?_
  refine lv_aload_n hx hb dL_cell_1 rfl (lv_at hl 0 rfl) ?_
  refine va_slen hx hb hP.2 hbs hbA HX.2 dL_cell_2 ?_
  refine lv_icmp_ge (tgt := 12) hx hb dL_cell_3 (by decide) (fun c_3 => ?_) (fun c_3 => ?_)
  · refine lv_ldc (v := 15485959) hx hb CX.1.2.2.2.1 (CX.1.2.2.2.2 _ cw_L_7) dL_cell_12 ?_
    refine lv_iload_n hx hb dL_cell_14 rfl (lv_at hl 1 rfl) ?_
    refine lv_imul hx hb dL_cell_15 ?_
    refine lv_sipush (v := nI (8676)) hx hb dL_cell_16 (by decide) ?_
    refine lv_iadd hx hb dL_cell_19 ?_
    exact END ls _ hl
  · have hkL : k < L := fa_ltN (by omega) (by omega) c_3
    refine lv_aload_n hx hb dL_cell_6 rfl (lv_at hl 0 rfl) ?_
    refine lv_iload_n hx hb dL_cell_7 rfl (lv_at hl 1 rfl) ?_
    refine va_sld hx hb hP.2 hbs hbA HX.2 (fa_ix hkL (by omega)) dL_cell_8 ?_
    refine lv_goto (tgt := 20) hx hb dL_cell_9 (by decide) ?_
    exact END ls _ hl
theorem fc_blind {G : fa_G} {n b L : Nat} {v : fa_V} {r : fa_R} {xs : Nat → Int32} (av : List Value) : FrameBlind (va_Pc av (fun U => fa_Pre G n v r U ∧ va_X b L xs U U.heap)) := fun a U g mk q => ⟨q.1, ⟨q.2.1.1, q.2.1.2.call g mk a⟩, va_X.moved (u := U) (U := U.calling g mk a) (Vm.Alike.refl U.vm) q.2.2⟩
section FCC
variable {p : Program} {l : Launch} {e : Env} {R : Room} {s : State} {m : MethodId} {args : Array Value} {below : List Frame} {meth : Method} {c : Code} {H : Heap} {locs : List Loc} {cells slots : Nat} {Q : State → Prop}
variable {G : fa_G} {n : Nat} {v : fa_V} {r : fa_R} {cc : ByteArray} {nL : Nat} {own : String} {pc : Nat} {ls : Array Slot} {rest : List Value}
variable {index : Nat} {y : MethodName} {bytes : ByteArray} {maxL na d : Nat} {ret : Option FieldType} {As st0 : List Value}
theorem fc_callCell {b L : Nat} {xs : Nat → Int32} {post : Int32 → fa_V × fa_R → Prop} (CX : fa_CX G p s m args c cc nL own) (HX : fa_HX G n v r s H locs) (hX : va_X b L xs s s.heap) (hbl : b < s.heap.size) (hbB : b < fa_B G)
    (hM : Met l y (fa_ws y bytes maxL ret) (fa_rm d) (va_Pc As (fun U => fa_Pre G n v r U ∧ va_X b L xs U U.heap)) (va_Qi post (fun (w : fa_V × fa_R) t => fa_Mem G n w.1 w.2 t.heap) (fa_A G)) 0 0 (fa_A G)) (hl : fa_lnS own index y bytes maxL ret na)
    (hn : As.length = na) (hst : st0 = As.reverse ++ rest) (hW : (rest.map fun v => v.category).sum ≤ 8) (hls : ls.size = nL) (hR : d + 1 ≤ R.frames ∧ 8 + (maxL + 11) + 34 * d ≤ R.locals) (hf : cells + 0 ≤ R.cells ∧ slots + 0 ≤ R.slots) (hdg : decode cc pc = .ok (.invokestatic index, 3))
    (kk : ∀ (res : Int32) (v1 : fa_V) (r1 : fa_R) (H1 : Heap) (locs1 : List Loc), post res (v1, r1) → fa_HX G n v1 r1 s H1 locs1 → W p l e R s m args below meth c H1 locs1 cells slots Q (F0 m (pc + 3) ls (.int res :: rest))) : W p l e R s m args below meth c H locs cells slots Q (F0 m pc ls st0) :=
  va_calli (va_runS CX.1 hM (va_cwS na CX.1.2.2.2.2 hl.good rfl rfl rfl hl.2.2.2.2 hR) ⟨fc_blind _, fun U hU hW => ⟨rfl, ⟨by rw [hU]; exact HX.1, CX.2.moved hW HX.2 hU⟩, va_X.moved hW.alike (hX.kept (by rw [hU]; exact HX.2.2.1 b hbl (Nat.not_le.mpr hbB)))⟩⟩ rfl hn hls hst (lv_room hW) hdg hf) HX.2 (fun _ _ h => h) (fun _ h => h) (fun res u t H1 locs1 ht _ hp hB _ _ hS => kk res u.1 u.2 H1 locs1 hp ⟨by rw [← ht]; exact hB, hS⟩)
end FCC
