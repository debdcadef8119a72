section
variable {p : Program} {l : Launch} {e : Env} {s : State} {m : MethodId} {args : Array Value} {below : List Frame} {meth : Method} {c : Code} 
variable {A : Nat → Prop} {D : va_G} {cA : Nat → ClassId} {tb : Nat} {ad : Nat → Nat}
def F_Md_isMemory_11 (x0 : Int32) (mu : Mu) : Int32 := (if x0 < (64512 : Int32) then 0 else (if (65536 : Int32) ≤ x0 then 0 else 1))
set_option maxHeartbeats 4000000 in
set_option maxRecDepth 100000 in
theorem k_Md_isMemory_11 (C : Cx cX7_isMemory 1 (some .boolean) wsX7_isMemory RX7 A D cA tb p s m args meth c) {mu nu : Mu} {x0 : Int32} {H : Heap} {locs : List Loc} {ls : Array Slot} (w : Wd A D cA ad s nu mu H locs) (hl : lv_has ls 1 [(0, .int x0)]) : W p l e { frames := 0, cells := 0, slots := 0, locals := 0 } s m args below meth c H locs 0 0 (QI A D cA ad below args s (F_Md_isMemory_11 x0 mu) nu mu) (F0 m 11 ls []) := by
  have hx := C.1
  have hb := C.2.1
  have hts := C.2.2.2.2.2.1
  have hown := C.2.2.2.2.1
  unfold F_Md_isMemory_11
  refine lv_iload_n hx hb dX7_isMemory_11 rfl (lv_at hl 0 rfl) ?_
  refine lv_ldc (v := 64512) hx hb hown (hts _ (List.mem_of_getElem? (i := 1) rfl)) dX7_isMemory_12 ?_
  refine lv_icmp_lt (tgt := 27) hx hb dX7_isMemory_14 (by decide) (fun h14 => ?_) (fun h14 => ?_)
  · rw [if_pos h14]
    refine lv_iconst (v := 0) hx hb dX7_isMemory_27 (by decide) ?_
    exact retZ C w dX7_isMemory_28 (Or.inl rfl)
  · rw [if_neg h14]
    refine lv_iload_n hx hb dX7_isMemory_17 rfl (lv_at hl 0 rfl) ?_
    refine lv_ldc (v := 65536) hx hb hown (hts _ (List.mem_of_getElem? (i := 2) rfl)) dX7_isMemory_18 ?_
    refine lv_icmp_ge (tgt := 27) hx hb dX7_isMemory_20 (by decide) (fun h20 => ?_) (fun h20 => ?_)
    · rw [if_pos h20]
      refine lv_iconst (v := 0) hx hb dX7_isMemory_27 (by decide) ?_
      exact retZ C w dX7_isMemory_28 (Or.inl rfl)
    · rw [if_neg h20]
      refine lv_iconst (v := 1) hx hb dX7_isMemory_23 (by decide) ?_
      refine lv_goto (tgt := 28) hx hb dX7_isMemory_24 (by decide) ?_
      exact retZ C w dX7_isMemory_28 (Or.inr rfl)
def F_Md_isMemory (x0 : Int32) (mu : Mu) : Int32 := (if x0 < (0 : Int32) then F_Md_isMemory_11 x0 mu else (if x0 < (1024 : Int32) then 1 else F_Md_isMemory_11 x0 mu))
set_option maxHeartbeats 4000000 in
set_option maxRecDepth 100000 in
theorem k_Md_isMemory (C : Cx cX7_isMemory 1 (some .boolean) wsX7_isMemory RX7 A D cA tb p s m args meth c) {mu nu : Mu} {x0 : Int32} {H : Heap} {locs : List Loc} {ls : Array Slot} (w : Wd A D cA ad s nu mu H locs) (hl : lv_has ls 1 [(0, .int x0)]) : W p l e { frames := 0, cells := 0, slots := 0, locals := 0 } s m args below meth c H locs 0 0 (QI A D cA ad below args s (F_Md_isMemory x0 mu) nu mu) (F0 m 0 ls []) := by
  have hx := C.1
  have hb := C.2.1
  have hts := C.2.2.2.2.2.1
  have hown := C.2.2.2.2.1
  unfold F_Md_isMemory
  refine lv_iload_n hx hb dX7_isMemory_0 rfl (lv_at hl 0 rfl) ?_
  refine lv_if_lt (tgt := 11) hx hb dX7_isMemory_1 (by decide) (fun h1 => ?_) (fun h1 => ?_)
  · rw [if_pos h1]
    exact k_Md_isMemory_11 C w (lv_sub hl [0] rfl)
  · rw [if_neg h1]
    refine lv_iload_n hx hb dX7_isMemory_4 rfl (lv_at hl 0 rfl) ?_
    refine lv_sipush (v := 1024) hx hb dX7_isMemory_5 (by decide) ?_
    refine lv_icmp_lt (tgt := 23) hx hb dX7_isMemory_8 (by decide) (fun h8 => ?_) (fun h8 => ?_)
    · rw [if_pos h8]
      refine lv_iconst (v := 1) hx hb dX7_isMemory_23 (by decide) ?_
      refine lv_goto (tgt := 28) hx hb dX7_isMemory_24 (by decide) ?_
      exact retZ C w dX7_isMemory_28 (Or.inr rfl)
    · rw [if_neg h8]
      exact k_Md_isMemory_11 C w (lv_sub hl [0] rfl)
set_option maxHeartbeats 4000000 in
set_option maxRecDepth 100000 in
theorem c_Md_isMemory (l : Launch) (A : Nat → Prop) (D : va_G) (cA : Nat → ClassId) (tb : Nat) (ad : Nat → Nat) (mu nu : Mu) (x0 : Int32) : Met l yX7_isMemory wsX7_isMemory ({ frames := 0, cells := 0, slots := 0, locals := 0 }) (va_Pc [.int x0] (Pw A D cA tb ad nu mu)) (va_Qi (fun (r : Int32) (u : Mu × Mu) => r = F_Md_isMemory x0 mu ∧ u = (nu, mu)) (Bw A D cA ad) A) 0 0 A := by
  refine Met.ofW (cc := cX7_isMemory) (maxL := 1) (ret := (some .boolean)) (by decide) rfl ?_
  intro p e s m args below meth c s₁ B hml hv
  obtain ⟨rfl, w0⟩ := hv
  have C : Cx cX7_isMemory 1 (some .boolean) wsX7_isMemory RX7 A D cA tb p s m _ meth c := ⟨B.exec, B.bytes, B.returns, hml, findClass_of_methodNamed B.named, atoms_spec (ws := wsX7_isMemory) B.pre, B.notSynchronized, w0.2.1, w0.2.2.2.1, w0.2.2.2.2⟩
  have hl := lv_entry ([.int x0]) (n := 1) (Nat.le_of_ble_eq_true rfl)
  rw [lg_entry_eq]
  exact k_Md_isMemory C w0.wd hl
theorem mem_of {x : Int32} {mu : Mu} (h : ¬ F_Md_isMemory x mu = 0) : isM x := by
  have e0 : (0 : Int32).toInt = 0 := by decide
  have e1 : (1024 : Int32).toInt = 1024 := by decide
  have e2 : (64512 : Int32).toInt = 64512 := by decide
  have e3 : (65536 : Int32).toInt = 65536 := by decide
  unfold F_Md_isMemory at h
  simp only [F_Md_isMemory_11] at h
  unfold isM
  repeat' split at h
  all_goals first | exact absurd rfl h | (simp only [i_lt, i_le, e0, e1, e2, e3] at *; omega)
def F_Md_put_83d (x1 : Int32) (x2 : Int32) (mu : Mu) : Int32 × Mu := ((1 : Int32), mu)
set_option maxHeartbeats 4000000 in
set_option maxRecDepth 100000 in
theorem k_Md_put_83d (C : Cx cX7_put 6 (some .boolean) wsX7_put RX7 A D cA tb p s m args meth c) {mu nu : Mu} {x1 : Int32} {x2 : Int32} {H : Heap} {locs : List Loc} {ls : Array Slot} (w : Wd A D cA ad s nu mu H locs) (hl : lv_has ls 6 [(0, .ref (ad 12)), (1, .int x1), (2, .int x2), (3, .int (3 : Int32))]) (hM : isM (x1 + (1 : Int32)) ∧ isM (x1 + (2 : Int32)) ∧ isM (x1 + (3 : Int32))) : W p l e { frames := 1, cells := 0, slots := 0, locals := 20 } s m args below meth c H locs 0 0 (QI A D cA ad below args s (F_Md_put_83d x1 x2 mu).1 nu (F_Md_put_83d x1 x2 mu).2) (F0 m 83 ls []) := by
  have hx := C.1
  have hb := C.2.1
  have hts := C.2.2.2.2.2.1
  have hown := C.2.2.2.2.1
  unfold F_Md_put_83d
  refine lv_iinc (v := (4 : Int32)) (lv' := [(3, .int (4 : Int32)), (0, .ref (ad 12)), (1, .int x1), (2, .int x2)]) hx hb dX7_put_83 hl (k := 3) rfl (by first | rfl | decide) (by decide) rfl (fun ls hl => ?_)
  refine lv_goto (tgt := 26) hx hb dX7_put_86 (by decide) ?_
  refine lv_iload_n hx hb dX7_put_26 rfl (lv_at hl 0 rfl) ?_
  refine lv_iconst (v := 4) hx hb dX7_put_27 (by decide) ?_
  refine lv_icmp_ge (tgt := 89) hx hb dX7_put_28 (by decide) (fun h28 => ?_) (fun h28 => ?_)
  · refine lv_iconst (v := 1) hx hb dX7_put_89 (by decide) ?_
    exact retZ C w dX7_put_90 (Or.inr rfl)
  · exact absurd h28 (by decide)
def F_Md_put_83c (x1 : Int32) (x2 : Int32) (mu : Mu) : Int32 × Mu := (if (1024 : Int32) ≤ (x1 + (3 : Int32)) then F_Md_put_83d x1 x2 (ps mu 14 ((x1 + (3 : Int32)) - (64512 : Int32)).toNatClampNeg ((x2 >>> (((24 : Int32) - ((8 : Int32) * (3 : Int32))) &&& 31)) &&& (255 : Int32))) else F_Md_put_83d x1 x2 (ps mu 13 (x1 + (3 : Int32)).toNatClampNeg ((x2 >>> (((24 : Int32) - ((8 : Int32) * (3 : Int32))) &&& 31)) &&& (255 : Int32))))
set_option maxHeartbeats 4000000 in
set_option maxRecDepth 100000 in
theorem k_Md_put_83c (C : Cx cX7_put 6 (some .boolean) wsX7_put RX7 A D cA tb p s m args meth c) {mu nu : Mu} {x1 : Int32} {x2 : Int32} {H : Heap} {locs : List Loc} {ls : Array Slot} (w : Wd A D cA ad s nu mu H locs) (hl : lv_has ls 6 [(0, .ref (ad 12)), (1, .int x1), (2, .int x2), (3, .int (2 : Int32))]) (hM : isM (x1 + (1 : Int32)) ∧ isM (x1 + (2 : Int32)) ∧ isM (x1 + (3 : Int32))) : W p l e { frames := 1, cells := 0, slots := 0, locals := 20 } s m args below meth c H locs 0 0 (QI A D cA ad below args s (F_Md_put_83c x1 x2 mu).1 nu (F_Md_put_83c x1 x2 mu).2) (F0 m 83 ls []) := by
  have hx := C.1
  have hb := C.2.1
  have hts := C.2.2.2.2.2.1
  have hown := C.2.2.2.2.1
  unfold F_Md_put_83c
  refine lv_iinc (v := (3 : Int32)) (lv' := [(3, .int (3 : Int32)), (0, .ref (ad 12)), (1, .int x1), (2, .int x2)]) hx hb dX7_put_83 hl (k := 3) rfl (by first | rfl | decide) (by decide) rfl (fun ls hl => ?_)
  refine lv_goto (tgt := 26) hx hb dX7_put_86 (by decide) ?_
  refine lv_iload_n hx hb dX7_put_26 rfl (lv_at hl 0 rfl) ?_
  refine lv_iconst (v := 4) hx hb dX7_put_27 (by decide) ?_
  refine lv_icmp_ge (tgt := 89) hx hb dX7_put_28 (by decide) (fun h28 => ?_) (fun h28 => ?_)
  · exact absurd h28 (by decide)
  · refine lv_iload_n hx hb dX7_put_31 rfl (lv_at hl 2 rfl) ?_
    refine lv_iload_n hx hb dX7_put_32 rfl (lv_at hl 0 rfl) ?_
    refine lv_iadd hx hb dX7_put_33 ?_
    refine lv_istore (lv' := [(4, .int ((x1 + (3 : Int32)))), (3, .int (3 : Int32)), (0, .ref (ad 12)), (1, .int x1), (2, .int x2)]) hx hb dX7_put_34 hl (by decide) rfl (fun ls hl => ?_)
    refine lv_iload_n hx hb dX7_put_36 rfl (lv_at hl 4 rfl) ?_
    refine lv_bipush (v := 24) hx hb dX7_put_37 (by decide) ?_
    refine lv_bipush (v := 8) hx hb dX7_put_39 (by decide) ?_
    refine lv_iload_n hx hb dX7_put_41 rfl (lv_at hl 1 rfl) ?_
    refine lv_imul hx hb dX7_put_42 ?_
    refine lv_isub hx hb dX7_put_43 ?_
    refine lv_ishr hx hb dX7_put_44 ?_
    refine lv_sipush (v := 255) hx hb dX7_put_45 (by decide) ?_
    refine lv_iand hx hb dX7_put_48 ?_
    refine lv_istore (lv' := [(5, .int (((x2 >>> (((24 : Int32) - ((8 : Int32) * (3 : Int32))) &&& 31)) &&& (255 : Int32)))), (4, .int ((x1 + (3 : Int32)))), (3, .int (3 : Int32)), (0, .ref (ad 12)), (1, .int x1), (2, .int x2)]) hx hb dX7_put_49 hl (by decide) rfl (fun ls hl => ?_)
    refine lv_iload hx hb dX7_put_51 (lv_at hl 1 rfl) ?_
    refine lv_sipush (v := 1024) hx hb dX7_put_53 (by decide) ?_
    refine lv_icmp_ge (tgt := 71) hx hb dX7_put_56 (by decide) (fun h56 => ?_) (fun h56 => ?_)
    · rw [if_pos h56]
      refine lv_aload_n hx hb dX7_put_71 rfl (lv_at hl 3 rfl) ?_
      refine gt_12_1 C (fun _ h => List.mem_cons_of_mem _ (List.mem_append_right _ h)) (hts _ (List.mem_of_getElem? (i := 2) rfl)) w dX7_put_72 ?_
      refine lv_iload hx hb dX7_put_75 (lv_at hl 1 rfl) ?_
      refine lv_ldc (v := 64512) hx hb hown (hts _ (List.mem_of_getElem? (i := 3) rfl)) dX7_put_77 ?_
      refine lv_isub hx hb dX7_put_79 ?_
      refine lv_iload hx hb dX7_put_80 (lv_at hl 0 rfl) ?_
      refine is_14 C w (isM_hi hM.2.2 h56) dX7_put_82 (fun H locs w => ?_)
      exact k_Md_put_83d C w (lv_sub hl [3, 4, 5, 2] rfl) hM
    · rw [if_neg h56]
      refine lv_aload_n hx hb dX7_put_59 rfl (lv_at hl 3 rfl) ?_
      refine gt_12_0 C (fun _ h => List.mem_cons_of_mem _ (List.mem_append_right _ h)) (hts _ (List.mem_of_getElem? (i := 1) rfl)) w dX7_put_60 ?_
      refine lv_iload hx hb dX7_put_63 (lv_at hl 1 rfl) ?_
      refine lv_iload hx hb dX7_put_65 (lv_at hl 0 rfl) ?_
      refine is_13 C w (isM_lo hM.2.2 h56) dX7_put_67 (fun H locs w => ?_)
      refine lv_goto (tgt := 83) hx hb dX7_put_68 (by decide) ?_
      exact k_Md_put_83d C w (lv_sub hl [3, 4, 5, 2] rfl) hM
def F_Md_put_83b (x1 : Int32) (x2 : Int32) (mu : Mu) : Int32 × Mu := (if (1024 : Int32) ≤ (x1 + (2 : Int32)) then F_Md_put_83c x1 x2 (ps mu 14 ((x1 + (2 : Int32)) - (64512 : Int32)).toNatClampNeg ((x2 >>> (((24 : Int32) - ((8 : Int32) * (2 : Int32))) &&& 31)) &&& (255 : Int32))) else F_Md_put_83c x1 x2 (ps mu 13 (x1 + (2 : Int32)).toNatClampNeg ((x2 >>> (((24 : Int32) - ((8 : Int32) * (2 : Int32))) &&& 31)) &&& (255 : Int32))))
set_option maxHeartbeats 4000000 in
set_option maxRecDepth 100000 in
theorem k_Md_put_83b (C : Cx cX7_put 6 (some .boolean) wsX7_put RX7 A D cA tb p s m args meth c) {mu nu : Mu} {x1 : Int32} {x2 : Int32} {H : Heap} {locs : List Loc} {ls : Array Slot} (w : Wd A D cA ad s nu mu H locs) (hl : lv_has ls 6 [(0, .ref (ad 12)), (1, .int x1), (2, .int x2), (3, .int (1 : Int32))]) (hM : isM (x1 + (1 : Int32)) ∧ isM (x1 + (2 : Int32)) ∧ isM (x1 + (3 : Int32))) : W p l e { frames := 1, cells := 0, slots := 0, locals := 20 } s m args below meth c H locs 0 0 (QI A D cA ad below args s (F_Md_put_83b x1 x2 mu).1 nu (F_Md_put_83b x1 x2 mu).2) (F0 m 83 ls []) := by
  have hx := C.1
  have hb := C.2.1
  have hts := C.2.2.2.2.2.1
  have hown := C.2.2.2.2.1
  unfold F_Md_put_83b
  refine lv_iinc (v := (2 : Int32)) (lv' := [(3, .int (2 : Int32)), (0, .ref (ad 12)), (1, .int x1), (2, .int x2)]) hx hb dX7_put_83 hl (k := 3) rfl (by first | rfl | decide) (by decide) rfl (fun ls hl => ?_)
  refine lv_goto (tgt := 26) hx hb dX7_put_86 (by decide) ?_
  refine lv_iload_n hx hb dX7_put_26 rfl (lv_at hl 0 rfl) ?_
  refine lv_iconst (v := 4) hx hb dX7_put_27 (by decide) ?_
  refine lv_icmp_ge (tgt := 89) hx hb dX7_put_28 (by decide) (fun h28 => ?_) (fun h28 => ?_)
  · exact absurd h28 (by decide)
  · refine lv_iload_n hx hb dX7_put_31 rfl (lv_at hl 2 rfl) ?_
    refine lv_iload_n hx hb dX7_put_32 rfl (lv_at hl 0 rfl) ?_
    refine lv_iadd hx hb dX7_put_33 ?_
    refine lv_istore (lv' := [(4, .int ((x1 + (2 : Int32)))), (3, .int (2 : Int32)), (0, .ref (ad 12)), (1, .int x1), (2, .int x2)]) hx hb dX7_put_34 hl (by decide) rfl (fun ls hl => ?_)
    refine lv_iload_n hx hb dX7_put_36 rfl (lv_at hl 4 rfl) ?_
    refine lv_bipush (v := 24) hx hb dX7_put_37 (by decide) ?_
    refine lv_bipush (v := 8) hx hb dX7_put_39 (by decide) ?_
    refine lv_iload_n hx hb dX7_put_41 rfl (lv_at hl 1 rfl) ?_
    refine lv_imul hx hb dX7_put_42 ?_
    refine lv_isub hx hb dX7_put_43 ?_
    refine lv_ishr hx hb dX7_put_44 ?_
    refine lv_sipush (v := 255) hx hb dX7_put_45 (by decide) ?_
    refine lv_iand hx hb dX7_put_48 ?_
    refine lv_istore (lv' := [(5, .int (((x2 >>> (((24 : Int32) - ((8 : Int32) * (2 : Int32))) &&& 31)) &&& (255 : Int32)))), (4, .int ((x1 + (2 : Int32)))), (3, .int (2 : Int32)), (0, .ref (ad 12)), (1, .int x1), (2, .int x2)]) hx hb dX7_put_49 hl (by decide) rfl (fun ls hl => ?_)
    refine lv_iload hx hb dX7_put_51 (lv_at hl 1 rfl) ?_
    refine lv_sipush (v := 1024) hx hb dX7_put_53 (by decide) ?_
    refine lv_icmp_ge (tgt := 71) hx hb dX7_put_56 (by decide) (fun h56 => ?_) (fun h56 => ?_)
    · rw [if_pos h56]
      refine lv_aload_n hx hb dX7_put_71 rfl (lv_at hl 3 rfl) ?_
      refine gt_12_1 C (fun _ h => List.mem_cons_of_mem _ (List.mem_append_right _ h)) (hts _ (List.mem_of_getElem? (i := 2) rfl)) w dX7_put_72 ?_
      refine lv_iload hx hb dX7_put_75 (lv_at hl 1 rfl) ?_
      refine lv_ldc (v := 64512) hx hb hown (hts _ (List.mem_of_getElem? (i := 3) rfl)) dX7_put_77 ?_
      refine lv_isub hx hb dX7_put_79 ?_
      refine lv_iload hx hb dX7_put_80 (lv_at hl 0 rfl) ?_
      refine is_14 C w (isM_hi hM.2.1 h56) dX7_put_82 (fun H locs w => ?_)
      exact k_Md_put_83c C w (lv_sub hl [3, 4, 5, 2] rfl) hM
    · rw [if_neg h56]
      refine lv_aload_n hx hb dX7_put_59 rfl (lv_at hl 3 rfl) ?_
      refine gt_12_0 C (fun _ h => List.mem_cons_of_mem _ (List.mem_append_right _ h)) (hts _ (List.mem_of_getElem? (i := 1) rfl)) w dX7_put_60 ?_
      refine lv_iload hx hb dX7_put_63 (lv_at hl 1 rfl) ?_
      refine lv_iload hx hb dX7_put_65 (lv_at hl 0 rfl) ?_
      refine is_13 C w (isM_lo hM.2.1 h56) dX7_put_67 (fun H locs w => ?_)
      refine lv_goto (tgt := 83) hx hb dX7_put_68 (by decide) ?_
      exact k_Md_put_83c C w (lv_sub hl [3, 4, 5, 2] rfl) hM
def F_Md_put_83a (x1 : Int32) (x2 : Int32) (mu : Mu) : Int32 × Mu := (if (1024 : Int32) ≤ (x1 + (1 : Int32)) then F_Md_put_83b x1 x2 (ps mu 14 ((x1 + (1 : Int32)) - (64512 : Int32)).toNatClampNeg ((x2 >>> (((24 : Int32) - ((8 : Int32) * (1 : Int32))) &&& 31)) &&& (255 : Int32))) else F_Md_put_83b x1 x2 (ps mu 13 (x1 + (1 : Int32)).toNatClampNeg ((x2 >>> (((24 : Int32) - ((8 : Int32) * (1 : Int32))) &&& 31)) &&& (255 : Int32))))
set_option maxHeartbeats 4000000 in
set_option maxRecDepth 100000 in
theorem k_Md_put_83a (C : Cx cX7_put 6 (some .boolean) wsX7_put RX7 A D cA tb p s m args meth c) {mu nu : Mu} {x1 : Int32} {x2 : Int32} {H : Heap} {locs : List Loc} {ls : Array Slot} (w : Wd A D cA ad s nu mu H locs) (hl : lv_has ls 6 [(0, .ref (ad 12)), (1, .int x1), (2, .int x2), (3, .int (0 : Int32))]) (hM : isM (x1 + (1 : Int32)) ∧ isM (x1 + (2 : Int32)) ∧ isM (x1 + (3 : Int32))) : W p l e { frames := 1, cells := 0, slots := 0, locals := 20 } s m args below meth c H locs 0 0 (QI A D cA ad below args s (F_Md_put_83a x1 x2 mu).1 nu (F_Md_put_83a x1 x2 mu).2) (F0 m 83 ls []) := by
  have hx := C.1
  have hb := C.2.1
  have hts := C.2.2.2.2.2.1
  have hown := C.2.2.2.2.1
  unfold F_Md_put_83a
  refine lv_iinc (v := (1 : Int32)) (lv' := [(3, .int (1 : Int32)), (0, .ref (ad 12)), (1, .int x1), (2, .int x2)]) hx hb dX7_put_83 hl (k := 3) rfl (by first | rfl | decide) (by decide) rfl (fun ls hl => ?_)
  refine lv_goto (tgt := 26) hx hb dX7_put_86 (by decide) ?_
  refine lv_iload_n hx hb dX7_put_26 rfl (lv_at hl 0 rfl) ?_
  refine lv_iconst (v := 4) hx hb dX7_put_27 (by decide) ?_
  refine lv_icmp_ge (tgt := 89) hx hb dX7_put_28 (by decide) (fun h28 => ?_) (fun h28 => ?_)
  · exact absurd h28 (by decide)
  · refine lv_iload_n hx hb dX7_put_31 rfl (lv_at hl 2 rfl) ?_
    refine lv_iload_n hx hb dX7_put_32 rfl (lv_at hl 0 rfl) ?_
    refine lv_iadd hx hb dX7_put_33 ?_
    refine lv_istore (lv' := [(4, .int ((x1 + (1 : Int32)))), (3, .int (1 : Int32)), (0, .ref (ad 12)), (1, .int x1), (2, .int x2)]) hx hb dX7_put_34 hl (by decide) rfl (fun ls hl => ?_)
    refine lv_iload_n hx hb dX7_put_36 rfl (lv_at hl 4 rfl) ?_
    refine lv_bipush (v := 24) hx hb dX7_put_37 (by decide) ?_
    refine lv_bipush (v := 8) hx hb dX7_put_39 (by decide) ?_
    refine lv_iload_n hx hb dX7_put_41 rfl (lv_at hl 1 rfl) ?_
    refine lv_imul hx hb dX7_put_42 ?_
    refine lv_isub hx hb dX7_put_43 ?_
    refine lv_ishr hx hb dX7_put_44 ?_
    refine lv_sipush (v := 255) hx hb dX7_put_45 (by decide) ?_
    refine lv_iand hx hb dX7_put_48 ?_
    refine lv_istore (lv' := [(5, .int (((x2 >>> (((24 : Int32) - ((8 : Int32) * (1 : Int32))) &&& 31)) &&& (255 : Int32)))), (4, .int ((x1 + (1 : Int32)))), (3, .int (1 : Int32)), (0, .ref (ad 12)), (1, .int x1), (2, .int x2)]) hx hb dX7_put_49 hl (by decide) rfl (fun ls hl => ?_)
    refine lv_iload hx hb dX7_put_51 (lv_at hl 1 rfl) ?_
    refine lv_sipush (v := 1024) hx hb dX7_put_53 (by decide) ?_
    refine lv_icmp_ge (tgt := 71) hx hb dX7_put_56 (by decide) (fun h56 => ?_) (fun h56 => ?_)
    · rw [if_pos h56]
      refine lv_aload_n hx hb dX7_put_71 rfl (lv_at hl 3 rfl) ?_
      refine gt_12_1 C (fun _ h => List.mem_cons_of_mem _ (List.mem_append_right _ h)) (hts _ (List.mem_of_getElem? (i := 2) rfl)) w dX7_put_72 ?_
      refine lv_iload hx hb dX7_put_75 (lv_at hl 1 rfl) ?_
      refine lv_ldc (v := 64512) hx hb hown (hts _ (List.mem_of_getElem? (i := 3) rfl)) dX7_put_77 ?_
      refine lv_isub hx hb dX7_put_79 ?_
      refine lv_iload hx hb dX7_put_80 (lv_at hl 0 rfl) ?_
      refine is_14 C w (isM_hi hM.1 h56) dX7_put_82 (fun H locs w => ?_)
      exact k_Md_put_83b C w (lv_sub hl [3, 4, 5, 2] rfl) hM
    · rw [if_neg h56]
      refine lv_aload_n hx hb dX7_put_59 rfl (lv_at hl 3 rfl) ?_
      refine gt_12_0 C (fun _ h => List.mem_cons_of_mem _ (List.mem_append_right _ h)) (hts _ (List.mem_of_getElem? (i := 1) rfl)) w dX7_put_60 ?_
      refine lv_iload hx hb dX7_put_63 (lv_at hl 1 rfl) ?_
      refine lv_iload hx hb dX7_put_65 (lv_at hl 0 rfl) ?_
      refine is_13 C w (isM_lo hM.1 h56) dX7_put_67 (fun H locs w => ?_)
      refine lv_goto (tgt := 83) hx hb dX7_put_68 (by decide) ?_
      exact k_Md_put_83b C w (lv_sub hl [3, 4, 5, 2] rfl) hM
def F_Md_put (x1 : Int32) (x2 : Int32) (mu : Mu) : Int32 × Mu := (if (F_Md_isMemory (x1 + (0 : Int32)) mu) = (0 : Int32) then ((0 : Int32), mu) else (if (F_Md_isMemory (x1 + (1 : Int32)) mu) = (0 : Int32) then ((0 : Int32), mu) else (if (F_Md_isMemory (x1 + (2 : Int32)) mu) = (0 : Int32) then ((0 : Int32), mu) else (if (F_Md_isMemory (x1 + (3 : Int32)) mu) = (0 : Int32) then ((0 : Int32), mu) else (if (1024 : Int32) ≤ (x1 + (0 : Int32)) then F_Md_put_83a x1 x2 (ps mu 14 ((x1 + (0 : Int32)) - (64512 : Int32)).toNatClampNeg ((x2 >>> (((24 : Int32) - ((8 : Int32) * (0 : Int32))) &&& 31)) &&& (255 : Int32))) else F_Md_put_83a x1 x2 (ps mu 13 (x1 + (0 : Int32)).toNatClampNeg ((x2 >>> (((24 : Int32) - ((8 : Int32) * (0 : Int32))) &&& 31)) &&& (255 : Int32))))))))
set_option maxHeartbeats 4000000 in
set_option maxRecDepth 100000 in
theorem k_Md_put (C : Cx cX7_put 6 (some .boolean) wsX7_put RX7 A D cA tb p s m args meth c) {mu nu : Mu} {x1 : Int32} {x2 : Int32} {H : Heap} {locs : List Loc} {ls : Array Slot} (w : Wd A D cA ad s nu mu H locs) (hl : lv_has ls 6 [(0, .ref (ad 12)), (1, .int x1), (2, .int x2)]) : W p l e { frames := 1, cells := 0, slots := 0, locals := 20 } s m args below meth c H locs 0 0 (QI A D cA ad below args s (F_Md_put x1 x2 mu).1 nu (F_Md_put x1 x2 mu).2) (F0 m 0 ls []) := by
  have hx := C.1
  have hb := C.2.1
  have hts := C.2.2.2.2.2.1
  have hown := C.2.2.2.2.1
  unfold F_Md_put
  refine lv_iconst (v := 0) hx hb dX7_put_0 (by decide) ?_
  refine lv_istore_n (lv' := [(3, .int (0 : Int32)), (0, .ref (ad 12)), (1, .int x1), (2, .int x2)]) hx hb dX7_put_1 rfl hl (by decide) rfl (fun ls hl => ?_)
  refine lv_iload_n hx hb dX7_put_2 rfl (lv_at hl 0 rfl) ?_
  refine lv_iconst (v := 4) hx hb dX7_put_3 (by decide) ?_
  refine lv_icmp_ge (tgt := 24) hx hb dX7_put_4 (by decide) (fun h4 => ?_) (fun h4 => ?_)
  · exact absurd h4 (by decide)
  · refine lv_iload_n hx hb dX7_put_7 rfl (lv_at hl 2 rfl) ?_
    refine lv_iload_n hx hb dX7_put_8 rfl (lv_at hl 0 rfl) ?_
    refine lv_iadd hx hb dX7_put_9 ?_
    refine kcIS (As := [.int ((x1 + (0 : Int32)))]) (rest := []) C w (c_Md_isMemory l A D cA tb ad mu nu (x1 + (0 : Int32))) (va_cwS 1 hts gX7_put_X7_isMemory rfl rfl rfl (by decide +kernel) ⟨Nat.le_of_ble_eq_true rfl, Nat.le_of_ble_eq_true rfl⟩) rfl rfl hl.1 (Nat.le_of_ble_eq_true rfl) dX7_put_10 (fun H locs w => ?_)
    refine lv_if_ne (tgt := 18) hx hb dX7_put_13 (by decide) (fun h13 => ?_) (fun h13 => ?_)
    · rw [if_neg h13]
      refine lv_iinc (v := (1 : Int32)) (lv' := [(3, .int (1 : Int32)), (0, .ref (ad 12)), (1, .int x1), (2, .int x2)]) hx hb dX7_put_18 hl (k := 0) rfl (by first | rfl | decide) (by decide) rfl (fun ls hl => ?_)
      refine lv_goto (tgt := 2) hx hb dX7_put_21 (by decide) ?_
      refine lv_iload_n hx hb dX7_put_2 rfl (lv_at hl 0 rfl) ?_
      refine lv_iconst (v := 4) hx hb dX7_put_3 (by decide) ?_
      refine lv_icmp_ge (tgt := 24) hx hb dX7_put_4 (by decide) (fun h4_1 => ?_) (fun h4_1 => ?_)
      · exact absurd h4_1 (by decide)
      · refine lv_iload_n hx hb dX7_put_7 rfl (lv_at hl 2 rfl) ?_
        refine lv_iload_n hx hb dX7_put_8 rfl (lv_at hl 0 rfl) ?_
        refine lv_iadd hx hb dX7_put_9 ?_
        refine kcIS (As := [.int ((x1 + (1 : Int32)))]) (rest := []) C w (c_Md_isMemory l A D cA tb ad mu nu (x1 + (1 : Int32))) (va_cwS 1 hts gX7_put_X7_isMemory rfl rfl rfl (by decide +kernel) ⟨Nat.le_of_ble_eq_true rfl, Nat.le_of_ble_eq_true rfl⟩) rfl rfl hl.1 (Nat.le_of_ble_eq_true rfl) dX7_put_10 (fun H locs w => ?_)
        refine lv_if_ne (tgt := 18) hx hb dX7_put_13 (by decide) (fun h13_1 => ?_) (fun h13_1 => ?_)
        · rw [if_neg h13_1]
          refine lv_iinc (v := (2 : Int32)) (lv' := [(3, .int (2 : Int32)), (0, .ref (ad 12)), (1, .int x1), (2, .int x2)]) hx hb dX7_put_18 hl (k := 0) rfl (by first | rfl | decide) (by decide) rfl (fun ls hl => ?_)
          refine lv_goto (tgt := 2) hx hb dX7_put_21 (by decide) ?_
          refine lv_iload_n hx hb dX7_put_2 rfl (lv_at hl 0 rfl) ?_
          refine lv_iconst (v := 4) hx hb dX7_put_3 (by decide) ?_
          refine lv_icmp_ge (tgt := 24) hx hb dX7_put_4 (by decide) (fun h4_2 => ?_) (fun h4_2 => ?_)
          · exact absurd h4_2 (by decide)
          · refine lv_iload_n hx hb dX7_put_7 rfl (lv_at hl 2 rfl) ?_
            refine lv_iload_n hx hb dX7_put_8 rfl (lv_at hl 0 rfl) ?_
            refine lv_iadd hx hb dX7_put_9 ?_
            refine kcIS (As := [.int ((x1 + (2 : Int32)))]) (rest := []) C w (c_Md_isMemory l A D cA tb ad mu nu (x1 + (2 : Int32))) (va_cwS 1 hts gX7_put_X7_isMemory rfl rfl rfl (by decide +kernel) ⟨Nat.le_of_ble_eq_true rfl, Nat.le_of_ble_eq_true rfl⟩) rfl rfl hl.1 (Nat.le_of_ble_eq_true rfl) dX7_put_10 (fun H locs w => ?_)
            refine lv_if_ne (tgt := 18) hx hb dX7_put_13 (by decide) (fun h13_2 => ?_) (fun h13_2 => ?_)
            · rw [if_neg h13_2]
              refine lv_iinc (v := (3 : Int32)) (lv' := [(3, .int (3 : Int32)), (0, .ref (ad 12)), (1, .int x1), (2, .int x2)]) hx hb dX7_put_18 hl (k := 0) rfl (by first | rfl | decide) (by decide) rfl (fun ls hl => ?_)
              refine lv_goto (tgt := 2) hx hb dX7_put_21 (by decide) ?_
              refine lv_iload_n hx hb dX7_put_2 rfl (lv_at hl 0 rfl) ?_
              refine lv_iconst (v := 4) hx hb dX7_put_3 (by decide) ?_
              refine lv_icmp_ge (tgt := 24) hx hb dX7_put_4 (by decide) (fun h4_3 => ?_) (fun h4_3 => ?_)
              · exact absurd h4_3 (by decide)
              · refine lv_iload_n hx hb dX7_put_7 rfl (lv_at hl 2 rfl) ?_
                refine lv_iload_n hx hb dX7_put_8 rfl (lv_at hl 0 rfl) ?_
                refine lv_iadd hx hb dX7_put_9 ?_
                refine kcIS (As := [.int ((x1 + (3 : Int32)))]) (rest := []) C w (c_Md_isMemory l A D cA tb ad mu nu (x1 + (3 : Int32))) (va_cwS 1 hts gX7_put_X7_isMemory rfl rfl rfl (by decide +kernel) ⟨Nat.le_of_ble_eq_true rfl, Nat.le_of_ble_eq_true rfl⟩) rfl rfl hl.1 (Nat.le_of_ble_eq_true rfl) dX7_put_10 (fun H locs w => ?_)
                refine lv_if_ne (tgt := 18) hx hb dX7_put_13 (by decide) (fun h13_3 => ?_) (fun h13_3 => ?_)
                · rw [if_neg h13_3]
                  refine lv_iinc (v := (4 : Int32)) (lv' := [(3, .int (4 : Int32)), (0, .ref (ad 12)), (1, .int x1), (2, .int x2)]) hx hb dX7_put_18 hl (k := 0) rfl (by first | rfl | decide) (by decide) rfl (fun ls hl => ?_)
                  refine lv_goto (tgt := 2) hx hb dX7_put_21 (by decide) ?_
                  refine lv_iload_n hx hb dX7_put_2 rfl (lv_at hl 0 rfl) ?_
                  refine lv_iconst (v := 4) hx hb dX7_put_3 (by decide) ?_
                  refine lv_icmp_ge (tgt := 24) hx hb dX7_put_4 (by decide) (fun h4_4 => ?_) (fun h4_4 => ?_)
                  · refine lv_iconst (v := 0) hx hb dX7_put_24 (by decide) ?_
                    refine lv_istore_n (lv' := [(3, .int (0 : Int32)), (0, .ref (ad 12)), (1, .int x1), (2, .int x2)]) hx hb dX7_put_25 rfl hl (by decide) rfl (fun ls hl => ?_)
                    refine lv_iload_n hx hb dX7_put_26 rfl (lv_at hl 0 rfl) ?_
                    refine lv_iconst (v := 4) hx hb dX7_put_27 (by decide) ?_
                    refine lv_icmp_ge (tgt := 89) hx hb dX7_put_28 (by decide) (fun h28 => ?_) (fun h28 => ?_)
                    · exact absurd h28 (by decide)
                    · refine lv_iload_n hx hb dX7_put_31 rfl (lv_at hl 2 rfl) ?_
                      refine lv_iload_n hx hb dX7_put_32 rfl (lv_at hl 0 rfl) ?_
                      refine lv_iadd hx hb dX7_put_33 ?_
                      refine lv_istore (lv' := [(4, .int ((x1 + (0 : Int32)))), (3, .int (0 : Int32)), (0, .ref (ad 12)), (1, .int x1), (2, .int x2)]) hx hb dX7_put_34 hl (by decide) rfl (fun ls hl => ?_)
                      refine lv_iload_n hx hb dX7_put_36 rfl (lv_at hl 4 rfl) ?_
                      refine lv_bipush (v := 24) hx hb dX7_put_37 (by decide) ?_
                      refine lv_bipush (v := 8) hx hb dX7_put_39 (by decide) ?_
                      refine lv_iload_n hx hb dX7_put_41 rfl (lv_at hl 1 rfl) ?_
                      refine lv_imul hx hb dX7_put_42 ?_
                      refine lv_isub hx hb dX7_put_43 ?_
                      refine lv_ishr hx hb dX7_put_44 ?_
                      refine lv_sipush (v := 255) hx hb dX7_put_45 (by decide) ?_
                      refine lv_iand hx hb dX7_put_48 ?_
                      refine lv_istore (lv' := [(5, .int (((x2 >>> (((24 : Int32) - ((8 : Int32) * (0 : Int32))) &&& 31)) &&& (255 : Int32)))), (4, .int ((x1 + (0 : Int32)))), (3, .int (0 : Int32)), (0, .ref (ad 12)), (1, .int x1), (2, .int x2)]) hx hb dX7_put_49 hl (by decide) rfl (fun ls hl => ?_)
                      refine lv_iload hx hb dX7_put_51 (lv_at hl 1 rfl) ?_
                      refine lv_sipush (v := 1024) hx hb dX7_put_53 (by decide) ?_
                      refine lv_icmp_ge (tgt := 71) hx hb dX7_put_56 (by decide) (fun h56 => ?_) (fun h56 => ?_)
                      · rw [if_pos h56]
                        refine lv_aload_n hx hb dX7_put_71 rfl (lv_at hl 3 rfl) ?_
                        refine gt_12_1 C (fun _ h => List.mem_cons_of_mem _ (List.mem_append_right _ h)) (hts _ (List.mem_of_getElem? (i := 2) rfl)) w dX7_put_72 ?_
                        refine lv_iload hx hb dX7_put_75 (lv_at hl 1 rfl) ?_
                        refine lv_ldc (v := 64512) hx hb hown (hts _ (List.mem_of_getElem? (i := 3) rfl)) dX7_put_77 ?_
                        refine lv_isub hx hb dX7_put_79 ?_
                        refine lv_iload hx hb dX7_put_80 (lv_at hl 0 rfl) ?_
                        refine is_14 C w (isM_hi (mem_of h13) h56) dX7_put_82 (fun H locs w => ?_)
                        exact k_Md_put_83a C w (lv_sub hl [3, 4, 5, 2] rfl) (⟨mem_of h13_1, mem_of h13_2, mem_of h13_3⟩)
                      · rw [if_neg h56]
                        refine lv_aload_n hx hb dX7_put_59 rfl (lv_at hl 3 rfl) ?_
                        refine gt_12_0 C (fun _ h => List.mem_cons_of_mem _ (List.mem_append_right _ h)) (hts _ (List.mem_of_getElem? (i := 1) rfl)) w dX7_put_60 ?_
                        refine lv_iload hx hb dX7_put_63 (lv_at hl 1 rfl) ?_
                        refine lv_iload hx hb dX7_put_65 (lv_at hl 0 rfl) ?_
                        refine is_13 C w (isM_lo (mem_of h13) h56) dX7_put_67 (fun H locs w => ?_)
                        refine lv_goto (tgt := 83) hx hb dX7_put_68 (by decide) ?_
                        exact k_Md_put_83a C w (lv_sub hl [3, 4, 5, 2] rfl) (⟨mem_of h13_1, mem_of h13_2, mem_of h13_3⟩)
                  · exact absurd h4_4 (by decide)
                · rw [if_pos h13_3]
                  refine lv_iconst (v := 0) hx hb dX7_put_16 (by decide) ?_
                  exact retZ C w dX7_put_17 (Or.inl rfl)
            · rw [if_pos h13_2]
              refine lv_iconst (v := 0) hx hb dX7_put_16 (by decide) ?_
              exact retZ C w dX7_put_17 (Or.inl rfl)
        · rw [if_pos h13_1]
          refine lv_iconst (v := 0) hx hb dX7_put_16 (by decide) ?_
          exact retZ C w dX7_put_17 (Or.inl rfl)
    · rw [if_pos h13]
      refine lv_iconst (v := 0) hx hb dX7_put_16 (by decide) ?_
      exact retZ C w dX7_put_17 (Or.inl rfl)
set_option maxHeartbeats 4000000 in
set_option maxRecDepth 100000 in
theorem c_Md_put (l : Launch) (A : Nat → Prop) (D : va_G) (cA : Nat → ClassId) (tb : Nat) (ad : Nat → Nat) (mu nu : Mu) (x1 : Int32) (x2 : Int32) : Met l yX7_put wsX7_put ({ frames := 1, cells := 0, slots := 0, locals := 20 }) (va_Pc [.ref (ad 12), .int x1, .int x2] (Pw A D cA tb ad nu mu)) (va_Qi (fun (r : Int32) (u : Mu × Mu) => r = (F_Md_put x1 x2 mu).1 ∧ u = (nu, (F_Md_put x1 x2 mu).2)) (Bw A D cA ad) A) 0 0 A := by
  refine Met.ofW (cc := cX7_put) (maxL := 6) (ret := (some .boolean)) (by decide) rfl ?_
  intro p e s m args below meth c s₁ B hml hv
  obtain ⟨rfl, w0⟩ := hv
  have C : Cx cX7_put 6 (some .boolean) wsX7_put RX7 A D cA tb p s m _ meth c := ⟨B.exec, B.bytes, B.returns, hml, findClass_of_methodNamed B.named, atoms_spec (ws := wsX7_put) B.pre, B.notSynchronized, w0.2.1, w0.2.2.2.1, w0.2.2.2.2⟩
  have hl := lv_entry ([.ref (ad 12), .int x1, .int x2]) (n := 6) (Nat.le_of_ble_eq_true rfl)
  rw [lg_entry_eq]
  exact k_Md_put C w0.wd hl
def F_Md_peek (x1 : Int32) (mu : Mu) : Int32 := (if (F_Md_isMemory x1 mu) = (0 : Int32) then (-1 : Int32) else (if (1024 : Int32) ≤ x1 then (mu 14 (x1 - 64512).toNatClampNeg) else (mu 13 x1.toNatClampNeg)))
set_option maxHeartbeats 4000000 in
set_option maxRecDepth 100000 in
theorem k_Md_peek (C : Cx cX7_peek 2 (some .int) wsX7_peek RX7 A D cA tb p s m args meth c) {mu nu : Mu} {x1 : Int32} {H : Heap} {locs : List Loc} {ls : Array Slot} (w : Wd A D cA ad s nu mu H locs) (hl : lv_has ls 2 [(0, .ref (ad 12)), (1, .int x1)]) : W p l e { frames := 1, cells := 0, slots := 0, locals := 20 } s m args below meth c H locs 0 0 (QI A D cA ad below args s (F_Md_peek x1 mu) nu mu) (F0 m 0 ls []) := by
  have hx := C.1
  have hb := C.2.1
  have hts := C.2.2.2.2.2.1
  have hown := C.2.2.2.2.1
  unfold F_Md_peek
  refine lv_iload_n hx hb dX7_peek_0 rfl (lv_at hl 1 rfl) ?_
  refine kcIS (As := [.int x1]) (rest := []) C w (c_Md_isMemory l A D cA tb ad mu nu x1) (va_cwS 1 hts gX7_peek_X7_isMemory rfl rfl rfl (by decide +kernel) ⟨Nat.le_of_ble_eq_true rfl, Nat.le_of_ble_eq_true rfl⟩) rfl rfl hl.1 (Nat.le_of_ble_eq_true rfl) dX7_peek_1 (fun H locs w => ?_)
  refine lv_if_ne (tgt := 11) hx hb dX7_peek_4 (by decide) (fun h4 => ?_) (fun h4 => ?_)
  · rw [if_neg h4]
    refine lv_iload_n hx hb dX7_peek_11 rfl (lv_at hl 1 rfl) ?_
    refine lv_sipush (v := 1024) hx hb dX7_peek_12 (by decide) ?_
    refine lv_icmp_ge (tgt := 27) hx hb dX7_peek_15 (by decide) (fun h15 => ?_) (fun h15 => ?_)
    · rw [if_pos h15]
      refine lv_aload_n hx hb dX7_peek_27 rfl (lv_at hl 0 rfl) ?_
      refine gt_12_1 C (fun _ h => List.mem_cons_of_mem _ (List.mem_append_right _ h)) (hts _ (List.mem_of_getElem? (i := 2) rfl)) w dX7_peek_28 ?_
      refine lv_iload_n hx hb dX7_peek_31 rfl (lv_at hl 1 rfl) ?_
      refine lv_ldc (v := 64512) hx hb hown (hts _ (List.mem_of_getElem? (i := 3) rfl)) dX7_peek_32 ?_
      refine lv_isub hx hb dX7_peek_34 ?_
      refine ia_14 C w (isM_hi (mem_of h4) h15) (v := (mu 14 (x1 - 64512).toNatClampNeg)) rfl dX7_peek_35 ?_
      exact retI C w dX7_peek_36
    · rw [if_neg h15]
      refine lv_aload_n hx hb dX7_peek_18 rfl (lv_at hl 0 rfl) ?_
      refine gt_12_0 C (fun _ h => List.mem_cons_of_mem _ (List.mem_append_right _ h)) (hts _ (List.mem_of_getElem? (i := 1) rfl)) w dX7_peek_19 ?_
      refine lv_iload_n hx hb dX7_peek_22 rfl (lv_at hl 1 rfl) ?_
      refine ia_13 C w (isM_lo (mem_of h4) h15) (v := (mu 13 x1.toNatClampNeg)) rfl dX7_peek_23 ?_
      refine lv_goto (tgt := 36) hx hb dX7_peek_24 (by decide) ?_
      exact retI C w dX7_peek_36
  · rw [if_pos h4]
    refine lv_iconst (v := (-1 : Int32)) hx hb dX7_peek_7 (by decide) ?_
    refine lv_goto (tgt := 36) hx hb dX7_peek_8 (by decide) ?_
    exact retI C w dX7_peek_36
set_option maxHeartbeats 4000000 in
set_option maxRecDepth 100000 in
theorem c_Md_peek (l : Launch) (A : Nat → Prop) (D : va_G) (cA : Nat → ClassId) (tb : Nat) (ad : Nat → Nat) (mu nu : Mu) (x1 : Int32) : Met l yX7_peek wsX7_peek ({ frames := 1, cells := 0, slots := 0, locals := 20 }) (va_Pc [.ref (ad 12), .int x1] (Pw A D cA tb ad nu mu)) (va_Qi (fun (r : Int32) (u : Mu × Mu) => r = F_Md_peek x1 mu ∧ u = (nu, mu)) (Bw A D cA ad) A) 0 0 A := by
  refine Met.ofW (cc := cX7_peek) (maxL := 2) (ret := (some .int)) (by decide) rfl ?_
  intro p e s m args below meth c s₁ B hml hv
  obtain ⟨rfl, w0⟩ := hv
  have C : Cx cX7_peek 2 (some .int) wsX7_peek RX7 A D cA tb p s m _ meth c := ⟨B.exec, B.bytes, B.returns, hml, findClass_of_methodNamed B.named, atoms_spec (ws := wsX7_peek) B.pre, B.notSynchronized, w0.2.1, w0.2.2.2.1, w0.2.2.2.2⟩
  have hl := lv_entry ([.ref (ad 12), .int x1]) (n := 2) (Nat.le_of_ble_eq_true rfl)
  rw [lg_entry_eq]
  exact k_Md_peek C w0.wd hl
def F_Md_answers (x1 : Int32) (mu : Mu) : Int32 := (if ((mu 17 x1.toNatClampNeg) &&& 48) = (32 : Int32) then 1 else 0)
set_option maxHeartbeats 4000000 in
set_option maxRecDepth 100000 in
theorem k_Md_answers (C : Cx cX7_answers 2 (some .boolean) wsX7_answers RX7 A D cA tb p s m args meth c) {mu nu : Mu} {x1 : Int32} {H : Heap} {locs : List Loc} {ls : Array Slot} (w : Wd A D cA ad s nu mu H locs) (hl : lv_has ls 2 [(0, .ref (ad 12)), (1, .int x1)]) (hs : x1 = 0 ∨ x1 = 1) : W p l e { frames := 0, cells := 0, slots := 0, locals := 0 } s m args below meth c H locs 0 0 (QI A D cA ad below args s (F_Md_answers x1 mu) nu mu) (F0 m 0 ls []) := by
  have hx := C.1
  have hb := C.2.1
  have hts := C.2.2.2.2.2.1
  have hown := C.2.2.2.2.1
  unfold F_Md_answers
  refine lv_aload_n hx hb dX7_answers_0 rfl (lv_at hl 0 rfl) ?_
  refine gt_12_12 C (fun _ h => List.mem_cons_of_mem _ (List.mem_append_right _ h)) (hts _ (List.mem_of_getElem? (i := 1) rfl)) w dX7_answers_1 ?_
  refine lv_iload_n hx hb dX7_answers_4 rfl (lv_at hl 1 rfl) ?_
  refine ia_17 C w (v_side hs) (v := (mu 17 x1.toNatClampNeg)) rfl dX7_answers_5 ?_
  refine lv_bipush (v := 48) hx hb dX7_answers_6 (by decide) ?_
  refine lv_iand hx hb dX7_answers_8 ?_
  refine lv_bipush (v := 32) hx hb dX7_answers_9 (by decide) ?_
  refine lv_icmp_ne (tgt := 18) hx hb dX7_answers_11 (by decide) (fun h11 => ?_) (fun h11 => ?_)
  · rw [if_neg h11]
    refine lv_iconst (v := 0) hx hb dX7_answers_18 (by decide) ?_
    exact retZ C w dX7_answers_19 (Or.inl rfl)
  · rw [if_pos h11]
    refine lv_iconst (v := 1) hx hb dX7_answers_14 (by decide) ?_
    refine lv_goto (tgt := 19) hx hb dX7_answers_15 (by decide) ?_
    exact retZ C w dX7_answers_19 (Or.inr rfl)
set_option maxHeartbeats 4000000 in
set_option maxRecDepth 100000 in
theorem c_Md_answers (l : Launch) (A : Nat → Prop) (D : va_G) (cA : Nat → ClassId) (tb : Nat) (ad : Nat → Nat) (mu nu : Mu) (x1 : Int32) (hs : x1 = 0 ∨ x1 = 1) : Met l yX7_answers wsX7_answers ({ frames := 0, cells := 0, slots := 0, locals := 0 }) (va_Pc [.ref (ad 12), .int x1] (Pw A D cA tb ad nu mu)) (va_Qi (fun (r : Int32) (u : Mu × Mu) => r = F_Md_answers x1 mu ∧ u = (nu, mu)) (Bw A D cA ad) A) 0 0 A := by
  refine Met.ofW (cc := cX7_answers) (maxL := 2) (ret := (some .boolean)) (by decide) rfl ?_
  intro p e s m args below meth c s₁ B hml hv
  obtain ⟨rfl, w0⟩ := hv
  have C : Cx cX7_answers 2 (some .boolean) wsX7_answers RX7 A D cA tb p s m _ meth c := ⟨B.exec, B.bytes, B.returns, hml, findClass_of_methodNamed B.named, atoms_spec (ws := wsX7_answers) B.pre, B.notSynchronized, w0.2.1, w0.2.2.2.1, w0.2.2.2.2⟩
  have hl := lv_entry ([.ref (ad 12), .int x1]) (n := 2) (Nat.le_of_ble_eq_true rfl)
  rw [lg_entry_eq]
  exact k_Md_answers C w0.wd hl hs
def F_Md_readSide_48 (x1 : Int32) (mu : Mu) : Int32 × Mu := ((((mu 15 x1.toNatClampNeg) &&& (mu 16 x1.toNatClampNeg)) ||| (((mu 18 x1.toNatClampNeg) &&& ((mu 16 x1.toNatClampNeg) ^^^ (-1 : Int32))) &&& 255)), mu)
set_option maxHeartbeats 4000000 in
set_option maxRecDepth 100000 in
theorem k_Md_readSide_48 (C : Cx cX7_readSide 2 (some .int) wsX7_readSide RX7 A D cA tb p s m args meth c) {mu nu : Mu} {x1 : Int32} {H : Heap} {locs : List Loc} {ls : Array Slot} (w : Wd A D cA ad s nu mu H locs) (hl : lv_has ls 2 [(0, .ref (ad 12)), (1, .int x1)]) (hs : x1 = 0 ∨ x1 = 1) : W p l e { frames := 1, cells := 0, slots := 0, locals := 21 } s m args below meth c H locs 0 0 (QI A D cA ad below args s (F_Md_readSide_48 x1 mu).1 nu (F_Md_readSide_48 x1 mu).2) (F0 m 48 ls []) := by
  have hx := C.1
  have hb := C.2.1
  have hts := C.2.2.2.2.2.1
  have hown := C.2.2.2.2.1
  unfold F_Md_readSide_48
  refine lv_aload_n hx hb dX7_readSide_48 rfl (lv_at hl 0 rfl) ?_
  refine gt_12_10 C (fun _ h => List.mem_cons_of_mem _ (List.mem_append_right _ h)) (hts _ (List.mem_of_getElem? (i := 4) rfl)) w dX7_readSide_49 ?_
  refine lv_iload_n hx hb dX7_readSide_52 rfl (lv_at hl 1 rfl) ?_
  refine ia_15 C w (v_side hs) (v := (mu 15 x1.toNatClampNeg)) rfl dX7_readSide_53 ?_
  refine lv_aload_n hx hb dX7_readSide_54 rfl (lv_at hl 0 rfl) ?_
  refine gt_12_11 C (fun _ h => List.mem_cons_of_mem _ (List.mem_append_right _ h)) (hts _ (List.mem_of_getElem? (i := 2) rfl)) w dX7_readSide_55 ?_
  refine lv_iload_n hx hb dX7_readSide_58 rfl (lv_at hl 1 rfl) ?_
  refine ia_16 C w (v_side hs) (v := (mu 16 x1.toNatClampNeg)) rfl dX7_readSide_59 ?_
  refine lv_iand hx hb dX7_readSide_60 ?_
  refine lv_aload_n hx hb dX7_readSide_61 rfl (lv_at hl 0 rfl) ?_
  refine gt_12_13 C (fun _ h => List.mem_cons_of_mem _ (List.mem_append_right _ h)) (hts _ (List.mem_of_getElem? (i := 5) rfl)) w dX7_readSide_62 ?_
  refine lv_iload_n hx hb dX7_readSide_65 rfl (lv_at hl 1 rfl) ?_
  refine ia_18 C w (v_side hs) (v := (mu 18 x1.toNatClampNeg)) rfl dX7_readSide_66 ?_
  refine lv_aload_n hx hb dX7_readSide_67 rfl (lv_at hl 0 rfl) ?_
  refine gt_12_11 C (fun _ h => List.mem_cons_of_mem _ (List.mem_append_right _ h)) (hts _ (List.mem_of_getElem? (i := 2) rfl)) w dX7_readSide_68 ?_
  refine lv_iload_n hx hb dX7_readSide_71 rfl (lv_at hl 1 rfl) ?_
  refine ia_16 C w (v_side hs) (v := (mu 16 x1.toNatClampNeg)) rfl dX7_readSide_72 ?_
  refine lv_iconst (v := (-1 : Int32)) hx hb dX7_readSide_73 (by decide) ?_
  refine lv_ixor hx hb dX7_readSide_74 ?_
  refine lv_iand hx hb dX7_readSide_75 ?_
  refine lv_sipush (v := 255) hx hb dX7_readSide_76 (by decide) ?_
  refine lv_iand hx hb dX7_readSide_79 ?_
  refine lv_ior hx hb dX7_readSide_80 ?_
  exact retI C w dX7_readSide_81
def F_Md_readSide (x1 : Int32) (mu : Mu) : Int32 × Mu := (if ((mu 17 x1.toNatClampNeg) &&& 4) = (0 : Int32) then ((mu 16 x1.toNatClampNeg), mu) else (if x1 = (0 : Int32) then (if (F_Md_answers 0 (ps mu 17 x1.toNatClampNeg ((mu 17 x1.toNatClampNeg) &&& 63))) = (0 : Int32) then F_Md_readSide_48 x1 (ps mu 17 x1.toNatClampNeg ((mu 17 x1.toNatClampNeg) &&& 63)) else F_Md_readSide_48 x1 (ps (ps mu 17 x1.toNatClampNeg ((mu 17 x1.toNatClampNeg) &&& 63)) 20 (0 : Int32).toNatClampNeg 0)) else F_Md_readSide_48 x1 (ps mu 17 x1.toNatClampNeg ((mu 17 x1.toNatClampNeg) &&& 63))))
set_option maxHeartbeats 4000000 in
set_option maxRecDepth 100000 in
theorem k_Md_readSide (C : Cx cX7_readSide 2 (some .int) wsX7_readSide RX7 A D cA tb p s m args meth c) {mu nu : Mu} {x1 : Int32} {H : Heap} {locs : List Loc} {ls : Array Slot} (w : Wd A D cA ad s nu mu H locs) (hl : lv_has ls 2 [(0, .ref (ad 12)), (1, .int x1)]) (hs : x1 = 0 ∨ x1 = 1) : W p l e { frames := 1, cells := 0, slots := 0, locals := 21 } s m args below meth c H locs 0 0 (QI A D cA ad below args s (F_Md_readSide x1 mu).1 nu (F_Md_readSide x1 mu).2) (F0 m 0 ls []) := by
  have hx := C.1
  have hb := C.2.1
  have hts := C.2.2.2.2.2.1
  have hown := C.2.2.2.2.1
  unfold F_Md_readSide
  refine lv_aload_n hx hb dX7_readSide_0 rfl (lv_at hl 0 rfl) ?_
  refine gt_12_12 C (fun _ h => List.mem_cons_of_mem _ (List.mem_append_right _ h)) (hts _ (List.mem_of_getElem? (i := 1) rfl)) w dX7_readSide_1 ?_
  refine lv_iload_n hx hb dX7_readSide_4 rfl (lv_at hl 1 rfl) ?_
  refine ia_17 C w (v_side hs) (v := (mu 17 x1.toNatClampNeg)) rfl dX7_readSide_5 ?_
  refine lv_iconst (v := 4) hx hb dX7_readSide_6 (by decide) ?_
  refine lv_iand hx hb dX7_readSide_7 ?_
  refine lv_if_ne (tgt := 18) hx hb dX7_readSide_8 (by decide) (fun h8 => ?_) (fun h8 => ?_)
  · rw [if_neg h8]
    refine lv_aload_n hx hb dX7_readSide_18 rfl (lv_at hl 0 rfl) ?_
    refine gt_12_12 C (fun _ h => List.mem_cons_of_mem _ (List.mem_append_right _ h)) (hts _ (List.mem_of_getElem? (i := 1) rfl)) w dX7_readSide_19 ?_
    refine lv_iload_n hx hb dX7_readSide_22 rfl (lv_at hl 1 rfl) ?_
    refine lv_dup2_11 hx hb dX7_readSide_23 rfl rfl ?_
    refine ia_17 C w (v_side hs) (v := (mu 17 x1.toNatClampNeg)) rfl dX7_readSide_24 ?_
    refine lv_bipush (v := 63) hx hb dX7_readSide_25 (by decide) ?_
    refine lv_iand hx hb dX7_readSide_27 ?_
    refine is_17 C w (v_side hs) dX7_readSide_28 (fun H locs w => ?_)
    refine lv_iload_n hx hb dX7_readSide_29 rfl (lv_at hl 1 rfl) ?_
    refine lv_if_ne (tgt := 48) hx hb dX7_readSide_30 (by decide) (fun h30 => ?_) (fun h30 => ?_)
    · rw [if_neg h30]
      exact k_Md_readSide_48 C w (lv_sub hl [0, 1] rfl) hs
    · rw [if_pos h30]
      refine lv_aload_n hx hb dX7_readSide_33 rfl (lv_at hl 0 rfl) ?_
      refine lv_iconst (v := 0) hx hb dX7_readSide_34 (by decide) ?_
      refine kcI (k := 12) (ci := 7) (As := [.int 0]) (rest := []) C w rfl rfl (c_Md_answers l A D cA tb ad (ps mu 17 x1.toNatClampNeg ((mu 17 x1.toNatClampNeg) &&& 63)) nu 0 (Or.inl rfl)) (cwV 1 hts gX7_readSide_X7_answers rfl rfl rfl (by decide +kernel) ⟨Nat.le_of_ble_eq_true rfl, Nat.le_of_ble_eq_true rfl⟩) rfl rfl hl.1 (Nat.le_of_ble_eq_true rfl) dX7_readSide_35 (fun H locs w => ?_)
      refine lv_if_eq (tgt := 48) hx hb dX7_readSide_38 (by decide) (fun h38 => ?_) (fun h38 => ?_)
      · rw [if_pos h38]
        exact k_Md_readSide_48 C w (lv_sub hl [0, 1] rfl) hs
      · rw [if_neg h38]
        refine lv_aload_n hx hb dX7_readSide_41 rfl (lv_at hl 0 rfl) ?_
        refine gt_12_15 C (fun _ h => List.mem_cons_of_mem _ (List.mem_append_right _ h)) (hts _ (List.mem_of_getElem? (i := 3) rfl)) w dX7_readSide_42 ?_
        refine lv_iconst (v := 0) hx hb dX7_readSide_45 (by decide) ?_
        refine lv_iconst (v := 0) hx hb dX7_readSide_46 (by decide) ?_
        refine is_20 C w (v_side (by first | exact Or.inl rfl | exact Or.inr rfl)) dX7_readSide_47 (fun H locs w => ?_)
        exact k_Md_readSide_48 C w (lv_sub hl [0, 1] rfl) hs
  · rw [if_pos h8]
    refine lv_aload_n hx hb dX7_readSide_11 rfl (lv_at hl 0 rfl) ?_
    refine gt_12_11 C (fun _ h => List.mem_cons_of_mem _ (List.mem_append_right _ h)) (hts _ (List.mem_of_getElem? (i := 2) rfl)) w dX7_readSide_12 ?_
    refine lv_iload_n hx hb dX7_readSide_15 rfl (lv_at hl 1 rfl) ?_
    refine ia_16 C w (v_side hs) (v := (mu 16 x1.toNatClampNeg)) rfl dX7_readSide_16 ?_
    exact retI C w dX7_readSide_17
set_option maxHeartbeats 4000000 in
set_option maxRecDepth 100000 in
theorem c_Md_readSide (l : Launch) (A : Nat → Prop) (D : va_G) (cA : Nat → ClassId) (tb : Nat) (ad : Nat → Nat) (mu nu : Mu) (x1 : Int32) (hs : x1 = 0 ∨ x1 = 1) : Met l yX7_readSide wsX7_readSide ({ frames := 1, cells := 0, slots := 0, locals := 21 }) (va_Pc [.ref (ad 12), .int x1] (Pw A D cA tb ad nu mu)) (va_Qi (fun (r : Int32) (u : Mu × Mu) => r = (F_Md_readSide x1 mu).1 ∧ u = (nu, (F_Md_readSide x1 mu).2)) (Bw A D cA ad) A) 0 0 A := by
  refine Met.ofW (cc := cX7_readSide) (maxL := 2) (ret := (some .int)) (by decide) rfl ?_
  intro p e s m args below meth c s₁ B hml hv
  obtain ⟨rfl, w0⟩ := hv
  have C : Cx cX7_readSide 2 (some .int) wsX7_readSide RX7 A D cA tb p s m _ meth c := ⟨B.exec, B.bytes, B.returns, hml, findClass_of_methodNamed B.named, atoms_spec (ws := wsX7_readSide) B.pre, B.notSynchronized, w0.2.1, w0.2.2.2.1, w0.2.2.2.2⟩
  have hl := lv_entry ([.ref (ad 12), .int x1]) (n := 2) (Nat.le_of_ble_eq_true rfl)
  rw [lg_entry_eq]
  exact k_Md_readSide C w0.wd hl hs
def F_Md_serialAsks_28 (mu : Mu) : Int32 := (if ((mu 12 16) &&& 128) = (0 : Int32) then 0 else (if (mu 12 26) = (0 : Int32) then (if (mu 12 27) = (0 : Int32) then 0 else 1) else 1))
set_option maxHeartbeats 4000000 in
set_option maxRecDepth 100000 in
theorem k_Md_serialAsks_28 (C : Cx cX7_serialAsks 1 (some .boolean) wsX7_serialAsks RX7 A D cA tb p s m args meth c) {mu nu : Mu} {H : Heap} {locs : List Loc} {ls : Array Slot} (w : Wd A D cA ad s nu mu H locs) (hl : lv_has ls 1 [(0, .ref (ad 12))]) : W p l e { frames := 0, cells := 0, slots := 0, locals := 0 } s m args below meth c H locs 0 0 (QI A D cA ad below args s (F_Md_serialAsks_28 mu) nu mu) (F0 m 28 ls []) := by
  have hx := C.1
  have hb := C.2.1
  have hts := C.2.2.2.2.2.1
  have hown := C.2.2.2.2.1
  unfold F_Md_serialAsks_28
  refine lv_aload_n hx hb dX7_serialAsks_28 rfl (lv_at hl 0 rfl) ?_
  refine gt_12_16 C (fun _ h => List.mem_cons_of_mem _ (List.mem_append_right _ h)) (hts _ (List.mem_of_getElem? (i := 2) rfl)) w (v := (mu 12 16)) rfl dX7_serialAsks_29 ?_
  refine lv_sipush (v := 128) hx hb dX7_serialAsks_32 (by decide) ?_
  refine lv_iand hx hb dX7_serialAsks_35 ?_
  refine lv_if_eq (tgt := 57) hx hb dX7_serialAsks_36 (by decide) (fun h36 => ?_) (fun h36 => ?_)
  · rw [if_pos h36]
    refine lv_iconst (v := 0) hx hb dX7_serialAsks_57 (by decide) ?_
    exact retZ C w dX7_serialAsks_58 (Or.inl rfl)
  · rw [if_neg h36]
    refine lv_aload_n hx hb dX7_serialAsks_39 rfl (lv_at hl 0 rfl) ?_
    refine gt_12_26 C (fun _ h => List.mem_cons_of_mem _ (List.mem_append_right _ h)) (hts _ (List.mem_of_getElem? (i := 4) rfl)) w (v := (mu 12 26)) rfl dX7_serialAsks_40 ?_
    refine lv_if_ne (tgt := 53) hx hb dX7_serialAsks_43 (by decide) (fun h43 => ?_) (fun h43 => ?_)
    · rw [if_neg h43]
      refine lv_iconst (v := 1) hx hb dX7_serialAsks_53 (by decide) ?_
      refine lv_goto (tgt := 58) hx hb dX7_serialAsks_54 (by decide) ?_
      exact retZ C w dX7_serialAsks_58 (Or.inr rfl)
    · rw [if_pos h43]
      refine lv_aload_n hx hb dX7_serialAsks_46 rfl (lv_at hl 0 rfl) ?_
      refine gt_12_27 C (fun _ h => List.mem_cons_of_mem _ (List.mem_append_right _ h)) (hts _ (List.mem_of_getElem? (i := 5) rfl)) w (v := (mu 12 27)) rfl dX7_serialAsks_47 ?_
      refine lv_if_eq (tgt := 57) hx hb dX7_serialAsks_50 (by decide) (fun h50 => ?_) (fun h50 => ?_)
      · rw [if_pos h50]
        refine lv_iconst (v := 0) hx hb dX7_serialAsks_57 (by decide) ?_
        exact retZ C w dX7_serialAsks_58 (Or.inl rfl)
      · rw [if_neg h50]
        refine lv_iconst (v := 1) hx hb dX7_serialAsks_53 (by decide) ?_
        refine lv_goto (tgt := 58) hx hb dX7_serialAsks_54 (by decide) ?_
        exact retZ C w dX7_serialAsks_58 (Or.inr rfl)
def F_Md_serialAsks (mu : Mu) : Int32 := (if (mu 12 25) = (0 : Int32) then (if ((mu 12 16) &&& 96) = (32 : Int32) then (if (mu 12 28) = (0 : Int32) then 1 else F_Md_serialAsks_28 mu) else F_Md_serialAsks_28 mu) else 0)
set_option maxHeartbeats 4000000 in
set_option maxRecDepth 100000 in
theorem k_Md_serialAsks (C : Cx cX7_serialAsks 1 (some .boolean) wsX7_serialAsks RX7 A D cA tb p s m args meth c) {mu nu : Mu} {H : Heap} {locs : List Loc} {ls : Array Slot} (w : Wd A D cA ad s nu mu H locs) (hl : lv_has ls 1 [(0, .ref (ad 12))]) : W p l e { frames := 0, cells := 0, slots := 0, locals := 0 } s m args below meth c H locs 0 0 (QI A D cA ad below args s (F_Md_serialAsks mu) nu mu) (F0 m 0 ls []) := by
  have hx := C.1
  have hb := C.2.1
  have hts := C.2.2.2.2.2.1
  have hown := C.2.2.2.2.1
  unfold F_Md_serialAsks
  refine lv_aload_n hx hb dX7_serialAsks_0 rfl (lv_at hl 0 rfl) ?_
  refine gt_12_25 C (fun _ h => List.mem_cons_of_mem _ (List.mem_append_right _ h)) (hts _ (List.mem_of_getElem? (i := 1) rfl)) w (v := (mu 12 25)) rfl dX7_serialAsks_1 ?_
  refine lv_if_eq (tgt := 9) hx hb dX7_serialAsks_4 (by decide) (fun h4 => ?_) (fun h4 => ?_)
  · rw [if_pos h4]
    refine lv_aload_n hx hb dX7_serialAsks_9 rfl (lv_at hl 0 rfl) ?_
    refine gt_12_16 C (fun _ h => List.mem_cons_of_mem _ (List.mem_append_right _ h)) (hts _ (List.mem_of_getElem? (i := 2) rfl)) w (v := (mu 12 16)) rfl dX7_serialAsks_10 ?_
    refine lv_bipush (v := 96) hx hb dX7_serialAsks_13 (by decide) ?_
    refine lv_iand hx hb dX7_serialAsks_15 ?_
    refine lv_bipush (v := 32) hx hb dX7_serialAsks_16 (by decide) ?_
    refine lv_icmp_ne (tgt := 28) hx hb dX7_serialAsks_18 (by decide) (fun h18 => ?_) (fun h18 => ?_)
    · rw [if_neg h18]
      exact k_Md_serialAsks_28 C w (lv_sub hl [0] rfl)
    · rw [if_pos h18]
      refine lv_aload_n hx hb dX7_serialAsks_21 rfl (lv_at hl 0 rfl) ?_
      refine gt_12_28 C (fun _ h => List.mem_cons_of_mem _ (List.mem_append_right _ h)) (hts _ (List.mem_of_getElem? (i := 3) rfl)) w (v := (mu 12 28)) rfl dX7_serialAsks_22 ?_
      refine lv_if_eq (tgt := 53) hx hb dX7_serialAsks_25 (by decide) (fun h25 => ?_) (fun h25 => ?_)
      · rw [if_pos h25]
        refine lv_iconst (v := 1) hx hb dX7_serialAsks_53 (by decide) ?_
        refine lv_goto (tgt := 58) hx hb dX7_serialAsks_54 (by decide) ?_
        exact retZ C w dX7_serialAsks_58 (Or.inr rfl)
      · rw [if_neg h25]
        exact k_Md_serialAsks_28 C w (lv_sub hl [0] rfl)
  · rw [if_neg h4]
    refine lv_iconst (v := 0) hx hb dX7_serialAsks_7 (by decide) ?_
    exact retZ C w dX7_serialAsks_8 (Or.inl rfl)
set_option maxHeartbeats 4000000 in
set_option maxRecDepth 100000 in
theorem c_Md_serialAsks (l : Launch) (A : Nat → Prop) (D : va_G) (cA : Nat → ClassId) (tb : Nat) (ad : Nat → Nat) (mu nu : Mu) : Met l yX7_serialAsks wsX7_serialAsks ({ frames := 0, cells := 0, slots := 0, locals := 0 }) (va_Pc [.ref (ad 12)] (Pw A D cA tb ad nu mu)) (va_Qi (fun (r : Int32) (u : Mu × Mu) => r = F_Md_serialAsks mu ∧ u = (nu, mu)) (Bw A D cA ad) A) 0 0 A := by
  refine Met.ofW (cc := cX7_serialAsks) (maxL := 1) (ret := (some .boolean)) (by decide) rfl ?_
  intro p e s m args below meth c s₁ B hml hv
  obtain ⟨rfl, w0⟩ := hv
  have C : Cx cX7_serialAsks 1 (some .boolean) wsX7_serialAsks RX7 A D cA tb p s m _ meth c := ⟨B.exec, B.bytes, B.returns, hml, findClass_of_methodNamed B.named, atoms_spec (ws := wsX7_serialAsks) B.pre, B.notSynchronized, w0.2.1, w0.2.2.2.1, w0.2.2.2.2⟩
  have hl := lv_entry ([.ref (ad 12)]) (n := 1) (Nat.le_of_ble_eq_true rfl)
  rw [lg_entry_eq]
  exact k_Md_serialAsks C w0.wd hl
def F_Md_serialStatus_38 (y0 : Int32) (y1 : Int32) (mu : Mu) : Int32 := (if (F_Md_serialAsks mu) = (0 : Int32) then ((y0 + y1) + 0) else ((y0 + y1) + 128))
set_option maxHeartbeats 4000000 in
set_option maxRecDepth 100000 in
theorem k_Md_serialStatus_38 (C : Cx cX7_serialStatus 1 (some .int) wsX7_serialStatus RX7 A D cA tb p s m args meth c) {mu nu : Mu} {y0 : Int32} {y1 : Int32} {H : Heap} {locs : List Loc} {ls : Array Slot} (w : Wd A D cA ad s nu mu H locs) (hl : lv_has ls 1 [(0, .ref (ad 12))]) : W p l e { frames := 1, cells := 0, slots := 0, locals := 20 } s m args below meth c H locs 0 0 (QI A D cA ad below args s (F_Md_serialStatus_38 y0 y1 mu) nu mu) (F0 m 38 ls [.int y1, .int y0]) := by
  have hx := C.1
  have hb := C.2.1
  have hts := C.2.2.2.2.2.1
  have hown := C.2.2.2.2.1
  unfold F_Md_serialStatus_38
  refine lv_iadd hx hb dX7_serialStatus_38 ?_
  refine lv_aload_n hx hb dX7_serialStatus_39 rfl (lv_at hl 0 rfl) ?_
  refine kcI (k := 12) (ci := 7) (As := []) (rest := [.int ((y0 + y1))]) C w rfl rfl (c_Md_serialAsks l A D cA tb ad mu nu) (cwV 0 hts gX7_serialStatus_X7_serialAsks rfl rfl rfl (by decide +kernel) ⟨Nat.le_of_ble_eq_true rfl, Nat.le_of_ble_eq_true rfl⟩) rfl rfl hl.1 (Nat.le_of_ble_eq_true rfl) dX7_serialStatus_40 (fun H locs w => ?_)
  refine lv_if_eq (tgt := 52) hx hb dX7_serialStatus_43 (by decide) (fun h43 => ?_) (fun h43 => ?_)
  · rw [if_pos h43]
    refine lv_iconst (v := 0) hx hb dX7_serialStatus_52 (by decide) ?_
    refine lv_iadd hx hb dX7_serialStatus_53 ?_
    exact retI C w dX7_serialStatus_54
  · rw [if_neg h43]
    refine lv_sipush (v := 128) hx hb dX7_serialStatus_46 (by decide) ?_
    refine lv_goto (tgt := 53) hx hb dX7_serialStatus_49 (by decide) ?_
    refine lv_iadd hx hb dX7_serialStatus_53 ?_
    exact retI C w dX7_serialStatus_54
def F_Md_serialStatus_24 (y0 : Int32) (y1 : Int32) (mu : Mu) : Int32 := (if (mu 12 27) = (0 : Int32) then F_Md_serialStatus_38 (y0 + y1) 0 mu else F_Md_serialStatus_38 (y0 + y1) 32 mu)
set_option maxHeartbeats 4000000 in
set_option maxRecDepth 100000 in
theorem k_Md_serialStatus_24 (C : Cx cX7_serialStatus 1 (some .int) wsX7_serialStatus RX7 A D cA tb p s m args meth c) {mu nu : Mu} {y0 : Int32} {y1 : Int32} {H : Heap} {locs : List Loc} {ls : Array Slot} (w : Wd A D cA ad s nu mu H locs) (hl : lv_has ls 1 [(0, .ref (ad 12))]) : W p l e { frames := 1, cells := 0, slots := 0, locals := 20 } s m args below meth c H locs 0 0 (QI A D cA ad below args s (F_Md_serialStatus_24 y0 y1 mu) nu mu) (F0 m 24 ls [.int y1, .int y0]) := by
  have hx := C.1
  have hb := C.2.1
  have hts := C.2.2.2.2.2.1
  have hown := C.2.2.2.2.1
  unfold F_Md_serialStatus_24
  refine lv_iadd hx hb dX7_serialStatus_24 ?_
  refine lv_aload_n hx hb dX7_serialStatus_25 rfl (lv_at hl 0 rfl) ?_
  refine gt_12_27 C (fun _ h => List.mem_cons_of_mem _ (List.mem_append_right _ h)) (hts _ (List.mem_of_getElem? (i := 3) rfl)) w (v := (mu 12 27)) rfl dX7_serialStatus_26 ?_
  refine lv_if_eq (tgt := 37) hx hb dX7_serialStatus_29 (by decide) (fun h29 => ?_) (fun h29 => ?_)
  · rw [if_pos h29]
    refine lv_iconst (v := 0) hx hb dX7_serialStatus_37 (by decide) ?_
    exact k_Md_serialStatus_38 C w (lv_sub hl [0] rfl)
  · rw [if_neg h29]
    refine lv_bipush (v := 32) hx hb dX7_serialStatus_32 (by decide) ?_
    refine lv_goto (tgt := 38) hx hb dX7_serialStatus_34 (by decide) ?_
    exact k_Md_serialStatus_38 C w (lv_sub hl [0] rfl)
def F_Md_serialStatus_12 (y0 : Int32) (mu : Mu) : Int32 := (if (mu 12 28) = (0 : Int32) then F_Md_serialStatus_24 y0 2 mu else F_Md_serialStatus_24 y0 0 mu)
set_option maxHeartbeats 4000000 in
set_option maxRecDepth 100000 in
theorem k_Md_serialStatus_12 (C : Cx cX7_serialStatus 1 (some .int) wsX7_serialStatus RX7 A D cA tb p s m args meth c) {mu nu : Mu} {y0 : Int32} {H : Heap} {locs : List Loc} {ls : Array Slot} (w : Wd A D cA ad s nu mu H locs) (hl : lv_has ls 1 [(0, .ref (ad 12))]) : W p l e { frames := 1, cells := 0, slots := 0, locals := 20 } s m args below meth c H locs 0 0 (QI A D cA ad below args s (F_Md_serialStatus_12 y0 mu) nu mu) (F0 m 12 ls [.int y0]) := by
  have hx := C.1
  have hb := C.2.1
  have hts := C.2.2.2.2.2.1
  have hown := C.2.2.2.2.1
  unfold F_Md_serialStatus_12
  refine lv_aload_n hx hb dX7_serialStatus_12 rfl (lv_at hl 0 rfl) ?_
  refine gt_12_28 C (fun _ h => List.mem_cons_of_mem _ (List.mem_append_right _ h)) (hts _ (List.mem_of_getElem? (i := 2) rfl)) w (v := (mu 12 28)) rfl dX7_serialStatus_13 ?_
  refine lv_if_eq (tgt := 23) hx hb dX7_serialStatus_16 (by decide) (fun h16 => ?_) (fun h16 => ?_)
  · rw [if_pos h16]
    refine lv_iconst (v := 2) hx hb dX7_serialStatus_23 (by decide) ?_
    exact k_Md_serialStatus_24 C w (lv_sub hl [0] rfl)
  · rw [if_neg h16]
    refine lv_iconst (v := 0) hx hb dX7_serialStatus_19 (by decide) ?_
    refine lv_goto (tgt := 24) hx hb dX7_serialStatus_20 (by decide) ?_
    exact k_Md_serialStatus_24 C w (lv_sub hl [0] rfl)
def F_Md_serialStatus (mu : Mu) : Int32 := (if (mu 12 26) = (0 : Int32) then F_Md_serialStatus_12 0 mu else F_Md_serialStatus_12 1 mu)
set_option maxHeartbeats 4000000 in
set_option maxRecDepth 100000 in
theorem k_Md_serialStatus (C : Cx cX7_serialStatus 1 (some .int) wsX7_serialStatus RX7 A D cA tb p s m args meth c) {mu nu : Mu} {H : Heap} {locs : List Loc} {ls : Array Slot} (w : Wd A D cA ad s nu mu H locs) (hl : lv_has ls 1 [(0, .ref (ad 12))]) : W p l e { frames := 1, cells := 0, slots := 0, locals := 20 } s m args below meth c H locs 0 0 (QI A D cA ad below args s (F_Md_serialStatus mu) nu mu) (F0 m 0 ls []) := by
  have hx := C.1
  have hb := C.2.1
  have hts := C.2.2.2.2.2.1
  have hown := C.2.2.2.2.1
  unfold F_Md_serialStatus
  refine lv_aload_n hx hb dX7_serialStatus_0 rfl (lv_at hl 0 rfl) ?_
  refine gt_12_26 C (fun _ h => List.mem_cons_of_mem _ (List.mem_append_right _ h)) (hts _ (List.mem_of_getElem? (i := 1) rfl)) w (v := (mu 12 26)) rfl dX7_serialStatus_1 ?_
  refine lv_if_eq (tgt := 11) hx hb dX7_serialStatus_4 (by decide) (fun h4 => ?_) (fun h4 => ?_)
  · rw [if_pos h4]
    refine lv_iconst (v := 0) hx hb dX7_serialStatus_11 (by decide) ?_
    exact k_Md_serialStatus_12 C w (lv_sub hl [0] rfl)
  · rw [if_neg h4]
    refine lv_iconst (v := 1) hx hb dX7_serialStatus_7 (by decide) ?_
    refine lv_goto (tgt := 12) hx hb dX7_serialStatus_8 (by decide) ?_
    exact k_Md_serialStatus_12 C w (lv_sub hl [0] rfl)
set_option maxHeartbeats 4000000 in
set_option maxRecDepth 100000 in
theorem c_Md_serialStatus (l : Launch) (A : Nat → Prop) (D : va_G) (cA : Nat → ClassId) (tb : Nat) (ad : Nat → Nat) (mu nu : Mu) : Met l yX7_serialStatus wsX7_serialStatus ({ frames := 1, cells := 0, slots := 0, locals := 20 }) (va_Pc [.ref (ad 12)] (Pw A D cA tb ad nu mu)) (va_Qi (fun (r : Int32) (u : Mu × Mu) => r = F_Md_serialStatus mu ∧ u = (nu, mu)) (Bw A D cA ad) A) 0 0 A := by
  refine Met.ofW (cc := cX7_serialStatus) (maxL := 1) (ret := (some .int)) (by decide) rfl ?_
  intro p e s m args below meth c s₁ B hml hv
  obtain ⟨rfl, w0⟩ := hv
  have C : Cx cX7_serialStatus 1 (some .int) wsX7_serialStatus RX7 A D cA tb p s m _ meth c := ⟨B.exec, B.bytes, B.returns, hml, findClass_of_methodNamed B.named, atoms_spec (ws := wsX7_serialStatus) B.pre, B.notSynchronized, w0.2.1, w0.2.2.2.1, w0.2.2.2.2⟩
  have hl := lv_entry ([.ref (ad 12)]) (n := 1) (Nat.le_of_ble_eq_true rfl)
  rw [lg_entry_eq]
  exact k_Md_serialStatus C w0.wd hl
def F_Md_read_78 (x2 : Int32) (mu : Mu) : Int32 × Mu := (if x2 = (8448 : Int32) then ((F_Md_serialStatus mu), mu) else (if x2 = (8449 : Int32) then ((mu 12 17), (ps (ps mu 12 26 0) 12 27 0)) else (0, mu)))
set_option maxHeartbeats 4000000 in
set_option maxRecDepth 100000 in
theorem k_Md_read_78 (C : Cx cX7_read 3 (some .int) wsX7_read RX7 A D cA tb p s m args meth c) {mu nu : Mu} {x2 : Int32} {H : Heap} {locs : List Loc} {ls : Array Slot} (w : Wd A D cA ad s nu mu H locs) (hl : lv_has ls 3 [(0, .ref (ad 12)), (2, .int x2)]) : W p l e { frames := 2, cells := 0, slots := 0, locals := 42 } s m args below meth c H locs 0 0 (QI A D cA ad below args s (F_Md_read_78 x2 mu).1 nu (F_Md_read_78 x2 mu).2) (F0 m 78 ls []) := by
  have hx := C.1
  have hb := C.2.1
  have hts := C.2.2.2.2.2.1
  have hown := C.2.2.2.2.1
  unfold F_Md_read_78
  refine lv_iload_n hx hb dX7_read_78 rfl (lv_at hl 1 rfl) ?_
  refine lv_sipush (v := 8448) hx hb dX7_read_79 (by decide) ?_
  refine lv_icmp_ne (tgt := 90) hx hb dX7_read_82 (by decide) (fun h82 => ?_) (fun h82 => ?_)
  · rw [if_neg h82]
    refine lv_iload_n hx hb dX7_read_90 rfl (lv_at hl 1 rfl) ?_
    refine lv_sipush (v := 8449) hx hb dX7_read_91 (by decide) ?_
    refine lv_icmp_eq (tgt := 99) hx hb dX7_read_94 (by decide) (fun h94 => ?_) (fun h94 => ?_)
    · rw [if_pos h94]
      refine lv_aload_n hx hb dX7_read_99 rfl (lv_at hl 0 rfl) ?_
      refine lv_iconst (v := 0) hx hb dX7_read_100 (by decide) ?_
      refine pt_12_26 C (fun _ h => List.mem_cons_of_mem _ (List.mem_append_right _ h)) (hts _ (List.mem_of_getElem? (i := 6) rfl)) w (Or.inl rfl) dX7_read_101 (fun H locs w => ?_)
      refine lv_aload_n hx hb dX7_read_104 rfl (lv_at hl 0 rfl) ?_
      refine lv_iconst (v := 0) hx hb dX7_read_105 (by decide) ?_
      refine pt_12_27 C (fun _ h => List.mem_cons_of_mem _ (List.mem_append_right _ h)) (hts _ (List.mem_of_getElem? (i := 7) rfl)) w (Or.inl rfl) dX7_read_106 (fun H locs w => ?_)
      refine lv_aload_n hx hb dX7_read_109 rfl (lv_at hl 0 rfl) ?_
      refine gt_12_17 C (fun _ h => List.mem_cons_of_mem _ (List.mem_append_right _ h)) (hts _ (List.mem_of_getElem? (i := 8) rfl)) w (v := (mu 12 17)) rfl dX7_read_110 ?_
      exact retI C w dX7_read_113
    · rw [if_neg h94]
      refine lv_iconst (v := 0) hx hb dX7_read_97 (by decide) ?_
      exact retI C w dX7_read_98
  · rw [if_pos h82]
    refine lv_aload_n hx hb dX7_read_85 rfl (lv_at hl 0 rfl) ?_
    refine kcI (k := 12) (ci := 7) (As := []) (rest := []) C w rfl rfl (c_Md_serialStatus l A D cA tb ad mu nu) (cwV 0 hts gX7_read_X7_serialStatus rfl rfl rfl (by decide +kernel) ⟨Nat.le_of_ble_eq_true rfl, Nat.le_of_ble_eq_true rfl⟩) rfl rfl hl.1 (Nat.le_of_ble_eq_true rfl) dX7_read_86 (fun H locs w => ?_)
    exact retI C w dX7_read_89
def F_Md_read (x1 : Int32) (mu : Mu) : Int32 × Mu := (if (1024 : Int32) ≤ (x1 &&& 65535) then (if (x1 &&& 65535) < (64512 : Int32) then (if (x1 &&& 65535) < (8192 : Int32) then F_Md_read_78 (x1 &&& 65535) mu else (if (8196 : Int32) ≤ (x1 &&& 65535) then F_Md_read_78 (x1 &&& 65535) mu else (if ((x1 &&& 65535) &&& 1) = (0 : Int32) then ((F_Md_readSide (((x1 &&& 65535) >>> (1 &&& 31)) &&& 1) mu).1, (F_Md_readSide (((x1 &&& 65535) >>> (1 &&& 31)) &&& 1) mu).2) else ((mu 17 (((x1 &&& 65535) >>> (1 &&& 31)) &&& 1).toNatClampNeg), mu)))) else ((mu 14 ((x1 &&& 65535) - 64512).toNatClampNeg), mu)) else ((mu 13 (x1 &&& 65535).toNatClampNeg), mu))
set_option maxHeartbeats 4000000 in
set_option maxRecDepth 100000 in
theorem k_Md_read (C : Cx cX7_read 3 (some .int) wsX7_read RX7 A D cA tb p s m args meth c) {mu nu : Mu} {x1 : Int32} {H : Heap} {locs : List Loc} {ls : Array Slot} (w : Wd A D cA ad s nu mu H locs) (hl : lv_has ls 3 [(0, .ref (ad 12)), (1, .int x1)]) : W p l e { frames := 2, cells := 0, slots := 0, locals := 42 } s m args below meth c H locs 0 0 (QI A D cA ad below args s (F_Md_read x1 mu).1 nu (F_Md_read x1 mu).2) (F0 m 0 ls []) := by
  have hx := C.1
  have hb := C.2.1
  have hts := C.2.2.2.2.2.1
  have hown := C.2.2.2.2.1
  unfold F_Md_read
  refine lv_iload_n hx hb dX7_read_0 rfl (lv_at hl 1 rfl) ?_
  refine lv_ldc (v := 65535) hx hb hown (hts _ (List.mem_of_getElem? (i := 1) rfl)) dX7_read_1 ?_
  refine lv_iand hx hb dX7_read_3 ?_
  refine lv_istore_n (lv' := [(2, .int ((x1 &&& 65535))), (0, .ref (ad 12)), (1, .int x1)]) hx hb dX7_read_4 rfl hl (by decide) rfl (fun ls hl => ?_)
  refine lv_iload_n hx hb dX7_read_5 rfl (lv_at hl 0 rfl) ?_
  refine lv_sipush (v := 1024) hx hb dX7_read_6 (by decide) ?_
  refine lv_icmp_ge (tgt := 19) hx hb dX7_read_9 (by decide) (fun h9 => ?_) (fun h9 => ?_)
  · rw [if_pos h9]
    refine lv_iload_n hx hb dX7_read_19 rfl (lv_at hl 0 rfl) ?_
    refine lv_ldc (v := 64512) hx hb hown (hts _ (List.mem_of_getElem? (i := 3) rfl)) dX7_read_20 ?_
    refine lv_icmp_lt (tgt := 35) hx hb dX7_read_22 (by decide) (fun h22 => ?_) (fun h22 => ?_)
    · rw [if_pos h22]
      refine lv_iload_n hx hb dX7_read_35 rfl (lv_at hl 0 rfl) ?_
      refine lv_sipush (v := 8192) hx hb dX7_read_36 (by decide) ?_
      refine lv_icmp_lt (tgt := 78) hx hb dX7_read_39 (by decide) (fun h39 => ?_) (fun h39 => ?_)
      · rw [if_pos h39]
        exact k_Md_read_78 C w (lv_sub hl [1, 0] rfl)
      · rw [if_neg h39]
        refine lv_iload_n hx hb dX7_read_42 rfl (lv_at hl 0 rfl) ?_
        refine lv_sipush (v := 8196) hx hb dX7_read_43 (by decide) ?_
        refine lv_icmp_ge (tgt := 78) hx hb dX7_read_46 (by decide) (fun h46 => ?_) (fun h46 => ?_)
        · rw [if_pos h46]
          exact k_Md_read_78 C w (lv_sub hl [1, 0] rfl)
        · rw [if_neg h46]
          refine lv_iload_n hx hb dX7_read_49 rfl (lv_at hl 0 rfl) ?_
          refine lv_iconst (v := 1) hx hb dX7_read_50 (by decide) ?_
          refine lv_iand hx hb dX7_read_51 ?_
          refine lv_if_ne (tgt := 67) hx hb dX7_read_52 (by decide) (fun h52 => ?_) (fun h52 => ?_)
          · rw [if_neg h52]
            refine lv_aload_n hx hb dX7_read_67 rfl (lv_at hl 1 rfl) ?_
            refine gt_12_12 C (fun _ h => List.mem_cons_of_mem _ (List.mem_append_right _ h)) (hts _ (List.mem_of_getElem? (i := 5) rfl)) w dX7_read_68 ?_
            refine lv_iload_n hx hb dX7_read_71 rfl (lv_at hl 0 rfl) ?_
            refine lv_iconst (v := 1) hx hb dX7_read_72 (by decide) ?_
            refine lv_ishr hx hb dX7_read_73 ?_
            refine lv_iconst (v := 1) hx hb dX7_read_74 (by decide) ?_
            refine lv_iand hx hb dX7_read_75 ?_
            refine ia_17 C w (pk_andIn _ 1 (by decide) (by decide)) (v := (mu 17 (((x1 &&& 65535) >>> (1 &&& 31)) &&& 1).toNatClampNeg)) rfl dX7_read_76 ?_
            exact retI C w dX7_read_77
          · rw [if_pos h52]
            refine lv_aload_n hx hb dX7_read_55 rfl (lv_at hl 1 rfl) ?_
            refine lv_iload_n hx hb dX7_read_56 rfl (lv_at hl 0 rfl) ?_
            refine lv_iconst (v := 1) hx hb dX7_read_57 (by decide) ?_
            refine lv_ishr hx hb dX7_read_58 ?_
            refine lv_iconst (v := 1) hx hb dX7_read_59 (by decide) ?_
            refine lv_iand hx hb dX7_read_60 ?_
            refine kcI (k := 12) (ci := 7) (As := [.int ((((x1 &&& 65535) >>> (1 &&& 31)) &&& 1))]) (rest := []) C w rfl rfl (c_Md_readSide l A D cA tb ad mu nu (((x1 &&& 65535) >>> (1 &&& 31)) &&& 1) (i_and1 _)) (cwV 1 hts gX7_read_X7_readSide rfl rfl rfl (by decide +kernel) ⟨Nat.le_of_ble_eq_true rfl, Nat.le_of_ble_eq_true rfl⟩) rfl rfl hl.1 (Nat.le_of_ble_eq_true rfl) dX7_read_61 (fun H locs w => ?_)
            refine lv_goto (tgt := 77) hx hb dX7_read_64 (by decide) ?_
            exact retI C w dX7_read_77
    · rw [if_neg h22]
      refine lv_aload_n hx hb dX7_read_25 rfl (lv_at hl 1 rfl) ?_
      refine gt_12_1 C (fun _ h => List.mem_cons_of_mem _ (List.mem_append_right _ h)) (hts _ (List.mem_of_getElem? (i := 4) rfl)) w dX7_read_26 ?_
      refine lv_iload_n hx hb dX7_read_29 rfl (lv_at hl 0 rfl) ?_
      refine lv_ldc (v := 64512) hx hb hown (hts _ (List.mem_of_getElem? (i := 3) rfl)) dX7_read_30 ?_
      refine lv_isub hx hb dX7_read_32 ?_
      refine ia_14 C w (hi_in (i_and16 _).2 h22) (v := (mu 14 ((x1 &&& 65535) - 64512).toNatClampNeg)) rfl dX7_read_33 ?_
      exact retI C w dX7_read_34
  · rw [if_neg h9]
    refine lv_aload_n hx hb dX7_read_12 rfl (lv_at hl 1 rfl) ?_
    refine gt_12_0 C (fun _ h => List.mem_cons_of_mem _ (List.mem_append_right _ h)) (hts _ (List.mem_of_getElem? (i := 2) rfl)) w dX7_read_13 ?_
    refine lv_iload_n hx hb dX7_read_16 rfl (lv_at hl 0 rfl) ?_
    refine ia_13 C w (lo_in (i_and16 _).1 h9) (v := (mu 13 (x1 &&& 65535).toNatClampNeg)) rfl dX7_read_17 ?_
    exact retI C w dX7_read_18
set_option maxHeartbeats 4000000 in
set_option maxRecDepth 100000 in
theorem c_Md_read (l : Launch) (A : Nat → Prop) (D : va_G) (cA : Nat → ClassId) (tb : Nat) (ad : Nat → Nat) (mu nu : Mu) (x1 : Int32) : Met l yX7_read wsX7_read ({ frames := 2, cells := 0, slots := 0, locals := 42 }) (va_Pc [.ref (ad 12), .int x1] (Pw A D cA tb ad nu mu)) (va_Qi (fun (r : Int32) (u : Mu × Mu) => r = (F_Md_read x1 mu).1 ∧ u = (nu, (F_Md_read x1 mu).2)) (Bw A D cA ad) A) 0 0 A := by
  refine Met.ofW (cc := cX7_read) (maxL := 3) (ret := (some .int)) (by decide) rfl ?_
  intro p e s m args below meth c s₁ B hml hv
  obtain ⟨rfl, w0⟩ := hv
  have C : Cx cX7_read 3 (some .int) wsX7_read RX7 A D cA tb p s m _ meth c := ⟨B.exec, B.bytes, B.returns, hml, findClass_of_methodNamed B.named, atoms_spec (ws := wsX7_read) B.pre, B.notSynchronized, w0.2.1, w0.2.2.2.1, w0.2.2.2.2⟩
  have hl := lv_entry ([.ref (ad 12), .int x1]) (n := 3) (Nat.le_of_ble_eq_true rfl)
  rw [lg_entry_eq]
  exact k_Md_read C w0.wd hl
def F_Md_readWord_5 (x1 : Int32) (y0 : Int32) (mu : Mu) : Int32 × Mu := (((y0 * 256) + (F_Md_read (x1 + 1) mu).1), (F_Md_read (x1 + 1) mu).2)
set_option maxHeartbeats 4000000 in
set_option maxRecDepth 100000 in
theorem k_Md_readWord_5 (C : Cx cX7_readWord 3 (some .int) wsX7_readWord RX7 A D cA tb p s m args meth c) {mu nu : Mu} {x1 : Int32} {y0 : Int32} {H : Heap} {locs : List Loc} {ls : Array Slot} (w : Wd A D cA ad s nu mu H locs) (hl : lv_has ls 3 [(0, .ref (ad 12)), (1, .int x1)]) : W p l e { frames := 3, cells := 0, slots := 0, locals := 64 } s m args below meth c H locs 0 0 (QI A D cA ad below args s (F_Md_readWord_5 x1 y0 mu).1 nu (F_Md_readWord_5 x1 y0 mu).2) (F0 m 5 ls [.int y0]) := by
  have hx := C.1
  have hb := C.2.1
  have hts := C.2.2.2.2.2.1
  have hown := C.2.2.2.2.1
  unfold F_Md_readWord_5
  refine lv_istore_n (lv' := [(2, .int y0), (0, .ref (ad 12)), (1, .int x1)]) hx hb dX7_readWord_5 rfl hl (by decide) rfl (fun ls hl => ?_)
  refine lv_iload_n hx hb dX7_readWord_6 rfl (lv_at hl 0 rfl) ?_
  refine lv_sipush (v := 256) hx hb dX7_readWord_7 (by decide) ?_
  refine lv_imul hx hb dX7_readWord_10 ?_
  refine lv_aload_n hx hb dX7_readWord_11 rfl (lv_at hl 1 rfl) ?_
  refine lv_iload_n hx hb dX7_readWord_12 rfl (lv_at hl 2 rfl) ?_
  refine lv_iconst (v := 1) hx hb dX7_readWord_13 (by decide) ?_
  refine lv_iadd hx hb dX7_readWord_14 ?_
  refine kcI (k := 12) (ci := 7) (As := [.int ((x1 + 1))]) (rest := [.int ((y0 * 256))]) C w rfl rfl (c_Md_read l A D cA tb ad mu nu (x1 + 1)) (cwV 1 hts gX7_readWord_X7_read rfl rfl rfl (by decide +kernel) ⟨Nat.le_of_ble_eq_true rfl, Nat.le_of_ble_eq_true rfl⟩) rfl rfl hl.1 (Nat.le_of_ble_eq_true rfl) dX7_readWord_15 (fun H locs w => ?_)
  refine lv_iadd hx hb dX7_readWord_18 ?_
  exact retI C w dX7_readWord_19
def F_Md_readWord (x1 : Int32) (mu : Mu) : Int32 × Mu := F_Md_readWord_5 x1 ((F_Md_read x1 mu).1) ((F_Md_read x1 mu).2)
set_option maxHeartbeats 4000000 in
set_option maxRecDepth 100000 in
theorem k_Md_readWord (C : Cx cX7_readWord 3 (some .int) wsX7_readWord RX7 A D cA tb p s m args meth c) {mu nu : Mu} {x1 : Int32} {H : Heap} {locs : List Loc} {ls : Array Slot} (w : Wd A D cA ad s nu mu H locs) (hl : lv_has ls 3 [(0, .ref (ad 12)), (1, .int x1)]) : W p l e { frames := 3, cells := 0, slots := 0, locals := 64 } s m args below meth c H locs 0 0 (QI A D cA ad below args s (F_Md_readWord x1 mu).1 nu (F_Md_readWord x1 mu).2) (F0 m 0 ls []) := by
  have hx := C.1
  have hb := C.2.1
  have hts := C.2.2.2.2.2.1
  have hown := C.2.2.2.2.1
  unfold F_Md_readWord
  refine lv_aload_n hx hb dX7_readWord_0 rfl (lv_at hl 0 rfl) ?_
  refine lv_iload_n hx hb dX7_readWord_1 rfl (lv_at hl 1 rfl) ?_
  refine kcI (k := 12) (ci := 7) (As := [.int x1]) (rest := []) C w rfl rfl (c_Md_read l A D cA tb ad mu nu x1) (cwV 1 hts gX7_readWord_X7_read rfl rfl rfl (by decide +kernel) ⟨Nat.le_of_ble_eq_true rfl, Nat.le_of_ble_eq_true rfl⟩) rfl rfl hl.1 (Nat.le_of_ble_eq_true rfl) dX7_readWord_2 (fun H locs w => ?_)
  exact k_Md_readWord_5 C w (lv_sub hl [0, 1] rfl)
set_option maxHeartbeats 4000000 in
set_option maxRecDepth 100000 in
theorem c_Md_readWord (l : Launch) (A : Nat → Prop) (D : va_G) (cA : Nat → ClassId) (tb : Nat) (ad : Nat → Nat) (mu nu : Mu) (x1 : Int32) : Met l yX7_readWord wsX7_readWord ({ frames := 3, cells := 0, slots := 0, locals := 64 }) (va_Pc [.ref (ad 12), .int x1] (Pw A D cA tb ad nu mu)) (va_Qi (fun (r : Int32) (u : Mu × Mu) => r = (F_Md_readWord x1 mu).1 ∧ u = (nu, (F_Md_readWord x1 mu).2)) (Bw A D cA ad) A) 0 0 A := by
  refine Met.ofW (cc := cX7_readWord) (maxL := 3) (ret := (some .int)) (by decide) rfl ?_
  intro p e s m args below meth c s₁ B hml hv
  obtain ⟨rfl, w0⟩ := hv
  have C : Cx cX7_readWord 3 (some .int) wsX7_readWord RX7 A D cA tb p s m _ meth c := ⟨B.exec, B.bytes, B.returns, hml, findClass_of_methodNamed B.named, atoms_spec (ws := wsX7_readWord) B.pre, B.notSynchronized, w0.2.1, w0.2.2.2.1, w0.2.2.2.2⟩
  have hl := lv_entry ([.ref (ad 12), .int x1]) (n := 3) (Nat.le_of_ble_eq_true rfl)
  rw [lg_entry_eq]
  exact k_Md_readWord C w0.wd hl
def F_Md_tell_22 (y1 : Int32) (mu : Mu) : Mu := (ps mu 12 7 y1)
set_option maxHeartbeats 4000000 in
set_option maxRecDepth 100000 in
theorem k_Md_tell_22 (C : Cx cX7_tell 3 none wsX7_tell RX7 A D cA tb p s m args meth c) {mu nu : Mu} {y1 : Int32} {H : Heap} {locs : List Loc} {ls : Array Slot} (w : Wd A D cA ad s nu mu H locs) (hl : lv_has ls 3 []) : W p l e { frames := 0, cells := 0, slots := 0, locals := 0 } s m args below meth c H locs 0 0 (QV A D cA ad below args s nu (F_Md_tell_22 y1 mu)) (F0 m 22 ls [.int y1, .ref (ad 12)]) := by
  have hx := C.1
  have hb := C.2.1
  have hts := C.2.2.2.2.2.1
  have hown := C.2.2.2.2.1
  unfold F_Md_tell_22
  refine pt_12_7 C (fun _ h => List.mem_cons_of_mem _ (List.mem_append_right _ h)) (hts _ (List.mem_of_getElem? (i := 1) rfl)) w dX7_tell_22 (fun H locs w => ?_)
  exact retV C w dX7_tell_25
def F_Md_tell (x1 : Int32) (x2 : Int32) (mu : Mu) : Mu := (if x2 = (0 : Int32) then F_Md_tell_22 ((mu 12 7) &&& (x1 ^^^ (-1 : Int32))) mu else F_Md_tell_22 ((mu 12 7) ||| x1) mu)
set_option maxHeartbeats 4000000 in
set_option maxRecDepth 100000 in
theorem k_Md_tell (C : Cx cX7_tell 3 none wsX7_tell RX7 A D cA tb p s m args meth c) {mu nu : Mu} {x1 : Int32} {x2 : Int32} {H : Heap} {locs : List Loc} {ls : Array Slot} (w : Wd A D cA ad s nu mu H locs) (hl : lv_has ls 3 [(0, .ref (ad 12)), (1, .int x1), (2, .int x2)]) : W p l e { frames := 0, cells := 0, slots := 0, locals := 0 } s m args below meth c H locs 0 0 (QV A D cA ad below args s nu (F_Md_tell x1 x2 mu)) (F0 m 0 ls []) := by
  have hx := C.1
  have hb := C.2.1
  have hts := C.2.2.2.2.2.1
  have hown := C.2.2.2.2.1
  unfold F_Md_tell
  refine lv_aload_n hx hb dX7_tell_0 rfl (lv_at hl 0 rfl) ?_
  refine lv_iload_n hx hb dX7_tell_1 rfl (lv_at hl 2 rfl) ?_
  refine lv_if_eq (tgt := 14) hx hb dX7_tell_2 (by decide) (fun h2 => ?_) (fun h2 => ?_)
  · rw [if_pos h2]
    refine lv_aload_n hx hb dX7_tell_14 rfl (lv_at hl 0 rfl) ?_
    refine gt_12_7 C (fun _ h => List.mem_cons_of_mem _ (List.mem_append_right _ h)) (hts _ (List.mem_of_getElem? (i := 1) rfl)) w (v := (mu 12 7)) rfl dX7_tell_15 ?_
    refine lv_iload_n hx hb dX7_tell_18 rfl (lv_at hl 1 rfl) ?_
    refine lv_iconst (v := (-1 : Int32)) hx hb dX7_tell_19 (by decide) ?_
    refine lv_ixor hx hb dX7_tell_20 ?_
    refine lv_iand hx hb dX7_tell_21 ?_
    exact k_Md_tell_22 C w (lv_sub hl [] rfl)
  · rw [if_neg h2]
    refine lv_aload_n hx hb dX7_tell_5 rfl (lv_at hl 0 rfl) ?_
    refine gt_12_7 C (fun _ h => List.mem_cons_of_mem _ (List.mem_append_right _ h)) (hts _ (List.mem_of_getElem? (i := 1) rfl)) w (v := (mu 12 7)) rfl dX7_tell_6 ?_
    refine lv_iload_n hx hb dX7_tell_9 rfl (lv_at hl 1 rfl) ?_
    refine lv_ior hx hb dX7_tell_10 ?_
    refine lv_goto (tgt := 22) hx hb dX7_tell_11 (by decide) ?_
    exact k_Md_tell_22 C w (lv_sub hl [] rfl)
set_option maxHeartbeats 4000000 in
set_option maxRecDepth 100000 in
theorem c_Md_tell (l : Launch) (A : Nat → Prop) (D : va_G) (cA : Nat → ClassId) (tb : Nat) (ad : Nat → Nat) (mu nu : Mu) (x1 : Int32) (x2 : Int32) : Met l yX7_tell wsX7_tell ({ frames := 0, cells := 0, slots := 0, locals := 0 }) (va_Pc [.ref (ad 12), .int x1, .int x2] (Pw A D cA tb ad nu mu)) (va_Qv (fun (u : Mu × Mu) => u = (nu, F_Md_tell x1 x2 mu)) (Bw A D cA ad) A) 0 0 A := by
  refine Met.ofW (cc := cX7_tell) (maxL := 3) (ret := none) (by decide) rfl ?_
  intro p e s m args below meth c s₁ B hml hv
  obtain ⟨rfl, w0⟩ := hv
  have C : Cx cX7_tell 3 none wsX7_tell RX7 A D cA tb p s m _ meth c := ⟨B.exec, B.bytes, B.returns, hml, findClass_of_methodNamed B.named, atoms_spec (ws := wsX7_tell) B.pre, B.notSynchronized, w0.2.1, w0.2.2.2.1, w0.2.2.2.2⟩
  have hl := lv_entry ([.ref (ad 12), .int x1, .int x2]) (n := 3) (Nat.le_of_ble_eq_true rfl)
  rw [lg_entry_eq]
  exact k_Md_tell C w0.wd hl
def F_Md_reset_18 (mu : Mu) : Mu := (ps (ps mu 12 8 0) 12 9 0)
set_option maxHeartbeats 4000000 in
set_option maxRecDepth 100000 in
theorem k_Md_reset_18 (C : Cx cX7_reset 1 none wsX7_reset RX7 A D cA tb p s m args meth c) {mu nu : Mu} {H : Heap} {locs : List Loc} {ls : Array Slot} (w : Wd A D cA ad s nu mu H locs) (hl : lv_has ls 1 [(0, .ref (ad 12))]) : W p l e { frames := 4, cells := 0, slots := 0, locals := 86 } s m args below meth c H locs 0 0 (QV A D cA ad below args s nu (F_Md_reset_18 mu)) (F0 m 18 ls []) := by
  have hx := C.1
  have hb := C.2.1
  have hts := C.2.2.2.2.2.1
  have hown := C.2.2.2.2.1
  unfold F_Md_reset_18
  refine lv_aload_n hx hb dX7_reset_18 rfl (lv_at hl 0 rfl) ?_
  refine lv_iconst (v := 0) hx hb dX7_reset_19 (by decide) ?_
  refine pt_12_8 C (fun _ h => List.mem_cons_of_mem _ (List.mem_append_right _ h)) (hts _ (List.mem_of_getElem? (i := 3) rfl)) w (Or.inl rfl) dX7_reset_20 (fun H locs w => ?_)
  refine lv_aload_n hx hb dX7_reset_23 rfl (lv_at hl 0 rfl) ?_
  refine lv_iconst (v := 0) hx hb dX7_reset_24 (by decide) ?_
  refine pt_12_9 C (fun _ h => List.mem_cons_of_mem _ (List.mem_append_right _ h)) (hts _ (List.mem_of_getElem? (i := 4) rfl)) w (Or.inl rfl) dX7_reset_25 (fun H locs w => ?_)
  exact retV C w dX7_reset_28
def F_Md_reset_8 (y1 : Int32) (mu : Mu) : Mu := F_Md_reset_18 (F_Md_tell 16 1 (ps mu 12 6 y1))
set_option maxHeartbeats 4000000 in
set_option maxRecDepth 100000 in
theorem k_Md_reset_8 (C : Cx cX7_reset 1 none wsX7_reset RX7 A D cA tb p s m args meth c) {mu nu : Mu} {y1 : Int32} {H : Heap} {locs : List Loc} {ls : Array Slot} (w : Wd A D cA ad s nu mu H locs) (hl : lv_has ls 1 [(0, .ref (ad 12))]) : W p l e { frames := 4, cells := 0, slots := 0, locals := 86 } s m args below meth c H locs 0 0 (QV A D cA ad below args s nu (F_Md_reset_8 y1 mu)) (F0 m 8 ls [.int y1, .ref (ad 12)]) := by
  have hx := C.1
  have hb := C.2.1
  have hts := C.2.2.2.2.2.1
  have hown := C.2.2.2.2.1
  unfold F_Md_reset_8
  refine pt_12_6 C (fun _ h => List.mem_cons_of_mem _ (List.mem_append_right _ h)) (hts _ (List.mem_of_getElem? (i := 2) rfl)) w dX7_reset_8 (fun H locs w => ?_)
  refine lv_aload_n hx hb dX7_reset_11 rfl (lv_at hl 0 rfl) ?_
  refine lv_bipush (v := 16) hx hb dX7_reset_12 (by decide) ?_
  refine lv_iconst (v := 1) hx hb dX7_reset_14 (by decide) ?_
  refine kcV (k := 12) (ci := 7) (As := [.int 16, .int 1]) (rest := []) C w rfl rfl (c_Md_tell l A D cA tb ad (ps mu 12 6 y1) nu 16 1) (cwV 2 hts gX7_reset_X7_tell rfl rfl rfl (by decide +kernel) ⟨Nat.le_of_ble_eq_true rfl, Nat.le_of_ble_eq_true rfl⟩) rfl rfl hl.1 (Nat.le_of_ble_eq_true rfl) dX7_reset_15 (fun H locs w => ?_)
  exact k_Md_reset_18 C w (lv_sub hl [0] rfl)
def F_Md_reset (mu : Mu) : Mu := F_Md_reset_8 ((F_Md_readWord 65534 mu).1) ((F_Md_readWord 65534 mu).2)
set_option maxHeartbeats 4000000 in
set_option maxRecDepth 100000 in
theorem k_Md_reset (C : Cx cX7_reset 1 none wsX7_reset RX7 A D cA tb p s m args meth c) {mu nu : Mu} {H : Heap} {locs : List Loc} {ls : Array Slot} (w : Wd A D cA ad s nu mu H locs) (hl : lv_has ls 1 [(0, .ref (ad 12))]) : W p l e { frames := 4, cells := 0, slots := 0, locals := 86 } s m args below meth c H locs 0 0 (QV A D cA ad below args s nu (F_Md_reset mu)) (F0 m 0 ls []) := by
  have hx := C.1
  have hb := C.2.1
  have hts := C.2.2.2.2.2.1
  have hown := C.2.2.2.2.1
  unfold F_Md_reset
  refine lv_aload_n hx hb dX7_reset_0 rfl (lv_at hl 0 rfl) ?_
  refine lv_aload_n hx hb dX7_reset_1 rfl (lv_at hl 0 rfl) ?_
  refine lv_ldcw (v := 65534) hx hb hown (hts _ (List.mem_of_getElem? (i := 1) rfl)) dX7_reset_2 ?_
  refine kcI (k := 12) (ci := 7) (As := [.int 65534]) (rest := [.ref (ad 12)]) C w rfl rfl (c_Md_readWord l A D cA tb ad mu nu 65534) (cwV 1 hts gX7_reset_X7_readWord rfl rfl rfl (by decide +kernel) ⟨Nat.le_of_ble_eq_true rfl, Nat.le_of_ble_eq_true rfl⟩) rfl rfl hl.1 (Nat.le_of_ble_eq_true rfl) dX7_reset_5 (fun H locs w => ?_)
  exact k_Md_reset_8 C w (lv_sub hl [0] rfl)
set_option maxHeartbeats 4000000 in
set_option maxRecDepth 100000 in
theorem c_Md_reset (l : Launch) (A : Nat → Prop) (D : va_G) (cA : Nat → ClassId) (tb : Nat) (ad : Nat → Nat) (mu nu : Mu) : Met l yX7_reset wsX7_reset ({ frames := 4, cells := 0, slots := 0, locals := 86 }) (va_Pc [.ref (ad 12)] (Pw A D cA tb ad nu mu)) (va_Qv (fun (u : Mu × Mu) => u = (nu, F_Md_reset mu)) (Bw A D cA ad) A) 0 0 A := by
  refine Met.ofW (cc := cX7_reset) (maxL := 1) (ret := none) (by decide) rfl ?_
  intro p e s m args below meth c s₁ B hml hv
  obtain ⟨rfl, w0⟩ := hv
  have C : Cx cX7_reset 1 none wsX7_reset RX7 A D cA tb p s m _ meth c := ⟨B.exec, B.bytes, B.returns, hml, findClass_of_methodNamed B.named, atoms_spec (ws := wsX7_reset) B.pre, B.notSynchronized, w0.2.1, w0.2.2.2.1, w0.2.2.2.2⟩
  have hl := lv_entry ([.ref (ad 12)]) (n := 1) (Nat.le_of_ble_eq_true rfl)
  rw [lg_entry_eq]
  exact k_Md_reset C w0.wd hl
def F_Md_bytesTime (mu : Mu) : Int32 := (if ((mu 12 16) &&& 3) = (0 : Int32) then 1 else (if ((mu 12 16) &&& 3) = (1 : Int32) then 16 else 64))
set_option maxHeartbeats 4000000 in
set_option maxRecDepth 100000 in
theorem k_Md_bytesTime (C : Cx cX7_bytesTime 1 (some .int) wsX7_bytesTime RX7 A D cA tb p s m args meth c) {mu nu : Mu} {H : Heap} {locs : List Loc} {ls : Array Slot} (w : Wd A D cA ad s nu mu H locs) (hl : lv_has ls 1 [(0, .ref (ad 12))]) : W p l e { frames := 0, cells := 0, slots := 0, locals := 0 } s m args below meth c H locs 0 0 (QI A D cA ad below args s (F_Md_bytesTime mu) nu mu) (F0 m 0 ls []) := by
  have hx := C.1
  have hb := C.2.1
  have hts := C.2.2.2.2.2.1
  have hown := C.2.2.2.2.1
  unfold F_Md_bytesTime
  refine lv_aload_n hx hb dX7_bytesTime_0 rfl (lv_at hl 0 rfl) ?_
  refine gt_12_16 C (fun _ h => List.mem_cons_of_mem _ (List.mem_append_right _ h)) (hts _ (List.mem_of_getElem? (i := 1) rfl)) w (v := (mu 12 16)) rfl dX7_bytesTime_1 ?_
  refine lv_iconst (v := 3) hx hb dX7_bytesTime_4 (by decide) ?_
  refine lv_iand hx hb dX7_bytesTime_5 ?_
  refine lv_if_ne (tgt := 13) hx hb dX7_bytesTime_6 (by decide) (fun h6 => ?_) (fun h6 => ?_)
  · rw [if_neg h6]
    refine lv_aload_n hx hb dX7_bytesTime_13 rfl (lv_at hl 0 rfl) ?_
    refine gt_12_16 C (fun _ h => List.mem_cons_of_mem _ (List.mem_append_right _ h)) (hts _ (List.mem_of_getElem? (i := 1) rfl)) w (v := (mu 12 16)) rfl dX7_bytesTime_14 ?_
    refine lv_iconst (v := 3) hx hb dX7_bytesTime_17 (by decide) ?_
    refine lv_iand hx hb dX7_bytesTime_18 ?_
    refine lv_iconst (v := 1) hx hb dX7_bytesTime_19 (by decide) ?_
    refine lv_icmp_ne (tgt := 28) hx hb dX7_bytesTime_20 (by decide) (fun h20 => ?_) (fun h20 => ?_)
    · rw [if_neg h20]
      refine lv_bipush (v := 64) hx hb dX7_bytesTime_28 (by decide) ?_
      exact retI C w dX7_bytesTime_30
    · rw [if_pos h20]
      refine lv_bipush (v := 16) hx hb dX7_bytesTime_23 (by decide) ?_
      refine lv_goto (tgt := 30) hx hb dX7_bytesTime_25 (by decide) ?_
      exact retI C w dX7_bytesTime_30
  · rw [if_pos h6]
    refine lv_iconst (v := 1) hx hb dX7_bytesTime_9 (by decide) ?_
    refine lv_goto (tgt := 30) hx hb dX7_bytesTime_10 (by decide) ?_
    exact retI C w dX7_bytesTime_30
set_option maxHeartbeats 4000000 in
set_option maxRecDepth 100000 in
theorem c_Md_bytesTime (l : Launch) (A : Nat → Prop) (D : va_G) (cA : Nat → ClassId) (tb : Nat) (ad : Nat → Nat) (mu nu : Mu) : Met l yX7_bytesTime wsX7_bytesTime ({ frames := 0, cells := 0, slots := 0, locals := 0 }) (va_Pc [.ref (ad 12)] (Pw A D cA tb ad nu mu)) (va_Qi (fun (r : Int32) (u : Mu × Mu) => r = F_Md_bytesTime mu ∧ u = (nu, mu)) (Bw A D cA ad) A) 0 0 A := by
  refine Met.ofW (cc := cX7_bytesTime) (maxL := 1) (ret := (some .int)) (by decide) rfl ?_
  intro p e s m args below meth c s₁ B hml hv
  obtain ⟨rfl, w0⟩ := hv
  have C : Cx cX7_bytesTime 1 (some .int) wsX7_bytesTime RX7 A D cA tb p s m _ meth c := ⟨B.exec, B.bytes, B.returns, hml, findClass_of_methodNamed B.named, atoms_spec (ws := wsX7_bytesTime) B.pre, B.notSynchronized, w0.2.1, w0.2.2.2.1, w0.2.2.2.2⟩
  have hl := lv_entry ([.ref (ad 12)]) (n := 1) (Nat.le_of_ble_eq_true rfl)
  rw [lg_entry_eq]
  exact k_Md_bytesTime C w0.wd hl
def F_Md_comesIn_85 : Nat → Int32 → Mu → Mu
  | 0, _, mu => mu
  | n + 1, x1, mu => (if (mu 12 24) ≤ x1 then (ps mu 12 21 (F_Md_bytesTime mu)) else F_Md_comesIn_85 n (x1 + 1) (ps mu 21 x1.toNatClampNeg (mu 21 (x1 + 1).toNatClampNeg)))
set_option maxHeartbeats 4000000 in
set_option maxRecDepth 100000 in
theorem k_Md_comesIn_85 {nu : Mu} (C : Cx cX7_comesIn 2 none wsX7_comesIn RX7 A D cA tb p s m args meth c) : ∀ (n : Nat) {mu : Mu} {x1 : Int32} {H : Heap} {locs : List Loc} {ls : Array Slot} (_ : ((mu 12 24).toInt - (x1).toInt < (n : Int) ∧ 0 < n)) (w : Wd A D cA ad s nu mu H locs) (hl : lv_has ls 2 [(0, .ref (ad 12)), (1, .int x1)]) (hI : 0 ≤ x1.toInt ∧ (mu 12 24).toInt ≤ 63), W p l e { frames := 1, cells := 0, slots := 0, locals := 20 } s m args below meth c H locs 0 0 (QV A D cA ad below args s nu (F_Md_comesIn_85 n x1 mu)) (F0 m 85 ls []) := by
  have hx := C.1
  have hb := C.2.1
  have hts := C.2.2.2.2.2.1
  have hown := C.2.2.2.2.1
  intro n
  induction n with
  | zero =>
    intro mu x1 H locs ls hm
    exact absurd hm.2 (Nat.lt_irrefl 0)
  | succ n ih =>
    intro mu x1 H locs ls hm w hl hI
    rw [F_Md_comesIn_85]
    refine lv_iload_n hx hb dX7_comesIn_85 rfl (lv_at hl 1 rfl) ?_
    refine lv_aload_n hx hb dX7_comesIn_86 rfl (lv_at hl 0 rfl) ?_
    refine gt_12_24 C (fun _ h => List.mem_cons_of_mem _ (List.mem_append_right _ h)) (hts _ (List.mem_of_getElem? (i := 6) rfl)) w (v := (mu 12 24)) rfl dX7_comesIn_87 ?_
    refine lv_icmp_ge (tgt := 113) hx hb dX7_comesIn_90 (by decide) (fun h90 => ?_) (fun h90 => ?_)
    · rw [if_pos h90]
      refine lv_aload_n hx hb dX7_comesIn_113 rfl (lv_at hl 0 rfl) ?_
      refine lv_aload_n hx hb dX7_comesIn_114 rfl (lv_at hl 0 rfl) ?_
      refine kcI (k := 12) (ci := 7) (As := []) (rest := [.ref (ad 12)]) C w rfl rfl (c_Md_bytesTime l A D cA tb ad mu nu) (cwV 0 hts gX7_comesIn_X7_bytesTime rfl rfl rfl (by decide +kernel) ⟨Nat.le_of_ble_eq_true rfl, Nat.le_of_ble_eq_true rfl⟩) rfl rfl hl.1 (Nat.le_of_ble_eq_true rfl) dX7_comesIn_115 (fun H locs w => ?_)
      refine pt_12_21 C (fun _ h => List.mem_cons_of_mem _ (List.mem_append_right _ h)) (hts _ (List.mem_of_getElem? (i := 1) rfl)) w dX7_comesIn_118 (fun H locs w => ?_)
      exact retV C w dX7_comesIn_121
    · rw [if_neg h90]
      refine lv_aload_n hx hb dX7_comesIn_93 rfl (lv_at hl 0 rfl) ?_
      refine gt_12_29 C (fun _ h => List.mem_cons_of_mem _ (List.mem_append_right _ h)) (hts _ (List.mem_of_getElem? (i := 7) rfl)) w dX7_comesIn_94 ?_
      refine lv_iload_n hx hb dX7_comesIn_97 rfl (lv_at hl 1 rfl) ?_
      refine lv_aload_n hx hb dX7_comesIn_98 rfl (lv_at hl 0 rfl) ?_
      refine gt_12_29 C (fun _ h => List.mem_cons_of_mem _ (List.mem_append_right _ h)) (hts _ (List.mem_of_getElem? (i := 7) rfl)) w dX7_comesIn_99 ?_
      refine lv_iload_n hx hb dX7_comesIn_102 rfl (lv_at hl 1 rfl) ?_
      refine lv_iconst (v := 1) hx hb dX7_comesIn_103 (by decide) ?_
      refine lv_iadd hx hb dX7_comesIn_104 ?_
      refine ia_21 C w (co_b h90 hI) (v := (mu 21 (x1 + 1).toNatClampNeg)) rfl dX7_comesIn_105 ?_
      refine is_21 C w (co_a h90 hI) dX7_comesIn_106 (fun H locs w => ?_)
      refine lv_iinc (v := (x1 + 1)) (lv' := [(1, .int ((x1 + 1))), (0, .ref (ad 12))]) hx hb dX7_comesIn_107 hl (k := 1) rfl (by first | rfl | decide) (by decide) rfl (fun ls hl => ?_)
      refine lv_goto (tgt := 85) hx hb dX7_comesIn_110 (by decide) ?_
      exact ih (lp_dec h90 hm) w (lv_sub hl [1, 0] rfl) (co_st h90 hI)
def F_Md_comesIn (mu : Mu) : Mu := (if (mu 12 21) ≤ (0 : Int32) then (if (mu 12 24) ≤ (0 : Int32) then mu else F_Md_comesIn_85 (((ps (ps mu 12 19 (mu 21 (0 : Int32).toNatClampNeg)) 12 24 ((mu 12 24) - 1)) 12 24).toNatClampNeg + 1) 0 (ps (ps mu 12 19 (mu 21 (0 : Int32).toNatClampNeg)) 12 24 ((mu 12 24) - 1))) else (if ((mu 12 21) - 1) ≤ (0 : Int32) then (if (mu 12 26) = (0 : Int32) then (ps (ps (ps mu 12 21 ((mu 12 21) - 1)) 12 26 1) 12 17 (mu 12 19)) else (ps (ps mu 12 21 ((mu 12 21) - 1)) 12 27 1)) else (ps mu 12 21 ((mu 12 21) - 1))))
set_option maxHeartbeats 4000000 in
set_option maxRecDepth 100000 in
theorem k_Md_comesIn (C : Cx cX7_comesIn 2 none wsX7_comesIn RX7 A D cA tb p s m args meth c) {mu nu : Mu} {H : Heap} {locs : List Loc} {ls : Array Slot} (w : Wd A D cA ad s nu mu H locs) (hl : lv_has ls 2 [(0, .ref (ad 12))]) (hJ : Jm mu) : W p l e { frames := 1, cells := 0, slots := 0, locals := 20 } s m args below meth c H locs 0 0 (QV A D cA ad below args s nu (F_Md_comesIn mu)) (F0 m 0 ls []) := by
  have hx := C.1
  have hb := C.2.1
  have hts := C.2.2.2.2.2.1
  have hown := C.2.2.2.2.1
  unfold F_Md_comesIn
  refine lv_aload_n hx hb dX7_comesIn_0 rfl (lv_at hl 0 rfl) ?_
  refine gt_12_21 C (fun _ h => List.mem_cons_of_mem _ (List.mem_append_right _ h)) (hts _ (List.mem_of_getElem? (i := 1) rfl)) w (v := (mu 12 21)) rfl dX7_comesIn_1 ?_
  refine lv_if_le (tgt := 56) hx hb dX7_comesIn_4 (by decide) (fun h4 => ?_) (fun h4 => ?_)
  · rw [if_pos h4]
    refine lv_aload_n hx hb dX7_comesIn_56 rfl (lv_at hl 0 rfl) ?_
    refine gt_12_24 C (fun _ h => List.mem_cons_of_mem _ (List.mem_append_right _ h)) (hts _ (List.mem_of_getElem? (i := 6) rfl)) w (v := (mu 12 24)) rfl dX7_comesIn_57 ?_
    refine lv_if_le (tgt := 121) hx hb dX7_comesIn_60 (by decide) (fun h60 => ?_) (fun h60 => ?_)
    · rw [if_pos h60]
      exact retV C w dX7_comesIn_121
    · rw [if_neg h60]
      refine lv_aload_n hx hb dX7_comesIn_63 rfl (lv_at hl 0 rfl) ?_
      refine lv_aload_n hx hb dX7_comesIn_64 rfl (lv_at hl 0 rfl) ?_
      refine gt_12_29 C (fun _ h => List.mem_cons_of_mem _ (List.mem_append_right _ h)) (hts _ (List.mem_of_getElem? (i := 7) rfl)) w dX7_comesIn_65 ?_
      refine lv_iconst (v := 0) hx hb dX7_comesIn_68 (by decide) ?_
      refine ia_21 C w (vp_in_iff.mpr (by decide)) (v := (mu 21 (0 : Int32).toNatClampNeg)) rfl dX7_comesIn_69 ?_
      refine pt_12_19 C (fun _ h => List.mem_cons_of_mem _ (List.mem_append_right _ h)) (hts _ (List.mem_of_getElem? (i := 4) rfl)) w dX7_comesIn_70 (fun H locs w => ?_)
      refine lv_aload_n hx hb dX7_comesIn_73 rfl (lv_at hl 0 rfl) ?_
      refine lv_dup hx hb dX7_comesIn_74 rfl ?_
      refine gt_12_24 C (fun _ h => List.mem_cons_of_mem _ (List.mem_append_right _ h)) (hts _ (List.mem_of_getElem? (i := 6) rfl)) w (v := (mu 12 24)) rfl dX7_comesIn_75 ?_
      refine lv_iconst (v := 1) hx hb dX7_comesIn_78 (by decide) ?_
      refine lv_isub hx hb dX7_comesIn_79 ?_
      refine pt_12_24 C (fun _ h => List.mem_cons_of_mem _ (List.mem_append_right _ h)) (hts _ (List.mem_of_getElem? (i := 6) rfl)) w dX7_comesIn_80 (fun H locs w => ?_)
      refine lv_iconst (v := 0) hx hb dX7_comesIn_83 (by decide) ?_
      refine lv_istore_n (lv' := [(1, .int 0), (0, .ref (ad 12))]) hx hb dX7_comesIn_84 rfl hl (by decide) rfl (fun ls hl => ?_)
      exact k_Md_comesIn_85 C _ (lp_init _) w (lv_sub hl [1, 0] rfl) (co_in hJ h60)
  · rw [if_neg h4]
    refine lv_aload_n hx hb dX7_comesIn_7 rfl (lv_at hl 0 rfl) ?_
    refine lv_dup hx hb dX7_comesIn_8 rfl ?_
    refine gt_12_21 C (fun _ h => List.mem_cons_of_mem _ (List.mem_append_right _ h)) (hts _ (List.mem_of_getElem? (i := 1) rfl)) w (v := (mu 12 21)) rfl dX7_comesIn_9 ?_
    refine lv_iconst (v := 1) hx hb dX7_comesIn_12 (by decide) ?_
    refine lv_isub hx hb dX7_comesIn_13 ?_
    refine pt_12_21 C (fun _ h => List.mem_cons_of_mem _ (List.mem_append_right _ h)) (hts _ (List.mem_of_getElem? (i := 1) rfl)) w dX7_comesIn_14 (fun H locs w => ?_)
    refine lv_aload_n hx hb dX7_comesIn_17 rfl (lv_at hl 0 rfl) ?_
    refine gt_12_21 C (fun _ h => List.mem_cons_of_mem _ (List.mem_append_right _ h)) (hts _ (List.mem_of_getElem? (i := 1) rfl)) w (v := ((mu 12 21) - 1)) rfl dX7_comesIn_18 ?_
    refine lv_if_le (tgt := 25) hx hb dX7_comesIn_21 (by decide) (fun h21 => ?_) (fun h21 => ?_)
    · rw [if_pos h21]
      refine lv_aload_n hx hb dX7_comesIn_25 rfl (lv_at hl 0 rfl) ?_
      refine gt_12_26 C (fun _ h => List.mem_cons_of_mem _ (List.mem_append_right _ h)) (hts _ (List.mem_of_getElem? (i := 2) rfl)) w (v := (mu 12 26)) rfl dX7_comesIn_26 ?_
      refine lv_if_eq (tgt := 40) hx hb dX7_comesIn_29 (by decide) (fun h29 => ?_) (fun h29 => ?_)
      · rw [if_pos h29]
        refine lv_aload_n hx hb dX7_comesIn_40 rfl (lv_at hl 0 rfl) ?_
        refine lv_iconst (v := 1) hx hb dX7_comesIn_41 (by decide) ?_
        refine pt_12_26 C (fun _ h => List.mem_cons_of_mem _ (List.mem_append_right _ h)) (hts _ (List.mem_of_getElem? (i := 2) rfl)) w (Or.inr rfl) dX7_comesIn_42 (fun H locs w => ?_)
        refine lv_aload_n hx hb dX7_comesIn_45 rfl (lv_at hl 0 rfl) ?_
        refine lv_aload_n hx hb dX7_comesIn_46 rfl (lv_at hl 0 rfl) ?_
        refine gt_12_19 C (fun _ h => List.mem_cons_of_mem _ (List.mem_append_right _ h)) (hts _ (List.mem_of_getElem? (i := 4) rfl)) w (v := (mu 12 19)) rfl dX7_comesIn_47 ?_
        refine pt_12_17 C (fun _ h => List.mem_cons_of_mem _ (List.mem_append_right _ h)) (hts _ (List.mem_of_getElem? (i := 5) rfl)) w dX7_comesIn_50 (fun H locs w => ?_)
        refine lv_goto (tgt := 121) hx hb dX7_comesIn_53 (by decide) ?_
        exact retV C w dX7_comesIn_121
      · rw [if_neg h29]
        refine lv_aload_n hx hb dX7_comesIn_32 rfl (lv_at hl 0 rfl) ?_
        refine lv_iconst (v := 1) hx hb dX7_comesIn_33 (by decide) ?_
        refine pt_12_27 C (fun _ h => List.mem_cons_of_mem _ (List.mem_append_right _ h)) (hts _ (List.mem_of_getElem? (i := 3) rfl)) w (Or.inr rfl) dX7_comesIn_34 (fun H locs w => ?_)
        refine lv_goto (tgt := 121) hx hb dX7_comesIn_37 (by decide) ?_
        exact retV C w dX7_comesIn_121
    · rw [if_neg h21]
      exact retV C w dX7_comesIn_24
set_option maxHeartbeats 4000000 in
set_option maxRecDepth 100000 in
theorem c_Md_comesIn (l : Launch) (A : Nat → Prop) (D : va_G) (cA : Nat → ClassId) (tb : Nat) (ad : Nat → Nat) (mu nu : Mu) (hJ : Jm mu) : Met l yX7_comesIn wsX7_comesIn ({ frames := 1, cells := 0, slots := 0, locals := 20 }) (va_Pc [.ref (ad 12)] (Pw A D cA tb ad nu mu)) (va_Qv (fun (u : Mu × Mu) => u = (nu, F_Md_comesIn mu)) (Bw A D cA ad) A) 0 0 A := by
  refine Met.ofW (cc := cX7_comesIn) (maxL := 2) (ret := none) (by decide) rfl ?_
  intro p e s m args below meth c s₁ B hml hv
  obtain ⟨rfl, w0⟩ := hv
  have C : Cx cX7_comesIn 2 none wsX7_comesIn RX7 A D cA tb p s m _ meth c := ⟨B.exec, B.bytes, B.returns, hml, findClass_of_methodNamed B.named, atoms_spec (ws := wsX7_comesIn) B.pre, B.notSynchronized, w0.2.1, w0.2.2.2.1, w0.2.2.2.2⟩
  have hl := lv_entry ([.ref (ad 12)]) (n := 2) (Nat.le_of_ble_eq_true rfl)
  rw [lg_entry_eq]
  exact k_Md_comesIn C w0.wd hl hJ
theorem co_keep : ∀ (n : Nat) (x : Int32) (mu : Mu), (F_Md_comesIn_85 n x mu) 12 24 = mu 12 24 ∧ (F_Md_comesIn_85 n x mu) 12 23 = mu 12 23 := by
  intro n
  induction n with
  | zero => intro x mu; exact ⟨rfl, rfl⟩
  | succ n ih =>
    intro x mu
    rw [F_Md_comesIn_85]
    split
    · exact ⟨rfl, rfl⟩
    · exact ⟨(ih _ _).1, (ih _ _).2⟩
theorem ci_J {mu : Mu} (hJ : Jm mu) : Jm (F_Md_comesIn mu) := by
  unfold F_Md_comesIn
  split
  · split
    · exact hJ
    · rename_i h1 h2
      obtain ⟨⟨a1, a2⟩, c⟩ := hJ
      have e1 : (1 : Int32).toInt = 1 := by decide
      have e0 : (0 : Int32).toInt = 0 := by decide
      rw [i_le, e0] at h2
      have s : (mu 12 24 - 1).toInt = (mu 12 24).toInt - 1 := by rw [i_sub (by omega) (by omega), e1]
      unfold Jm
      rw [(co_keep _ _ _).1, (co_keep _ _ _).2]
      refine ⟨⟨?_, ?_⟩, c⟩
      · show 0 ≤ (mu 12 24 - 1).toInt
        omega
      · show (mu 12 24 - 1).toInt ≤ 64
        omega
  · split
    · split <;> exact hJ
    · exact hJ
def F_Md_goesOut (mu : Mu) : Mu := (if (mu 12 22) ≤ (0 : Int32) then (if (mu 12 28) = (0 : Int32) then mu else (ps (ps (ps mu 12 20 (mu 12 18)) 12 28 0) 12 22 (F_Md_bytesTime (ps (ps mu 12 20 (mu 12 18)) 12 28 0)))) else (if (0 : Int32) < ((mu 12 22) - 1) then (ps mu 12 22 ((mu 12 22) - 1)) else (if (mu 12 23) = (256 : Int32) then (ps mu 12 22 ((mu 12 22) - 1)) else (ps (ps (ps mu 12 22 ((mu 12 22) - 1)) 22 (mu 12 23).toNatClampNeg (mu 12 20)) 12 23 ((mu 12 23) + 1)))))
set_option maxHeartbeats 4000000 in
set_option maxRecDepth 100000 in
theorem k_Md_goesOut (C : Cx cX7_goesOut 1 none wsX7_goesOut RX7 A D cA tb p s m args meth c) {mu nu : Mu} {H : Heap} {locs : List Loc} {ls : Array Slot} (w : Wd A D cA ad s nu mu H locs) (hl : lv_has ls 1 [(0, .ref (ad 12))]) (hJ : Jm mu) : W p l e { frames := 1, cells := 0, slots := 0, locals := 20 } s m args below meth c H locs 0 0 (QV A D cA ad below args s nu (F_Md_goesOut mu)) (F0 m 0 ls []) := by
  have hx := C.1
  have hb := C.2.1
  have hts := C.2.2.2.2.2.1
  have hown := C.2.2.2.2.1
  unfold F_Md_goesOut
  refine lv_aload_n hx hb dX7_goesOut_0 rfl (lv_at hl 0 rfl) ?_
  refine gt_12_22 C (fun _ h => List.mem_cons_of_mem _ (List.mem_append_right _ h)) (hts _ (List.mem_of_getElem? (i := 1) rfl)) w (v := (mu 12 22)) rfl dX7_goesOut_1 ?_
  refine lv_if_le (tgt := 61) hx hb dX7_goesOut_4 (by decide) (fun h4 => ?_) (fun h4 => ?_)
  · rw [if_pos h4]
    refine lv_aload_n hx hb dX7_goesOut_61 rfl (lv_at hl 0 rfl) ?_
    refine gt_12_28 C (fun _ h => List.mem_cons_of_mem _ (List.mem_append_right _ h)) (hts _ (List.mem_of_getElem? (i := 5) rfl)) w (v := (mu 12 28)) rfl dX7_goesOut_62 ?_
    refine lv_if_eq (tgt := 89) hx hb dX7_goesOut_65 (by decide) (fun h65 => ?_) (fun h65 => ?_)
    · rw [if_pos h65]
      exact retV C w dX7_goesOut_89
    · rw [if_neg h65]
      refine lv_aload_n hx hb dX7_goesOut_68 rfl (lv_at hl 0 rfl) ?_
      refine lv_aload_n hx hb dX7_goesOut_69 rfl (lv_at hl 0 rfl) ?_
      refine gt_12_18 C (fun _ h => List.mem_cons_of_mem _ (List.mem_append_right _ h)) (hts _ (List.mem_of_getElem? (i := 6) rfl)) w (v := (mu 12 18)) rfl dX7_goesOut_70 ?_
      refine pt_12_20 C (fun _ h => List.mem_cons_of_mem _ (List.mem_append_right _ h)) (hts _ (List.mem_of_getElem? (i := 4) rfl)) w dX7_goesOut_73 (fun H locs w => ?_)
      refine lv_aload_n hx hb dX7_goesOut_76 rfl (lv_at hl 0 rfl) ?_
      refine lv_iconst (v := 0) hx hb dX7_goesOut_77 (by decide) ?_
      refine pt_12_28 C (fun _ h => List.mem_cons_of_mem _ (List.mem_append_right _ h)) (hts _ (List.mem_of_getElem? (i := 5) rfl)) w (Or.inl rfl) dX7_goesOut_78 (fun H locs w => ?_)
      refine lv_aload_n hx hb dX7_goesOut_81 rfl (lv_at hl 0 rfl) ?_
      refine lv_aload_n hx hb dX7_goesOut_82 rfl (lv_at hl 0 rfl) ?_
      refine kcI (k := 12) (ci := 7) (As := []) (rest := [.ref (ad 12)]) C w rfl rfl (c_Md_bytesTime l A D cA tb ad (ps (ps mu 12 20 (mu 12 18)) 12 28 0) nu) (cwV 0 hts gX7_goesOut_X7_bytesTime rfl rfl rfl (by decide +kernel) ⟨Nat.le_of_ble_eq_true rfl, Nat.le_of_ble_eq_true rfl⟩) rfl rfl hl.1 (Nat.le_of_ble_eq_true rfl) dX7_goesOut_83 (fun H locs w => ?_)
      refine pt_12_22 C (fun _ h => List.mem_cons_of_mem _ (List.mem_append_right _ h)) (hts _ (List.mem_of_getElem? (i := 1) rfl)) w dX7_goesOut_86 (fun H locs w => ?_)
      exact retV C w dX7_goesOut_89
  · rw [if_neg h4]
    refine lv_aload_n hx hb dX7_goesOut_7 rfl (lv_at hl 0 rfl) ?_
    refine lv_dup hx hb dX7_goesOut_8 rfl ?_
    refine gt_12_22 C (fun _ h => List.mem_cons_of_mem _ (List.mem_append_right _ h)) (hts _ (List.mem_of_getElem? (i := 1) rfl)) w (v := (mu 12 22)) rfl dX7_goesOut_9 ?_
    refine lv_iconst (v := 1) hx hb dX7_goesOut_12 (by decide) ?_
    refine lv_isub hx hb dX7_goesOut_13 ?_
    refine pt_12_22 C (fun _ h => List.mem_cons_of_mem _ (List.mem_append_right _ h)) (hts _ (List.mem_of_getElem? (i := 1) rfl)) w dX7_goesOut_14 (fun H locs w => ?_)
    refine lv_aload_n hx hb dX7_goesOut_17 rfl (lv_at hl 0 rfl) ?_
    refine gt_12_22 C (fun _ h => List.mem_cons_of_mem _ (List.mem_append_right _ h)) (hts _ (List.mem_of_getElem? (i := 1) rfl)) w (v := ((mu 12 22) - 1)) rfl dX7_goesOut_18 ?_
    refine lv_if_gt (tgt := 34) hx hb dX7_goesOut_21 (by decide) (fun h21 => ?_) (fun h21 => ?_)
    · rw [if_pos h21]
      exact retV C w dX7_goesOut_34
    · rw [if_neg h21]
      refine lv_aload_n hx hb dX7_goesOut_24 rfl (lv_at hl 0 rfl) ?_
      refine gt_12_23 C (fun _ h => List.mem_cons_of_mem _ (List.mem_append_right _ h)) (hts _ (List.mem_of_getElem? (i := 2) rfl)) w (v := (mu 12 23)) rfl dX7_goesOut_25 ?_
      refine lv_sipush (v := 256) hx hb dX7_goesOut_28 (by decide) ?_
      refine lv_icmp_ne (tgt := 35) hx hb dX7_goesOut_31 (by decide) (fun h31 => ?_) (fun h31 => ?_)
      · rw [if_neg h31]
        refine lv_aload_n hx hb dX7_goesOut_35 rfl (lv_at hl 0 rfl) ?_
        refine gt_12_30 C (fun _ h => List.mem_cons_of_mem _ (List.mem_append_right _ h)) (hts _ (List.mem_of_getElem? (i := 3) rfl)) w dX7_goesOut_36 ?_
        refine lv_aload_n hx hb dX7_goesOut_39 rfl (lv_at hl 0 rfl) ?_
        refine gt_12_23 C (fun _ h => List.mem_cons_of_mem _ (List.mem_append_right _ h)) (hts _ (List.mem_of_getElem? (i := 2) rfl)) w (v := (mu 12 23)) rfl dX7_goesOut_40 ?_
        refine lv_aload_n hx hb dX7_goesOut_43 rfl (lv_at hl 0 rfl) ?_
        refine gt_12_20 C (fun _ h => List.mem_cons_of_mem _ (List.mem_append_right _ h)) (hts _ (List.mem_of_getElem? (i := 4) rfl)) w (v := (mu 12 20)) rfl dX7_goesOut_44 ?_
        refine is_22 C w (vin_ne (c := 256) (by decide) hJ.2.1 hJ.2.2 h31) dX7_goesOut_47 (fun H locs w => ?_)
        refine lv_aload_n hx hb dX7_goesOut_48 rfl (lv_at hl 0 rfl) ?_
        refine lv_dup hx hb dX7_goesOut_49 rfl ?_
        refine gt_12_23 C (fun _ h => List.mem_cons_of_mem _ (List.mem_append_right _ h)) (hts _ (List.mem_of_getElem? (i := 2) rfl)) w (v := (mu 12 23)) rfl dX7_goesOut_50 ?_
        refine lv_iconst (v := 1) hx hb dX7_goesOut_53 (by decide) ?_
        refine lv_iadd hx hb dX7_goesOut_54 ?_
        refine pt_12_23 C (fun _ h => List.mem_cons_of_mem _ (List.mem_append_right _ h)) (hts _ (List.mem_of_getElem? (i := 2) rfl)) w dX7_goesOut_55 (fun H locs w => ?_)
        refine lv_goto (tgt := 89) hx hb dX7_goesOut_58 (by decide) ?_
        exact retV C w dX7_goesOut_89
      · rw [if_pos h31]
        exact retV C w dX7_goesOut_34
set_option maxHeartbeats 4000000 in
set_option maxRecDepth 100000 in
theorem c_Md_goesOut (l : Launch) (A : Nat → Prop) (D : va_G) (cA : Nat → ClassId) (tb : Nat) (ad : Nat → Nat) (mu nu : Mu) (hJ : Jm mu) : Met l yX7_goesOut wsX7_goesOut ({ frames := 1, cells := 0, slots := 0, locals := 20 }) (va_Pc [.ref (ad 12)] (Pw A D cA tb ad nu mu)) (va_Qv (fun (u : Mu × Mu) => u = (nu, F_Md_goesOut mu)) (Bw A D cA ad) A) 0 0 A := by
  refine Met.ofW (cc := cX7_goesOut) (maxL := 1) (ret := none) (by decide) rfl ?_
  intro p e s m args below meth c s₁ B hml hv
  obtain ⟨rfl, w0⟩ := hv
  have C : Cx cX7_goesOut 1 none wsX7_goesOut RX7 A D cA tb p s m _ meth c := ⟨B.exec, B.bytes, B.returns, hml, findClass_of_methodNamed B.named, atoms_spec (ws := wsX7_goesOut) B.pre, B.notSynchronized, w0.2.1, w0.2.2.2.1, w0.2.2.2.2⟩
  have hl := lv_entry ([.ref (ad 12)]) (n := 1) (Nat.le_of_ble_eq_true rfl)
  rw [lg_entry_eq]
  exact k_Md_goesOut C w0.wd hl hJ
def F_Md_sideAsks (x1 : Int32) (mu : Mu) : Int32 := (if ((mu 17 x1.toNatClampNeg) &&& 129) = (129 : Int32) then 1 else (if ((mu 17 x1.toNatClampNeg) &&& 104) = (72 : Int32) then 1 else 0))
set_option maxHeartbeats 4000000 in
set_option maxRecDepth 100000 in
theorem k_Md_sideAsks (C : Cx cX7_sideAsks 2 (some .boolean) wsX7_sideAsks RX7 A D cA tb p s m args meth c) {mu nu : Mu} {x1 : Int32} {H : Heap} {locs : List Loc} {ls : Array Slot} (w : Wd A D cA ad s nu mu H locs) (hl : lv_has ls 2 [(0, .ref (ad 12)), (1, .int x1)]) (hs : x1 = 0 ∨ x1 = 1) : W p l e { frames := 0, cells := 0, slots := 0, locals := 0 } s m args below meth c H locs 0 0 (QI A D cA ad below args s (F_Md_sideAsks x1 mu) nu mu) (F0 m 0 ls []) := by
  have hx := C.1
  have hb := C.2.1
  have hts := C.2.2.2.2.2.1
  have hown := C.2.2.2.2.1
  unfold F_Md_sideAsks
  refine lv_aload_n hx hb dX7_sideAsks_0 rfl (lv_at hl 0 rfl) ?_
  refine gt_12_12 C (fun _ h => List.mem_cons_of_mem _ (List.mem_append_right _ h)) (hts _ (List.mem_of_getElem? (i := 1) rfl)) w dX7_sideAsks_1 ?_
  refine lv_iload_n hx hb dX7_sideAsks_4 rfl (lv_at hl 1 rfl) ?_
  refine ia_17 C w (v_side hs) (v := (mu 17 x1.toNatClampNeg)) rfl dX7_sideAsks_5 ?_
  refine lv_sipush (v := 129) hx hb dX7_sideAsks_6 (by decide) ?_
  refine lv_iand hx hb dX7_sideAsks_9 ?_
  refine lv_sipush (v := 129) hx hb dX7_sideAsks_10 (by decide) ?_
  refine lv_icmp_eq (tgt := 30) hx hb dX7_sideAsks_13 (by decide) (fun h13 => ?_) (fun h13 => ?_)
  · rw [if_pos h13]
    refine lv_iconst (v := 1) hx hb dX7_sideAsks_30 (by decide) ?_
    refine lv_goto (tgt := 35) hx hb dX7_sideAsks_31 (by decide) ?_
    exact retZ C w dX7_sideAsks_35 (Or.inr rfl)
  · rw [if_neg h13]
    refine lv_aload_n hx hb dX7_sideAsks_16 rfl (lv_at hl 0 rfl) ?_
    refine gt_12_12 C (fun _ h => List.mem_cons_of_mem _ (List.mem_append_right _ h)) (hts _ (List.mem_of_getElem? (i := 1) rfl)) w dX7_sideAsks_17 ?_
    refine lv_iload_n hx hb dX7_sideAsks_20 rfl (lv_at hl 1 rfl) ?_
    refine ia_17 C w (v_side hs) (v := (mu 17 x1.toNatClampNeg)) rfl dX7_sideAsks_21 ?_
    refine lv_bipush (v := 104) hx hb dX7_sideAsks_22 (by decide) ?_
    refine lv_iand hx hb dX7_sideAsks_24 ?_
    refine lv_bipush (v := 72) hx hb dX7_sideAsks_25 (by decide) ?_
    refine lv_icmp_ne (tgt := 34) hx hb dX7_sideAsks_27 (by decide) (fun h27 => ?_) (fun h27 => ?_)
    · rw [if_neg h27]
      refine lv_iconst (v := 0) hx hb dX7_sideAsks_34 (by decide) ?_
      exact retZ C w dX7_sideAsks_35 (Or.inl rfl)
    · rw [if_pos h27]
      refine lv_iconst (v := 1) hx hb dX7_sideAsks_30 (by decide) ?_
      refine lv_goto (tgt := 35) hx hb dX7_sideAsks_31 (by decide) ?_
      exact retZ C w dX7_sideAsks_35 (Or.inr rfl)
set_option maxHeartbeats 4000000 in
set_option maxRecDepth 100000 in
theorem c_Md_sideAsks (l : Launch) (A : Nat → Prop) (D : va_G) (cA : Nat → ClassId) (tb : Nat) (ad : Nat → Nat) (mu nu : Mu) (x1 : Int32) (hs : x1 = 0 ∨ x1 = 1) : Met l yX7_sideAsks wsX7_sideAsks ({ frames := 0, cells := 0, slots := 0, locals := 0 }) (va_Pc [.ref (ad 12), .int x1] (Pw A D cA tb ad nu mu)) (va_Qi (fun (r : Int32) (u : Mu × Mu) => r = F_Md_sideAsks x1 mu ∧ u = (nu, mu)) (Bw A D cA ad) A) 0 0 A := by
  refine Met.ofW (cc := cX7_sideAsks) (maxL := 2) (ret := (some .boolean)) (by decide) rfl ?_
  intro p e s m args below meth c s₁ B hml hv
  obtain ⟨rfl, w0⟩ := hv
  have C : Cx cX7_sideAsks 2 (some .boolean) wsX7_sideAsks RX7 A D cA tb p s m _ meth c := ⟨B.exec, B.bytes, B.returns, hml, findClass_of_methodNamed B.named, atoms_spec (ws := wsX7_sideAsks) B.pre, B.notSynchronized, w0.2.1, w0.2.2.2.1, w0.2.2.2.2⟩
  have hl := lv_entry ([.ref (ad 12), .int x1]) (n := 2) (Nat.le_of_ble_eq_true rfl)
  rw [lg_entry_eq]
  exact k_Md_sideAsks C w0.wd hl hs
def F_Md_is (x1 : Int32) (mu : Mu) : Int32 := (if ((mu 12 7) &&& x1) = (0 : Int32) then 0 else 1)
set_option maxHeartbeats 4000000 in
set_option maxRecDepth 100000 in
theorem k_Md_is (C : Cx cX7_is 2 (some .boolean) wsX7_is RX7 A D cA tb p s m args meth c) {mu nu : Mu} {x1 : Int32} {H : Heap} {locs : List Loc} {ls : Array Slot} (w : Wd A D cA ad s nu mu H locs) (hl : lv_has ls 2 [(0, .ref (ad 12)), (1, .int x1)]) : W p l e { frames := 0, cells := 0, slots := 0, locals := 0 } s m args below meth c H locs 0 0 (QI A D cA ad below args s (F_Md_is x1 mu) nu mu) (F0 m 0 ls []) := by
  have hx := C.1
  have hb := C.2.1
  have hts := C.2.2.2.2.2.1
  have hown := C.2.2.2.2.1
  unfold F_Md_is
  refine lv_aload_n hx hb dX7_is_0 rfl (lv_at hl 0 rfl) ?_
  refine gt_12_7 C (fun _ h => List.mem_cons_of_mem _ (List.mem_append_right _ h)) (hts _ (List.mem_of_getElem? (i := 1) rfl)) w (v := (mu 12 7)) rfl dX7_is_1 ?_
  refine lv_iload_n hx hb dX7_is_4 rfl (lv_at hl 1 rfl) ?_
  refine lv_iand hx hb dX7_is_5 ?_
  refine lv_if_eq (tgt := 13) hx hb dX7_is_6 (by decide) (fun h6 => ?_) (fun h6 => ?_)
  · rw [if_pos h6]
    refine lv_iconst (v := 0) hx hb dX7_is_13 (by decide) ?_
    exact retZ C w dX7_is_14 (Or.inl rfl)
  · rw [if_neg h6]
    refine lv_iconst (v := 1) hx hb dX7_is_9 (by decide) ?_
    refine lv_goto (tgt := 14) hx hb dX7_is_10 (by decide) ?_
    exact retZ C w dX7_is_14 (Or.inr rfl)
set_option maxHeartbeats 4000000 in
set_option maxRecDepth 100000 in
theorem c_Md_is (l : Launch) (A : Nat → Prop) (D : va_G) (cA : Nat → ClassId) (tb : Nat) (ad : Nat → Nat) (mu nu : Mu) (x1 : Int32) : Met l yX7_is wsX7_is ({ frames := 0, cells := 0, slots := 0, locals := 0 }) (va_Pc [.ref (ad 12), .int x1] (Pw A D cA tb ad nu mu)) (va_Qi (fun (r : Int32) (u : Mu × Mu) => r = F_Md_is x1 mu ∧ u = (nu, mu)) (Bw A D cA ad) A) 0 0 A := by
  refine Met.ofW (cc := cX7_is) (maxL := 2) (ret := (some .boolean)) (by decide) rfl ?_
  intro p e s m args below meth c s₁ B hml hv
  obtain ⟨rfl, w0⟩ := hv
  have C : Cx cX7_is 2 (some .boolean) wsX7_is RX7 A D cA tb p s m _ meth c := ⟨B.exec, B.bytes, B.returns, hml, findClass_of_methodNamed B.named, atoms_spec (ws := wsX7_is) B.pre, B.notSynchronized, w0.2.1, w0.2.2.2.1, w0.2.2.2.2⟩
  have hl := lv_entry ([.ref (ad 12), .int x1]) (n := 2) (Nat.le_of_ble_eq_true rfl)
  rw [lg_entry_eq]
  exact k_Md_is C w0.wd hl
def F_Md_writeSide (x1 : Int32) (x2 : Int32) (mu : Mu) : Mu := (if ((mu 17 x1.toNatClampNeg) &&& 4) = (0 : Int32) then (ps mu 16 x1.toNatClampNeg x2) else (if x1 = (1 : Int32) then (if (F_Md_answers 1 (ps mu 15 x1.toNatClampNeg x2)) = (0 : Int32) then (ps mu 15 x1.toNatClampNeg x2) else (ps (ps mu 15 x1.toNatClampNeg x2) 20 (1 : Int32).toNatClampNeg 0)) else (ps mu 15 x1.toNatClampNeg x2)))
set_option maxHeartbeats 4000000 in
set_option maxRecDepth 100000 in
theorem k_Md_writeSide (C : Cx cX7_writeSide 3 none wsX7_writeSide RX7 A D cA tb p s m args meth c) {mu nu : Mu} {x1 : Int32} {x2 : Int32} {H : Heap} {locs : List Loc} {ls : Array Slot} (w : Wd A D cA ad s nu mu H locs) (hl : lv_has ls 3 [(0, .ref (ad 12)), (1, .int x1), (2, .int x2)]) (hs : x1 = 0 ∨ x1 = 1) : W p l e { frames := 1, cells := 0, slots := 0, locals := 21 } s m args below meth c H locs 0 0 (QV A D cA ad below args s nu (F_Md_writeSide x1 x2 mu)) (F0 m 0 ls []) := by
  have hx := C.1
  have hb := C.2.1
  have hts := C.2.2.2.2.2.1
  have hown := C.2.2.2.2.1
  unfold F_Md_writeSide
  refine lv_aload_n hx hb dX7_writeSide_0 rfl (lv_at hl 0 rfl) ?_
  refine gt_12_12 C (fun _ h => List.mem_cons_of_mem _ (List.mem_append_right _ h)) (hts _ (List.mem_of_getElem? (i := 1) rfl)) w dX7_writeSide_1 ?_
  refine lv_iload_n hx hb dX7_writeSide_4 rfl (lv_at hl 1 rfl) ?_
  refine ia_17 C w (v_side hs) (v := (mu 17 x1.toNatClampNeg)) rfl dX7_writeSide_5 ?_
  refine lv_iconst (v := 4) hx hb dX7_writeSide_6 (by decide) ?_
  refine lv_iand hx hb dX7_writeSide_7 ?_
  refine lv_if_ne (tgt := 19) hx hb dX7_writeSide_8 (by decide) (fun h8 => ?_) (fun h8 => ?_)
  · rw [if_neg h8]
    refine lv_aload_n hx hb dX7_writeSide_19 rfl (lv_at hl 0 rfl) ?_
    refine gt_12_10 C (fun _ h => List.mem_cons_of_mem _ (List.mem_append_right _ h)) (hts _ (List.mem_of_getElem? (i := 3) rfl)) w dX7_writeSide_20 ?_
    refine lv_iload_n hx hb dX7_writeSide_23 rfl (lv_at hl 1 rfl) ?_
    refine lv_iload_n hx hb dX7_writeSide_24 rfl (lv_at hl 2 rfl) ?_
    refine is_15 C w (v_side hs) dX7_writeSide_25 (fun H locs w => ?_)
    refine lv_iload_n hx hb dX7_writeSide_26 rfl (lv_at hl 1 rfl) ?_
    refine lv_iconst (v := 1) hx hb dX7_writeSide_27 (by decide) ?_
    refine lv_icmp_ne (tgt := 46) hx hb dX7_writeSide_28 (by decide) (fun h28 => ?_) (fun h28 => ?_)
    · rw [if_neg h28]
      exact retV C w dX7_writeSide_46
    · rw [if_pos h28]
      refine lv_aload_n hx hb dX7_writeSide_31 rfl (lv_at hl 0 rfl) ?_
      refine lv_iconst (v := 1) hx hb dX7_writeSide_32 (by decide) ?_
      refine kcI (k := 12) (ci := 7) (As := [.int 1]) (rest := []) C w rfl rfl (c_Md_answers l A D cA tb ad (ps mu 15 x1.toNatClampNeg x2) nu 1 (Or.inr rfl)) (cwV 1 hts gX7_writeSide_X7_answers rfl rfl rfl (by decide +kernel) ⟨Nat.le_of_ble_eq_true rfl, Nat.le_of_ble_eq_true rfl⟩) rfl rfl hl.1 (Nat.le_of_ble_eq_true rfl) dX7_writeSide_33 (fun H locs w => ?_)
      refine lv_if_eq (tgt := 46) hx hb dX7_writeSide_36 (by decide) (fun h36 => ?_) (fun h36 => ?_)
      · rw [if_pos h36]
        exact retV C w dX7_writeSide_46
      · rw [if_neg h36]
        refine lv_aload_n hx hb dX7_writeSide_39 rfl (lv_at hl 0 rfl) ?_
        refine gt_12_15 C (fun _ h => List.mem_cons_of_mem _ (List.mem_append_right _ h)) (hts _ (List.mem_of_getElem? (i := 4) rfl)) w dX7_writeSide_40 ?_
        refine lv_iconst (v := 1) hx hb dX7_writeSide_43 (by decide) ?_
        refine lv_iconst (v := 0) hx hb dX7_writeSide_44 (by decide) ?_
        refine is_20 C w (v_side (by first | exact Or.inl rfl | exact Or.inr rfl)) dX7_writeSide_45 (fun H locs w => ?_)
        exact retV C w dX7_writeSide_46
  · rw [if_pos h8]
    refine lv_aload_n hx hb dX7_writeSide_11 rfl (lv_at hl 0 rfl) ?_
    refine gt_12_11 C (fun _ h => List.mem_cons_of_mem _ (List.mem_append_right _ h)) (hts _ (List.mem_of_getElem? (i := 2) rfl)) w dX7_writeSide_12 ?_
    refine lv_iload_n hx hb dX7_writeSide_15 rfl (lv_at hl 1 rfl) ?_
    refine lv_iload_n hx hb dX7_writeSide_16 rfl (lv_at hl 2 rfl) ?_
    refine is_16 C w (v_side hs) dX7_writeSide_17 (fun H locs w => ?_)
    exact retV C w dX7_writeSide_18
set_option maxHeartbeats 4000000 in
set_option maxRecDepth 100000 in
theorem c_Md_writeSide (l : Launch) (A : Nat → Prop) (D : va_G) (cA : Nat → ClassId) (tb : Nat) (ad : Nat → Nat) (mu nu : Mu) (x1 : Int32) (x2 : Int32) (hs : x1 = 0 ∨ x1 = 1) : Met l yX7_writeSide wsX7_writeSide ({ frames := 1, cells := 0, slots := 0, locals := 21 }) (va_Pc [.ref (ad 12), .int x1, .int x2] (Pw A D cA tb ad nu mu)) (va_Qv (fun (u : Mu × Mu) => u = (nu, F_Md_writeSide x1 x2 mu)) (Bw A D cA ad) A) 0 0 A := by
  refine Met.ofW (cc := cX7_writeSide) (maxL := 3) (ret := none) (by decide) rfl ?_
  intro p e s m args below meth c s₁ B hml hv
  obtain ⟨rfl, w0⟩ := hv
  have C : Cx cX7_writeSide 3 none wsX7_writeSide RX7 A D cA tb p s m _ meth c := ⟨B.exec, B.bytes, B.returns, hml, findClass_of_methodNamed B.named, atoms_spec (ws := wsX7_writeSide) B.pre, B.notSynchronized, w0.2.1, w0.2.2.2.1, w0.2.2.2.2⟩
  have hl := lv_entry ([.ref (ad 12), .int x1, .int x2]) (n := 3) (Nat.le_of_ble_eq_true rfl)
  rw [lg_entry_eq]
  exact k_Md_writeSide C w0.wd hl hs
def F_Md_writeSideControl (x1 : Int32) (x2 : Int32) (mu : Mu) : Mu := (if (F_Md_answers x1 (ps mu 17 x1.toNatClampNeg (((mu 17 x1.toNatClampNeg) &&& 192) ||| (x2 &&& 63)))) = (0 : Int32) then (if (x2 &&& 32) = (0 : Int32) then (ps mu 17 x1.toNatClampNeg (((mu 17 x1.toNatClampNeg) &&& 192) ||| (x2 &&& 63))) else (ps (ps mu 17 x1.toNatClampNeg (((mu 17 x1.toNatClampNeg) &&& 192) ||| (x2 &&& 63))) 20 x1.toNatClampNeg ((x2 >>> (3 &&& 31)) &&& 1))) else (ps (ps mu 17 x1.toNatClampNeg (((mu 17 x1.toNatClampNeg) &&& 192) ||| (x2 &&& 63))) 20 x1.toNatClampNeg 1))
set_option maxHeartbeats 4000000 in
set_option maxRecDepth 100000 in
theorem k_Md_writeSideControl (C : Cx cX7_writeSideControl 3 none wsX7_writeSideControl RX7 A D cA tb p s m args meth c) {mu nu : Mu} {x1 : Int32} {x2 : Int32} {H : Heap} {locs : List Loc} {ls : Array Slot} (w : Wd A D cA ad s nu mu H locs) (hl : lv_has ls 3 [(0, .ref (ad 12)), (1, .int x1), (2, .int x2)]) (hs : x1 = 0 ∨ x1 = 1) : W p l e { frames := 1, cells := 0, slots := 0, locals := 21 } s m args below meth c H locs 0 0 (QV A D cA ad below args s nu (F_Md_writeSideControl x1 x2 mu)) (F0 m 0 ls []) := by
  have hx := C.1
  have hb := C.2.1
  have hts := C.2.2.2.2.2.1
  have hown := C.2.2.2.2.1
  unfold F_Md_writeSideControl
  refine lv_aload_n hx hb dX7_writeSideControl_0 rfl (lv_at hl 0 rfl) ?_
  refine gt_12_12 C (fun _ h => List.mem_cons_of_mem _ (List.mem_append_right _ h)) (hts _ (List.mem_of_getElem? (i := 1) rfl)) w dX7_writeSideControl_1 ?_
  refine lv_iload_n hx hb dX7_writeSideControl_4 rfl (lv_at hl 1 rfl) ?_
  refine lv_aload_n hx hb dX7_writeSideControl_5 rfl (lv_at hl 0 rfl) ?_
  refine gt_12_12 C (fun _ h => List.mem_cons_of_mem _ (List.mem_append_right _ h)) (hts _ (List.mem_of_getElem? (i := 1) rfl)) w dX7_writeSideControl_6 ?_
  refine lv_iload_n hx hb dX7_writeSideControl_9 rfl (lv_at hl 1 rfl) ?_
  refine ia_17 C w (v_side hs) (v := (mu 17 x1.toNatClampNeg)) rfl dX7_writeSideControl_10 ?_
  refine lv_sipush (v := 192) hx hb dX7_writeSideControl_11 (by decide) ?_
  refine lv_iand hx hb dX7_writeSideControl_14 ?_
  refine lv_iload_n hx hb dX7_writeSideControl_15 rfl (lv_at hl 2 rfl) ?_
  refine lv_bipush (v := 63) hx hb dX7_writeSideControl_16 (by decide) ?_
  refine lv_iand hx hb dX7_writeSideControl_18 ?_
  refine lv_ior hx hb dX7_writeSideControl_19 ?_
  refine is_17 C w (v_side hs) dX7_writeSideControl_20 (fun H locs w => ?_)
  refine lv_aload_n hx hb dX7_writeSideControl_21 rfl (lv_at hl 0 rfl) ?_
  refine lv_iload_n hx hb dX7_writeSideControl_22 rfl (lv_at hl 1 rfl) ?_
  refine kcI (k := 12) (ci := 7) (As := [.int x1]) (rest := []) C w rfl rfl (c_Md_answers l A D cA tb ad (ps mu 17 x1.toNatClampNeg (((mu 17 x1.toNatClampNeg) &&& 192) ||| (x2 &&& 63))) nu x1 hs) (cwV 1 hts gX7_writeSideControl_X7_answers rfl rfl rfl (by decide +kernel) ⟨Nat.le_of_ble_eq_true rfl, Nat.le_of_ble_eq_true rfl⟩) rfl rfl hl.1 (Nat.le_of_ble_eq_true rfl) dX7_writeSideControl_23 (fun H locs w => ?_)
  refine lv_if_eq (tgt := 39) hx hb dX7_writeSideControl_26 (by decide) (fun h26 => ?_) (fun h26 => ?_)
  · rw [if_pos h26]
    refine lv_iload_n hx hb dX7_writeSideControl_39 rfl (lv_at hl 2 rfl) ?_
    refine lv_bipush (v := 32) hx hb dX7_writeSideControl_40 (by decide) ?_
    refine lv_iand hx hb dX7_writeSideControl_42 ?_
    refine lv_if_eq (tgt := 57) hx hb dX7_writeSideControl_43 (by decide) (fun h43 => ?_) (fun h43 => ?_)
    · rw [if_pos h43]
      exact retV C w dX7_writeSideControl_57
    · rw [if_neg h43]
      refine lv_aload_n hx hb dX7_writeSideControl_46 rfl (lv_at hl 0 rfl) ?_
      refine gt_12_15 C (fun _ h => List.mem_cons_of_mem _ (List.mem_append_right _ h)) (hts _ (List.mem_of_getElem? (i := 2) rfl)) w dX7_writeSideControl_47 ?_
      refine lv_iload_n hx hb dX7_writeSideControl_50 rfl (lv_at hl 1 rfl) ?_
      refine lv_iload_n hx hb dX7_writeSideControl_51 rfl (lv_at hl 2 rfl) ?_
      refine lv_iconst (v := 3) hx hb dX7_writeSideControl_52 (by decide) ?_
      refine lv_ishr hx hb dX7_writeSideControl_53 ?_
      refine lv_iconst (v := 1) hx hb dX7_writeSideControl_54 (by decide) ?_
      refine lv_iand hx hb dX7_writeSideControl_55 ?_
      refine is_20 C w (v_side hs) dX7_writeSideControl_56 (fun H locs w => ?_)
      exact retV C w dX7_writeSideControl_57
  · rw [if_neg h26]
    refine lv_aload_n hx hb dX7_writeSideControl_29 rfl (lv_at hl 0 rfl) ?_
    refine gt_12_15 C (fun _ h => List.mem_cons_of_mem _ (List.mem_append_right _ h)) (hts _ (List.mem_of_getElem? (i := 2) rfl)) w dX7_writeSideControl_30 ?_
    refine lv_iload_n hx hb dX7_writeSideControl_33 rfl (lv_at hl 1 rfl) ?_
    refine lv_iconst (v := 1) hx hb dX7_writeSideControl_34 (by decide) ?_
    refine is_20 C w (v_side hs) dX7_writeSideControl_35 (fun H locs w => ?_)
    refine lv_goto (tgt := 57) hx hb dX7_writeSideControl_36 (by decide) ?_
    exact retV C w dX7_writeSideControl_57
set_option maxHeartbeats 4000000 in
set_option maxRecDepth 100000 in
theorem c_Md_writeSideControl (l : Launch) (A : Nat → Prop) (D : va_G) (cA : Nat → ClassId) (tb : Nat) (ad : Nat → Nat) (mu nu : Mu) (x1 : Int32) (x2 : Int32) (hs : x1 = 0 ∨ x1 = 1) : Met l yX7_writeSideControl wsX7_writeSideControl ({ frames := 1, cells := 0, slots := 0, locals := 21 }) (va_Pc [.ref (ad 12), .int x1, .int x2] (Pw A D cA tb ad nu mu)) (va_Qv (fun (u : Mu × Mu) => u = (nu, F_Md_writeSideControl x1 x2 mu)) (Bw A D cA ad) A) 0 0 A := by
  refine Met.ofW (cc := cX7_writeSideControl) (maxL := 3) (ret := none) (by decide) rfl ?_
  intro p e s m args below meth c s₁ B hml hv
  obtain ⟨rfl, w0⟩ := hv
  have C : Cx cX7_writeSideControl 3 none wsX7_writeSideControl RX7 A D cA tb p s m _ meth c := ⟨B.exec, B.bytes, B.returns, hml, findClass_of_methodNamed B.named, atoms_spec (ws := wsX7_writeSideControl) B.pre, B.notSynchronized, w0.2.1, w0.2.2.2.1, w0.2.2.2.2⟩
  have hl := lv_entry ([.ref (ad 12), .int x1, .int x2]) (n := 3) (Nat.le_of_ble_eq_true rfl)
  rw [lg_entry_eq]
  exact k_Md_writeSideControl C w0.wd hl hs
def F_Md_writeSerialControl_18 (y1 : Int32) (mu : Mu) : Mu := (if y1 = (0 : Int32) then (ps mu 12 25 y1) else (ps (ps (ps (ps (ps (ps mu 12 25 y1) 12 26 0) 12 27 0) 12 28 0) 12 21 0) 12 22 0))
set_option maxHeartbeats 4000000 in
set_option maxRecDepth 100000 in
theorem k_Md_writeSerialControl_18 (C : Cx cX7_writeSerialControl 2 none wsX7_writeSerialControl RX7 A D cA tb p s m args meth c) {mu nu : Mu} {y1 : Int32} {H : Heap} {locs : List Loc} {ls : Array Slot} (w : Wd A D cA ad s nu mu H locs) (hl : lv_has ls 2 [(0, .ref (ad 12))]) (hby1 : y1 = 0 ∨ y1 = 1) : W p l e { frames := 0, cells := 0, slots := 0, locals := 0 } s m args below meth c H locs 0 0 (QV A D cA ad below args s nu (F_Md_writeSerialControl_18 y1 mu)) (F0 m 18 ls [.int y1, .ref (ad 12)]) := by
  have hx := C.1
  have hb := C.2.1
  have hts := C.2.2.2.2.2.1
  have hown := C.2.2.2.2.1
  unfold F_Md_writeSerialControl_18
  refine pt_12_25 C (fun _ h => List.mem_cons_of_mem _ (List.mem_append_right _ h)) (hts _ (List.mem_of_getElem? (i := 2) rfl)) w hby1 dX7_writeSerialControl_18 (fun H locs w => ?_)
  refine lv_aload_n hx hb dX7_writeSerialControl_21 rfl (lv_at hl 0 rfl) ?_
  refine gt_12_25 C (fun _ h => List.mem_cons_of_mem _ (List.mem_append_right _ h)) (hts _ (List.mem_of_getElem? (i := 2) rfl)) w (v := y1) rfl dX7_writeSerialControl_22 ?_
  refine lv_if_ne (tgt := 29) hx hb dX7_writeSerialControl_25 (by decide) (fun h25 => ?_) (fun h25 => ?_)
  · rw [if_neg h25]
    refine lv_aload_n hx hb dX7_writeSerialControl_29 rfl (lv_at hl 0 rfl) ?_
    refine lv_iconst (v := 0) hx hb dX7_writeSerialControl_30 (by decide) ?_
    refine pt_12_26 C (fun _ h => List.mem_cons_of_mem _ (List.mem_append_right _ h)) (hts _ (List.mem_of_getElem? (i := 3) rfl)) w (Or.inl rfl) dX7_writeSerialControl_31 (fun H locs w => ?_)
    refine lv_aload_n hx hb dX7_writeSerialControl_34 rfl (lv_at hl 0 rfl) ?_
    refine lv_iconst (v := 0) hx hb dX7_writeSerialControl_35 (by decide) ?_
    refine pt_12_27 C (fun _ h => List.mem_cons_of_mem _ (List.mem_append_right _ h)) (hts _ (List.mem_of_getElem? (i := 4) rfl)) w (Or.inl rfl) dX7_writeSerialControl_36 (fun H locs w => ?_)
    refine lv_aload_n hx hb dX7_writeSerialControl_39 rfl (lv_at hl 0 rfl) ?_
    refine lv_iconst (v := 0) hx hb dX7_writeSerialControl_40 (by decide) ?_
    refine pt_12_28 C (fun _ h => List.mem_cons_of_mem _ (List.mem_append_right _ h)) (hts _ (List.mem_of_getElem? (i := 5) rfl)) w (Or.inl rfl) dX7_writeSerialControl_41 (fun H locs w => ?_)
    refine lv_aload_n hx hb dX7_writeSerialControl_44 rfl (lv_at hl 0 rfl) ?_
    refine lv_iconst (v := 0) hx hb dX7_writeSerialControl_45 (by decide) ?_
    refine pt_12_21 C (fun _ h => List.mem_cons_of_mem _ (List.mem_append_right _ h)) (hts _ (List.mem_of_getElem? (i := 6) rfl)) w dX7_writeSerialControl_46 (fun H locs w => ?_)
    refine lv_aload_n hx hb dX7_writeSerialControl_49 rfl (lv_at hl 0 rfl) ?_
    refine lv_iconst (v := 0) hx hb dX7_writeSerialControl_50 (by decide) ?_
    refine pt_12_22 C (fun _ h => List.mem_cons_of_mem _ (List.mem_append_right _ h)) (hts _ (List.mem_of_getElem? (i := 7) rfl)) w dX7_writeSerialControl_51 (fun H locs w => ?_)
    exact retV C w dX7_writeSerialControl_54
  · rw [if_pos h25]
    exact retV C w dX7_writeSerialControl_28
def F_Md_writeSerialControl (x1 : Int32) (mu : Mu) : Mu := (if (x1 &&& 3) = (3 : Int32) then F_Md_writeSerialControl_18 1 (ps mu 12 16 x1) else F_Md_writeSerialControl_18 0 (ps mu 12 16 x1))
set_option maxHeartbeats 4000000 in
set_option maxRecDepth 100000 in
theorem k_Md_writeSerialControl (C : Cx cX7_writeSerialControl 2 none wsX7_writeSerialControl RX7 A D cA tb p s m args meth c) {mu nu : Mu} {x1 : Int32} {H : Heap} {locs : List Loc} {ls : Array Slot} (w : Wd A D cA ad s nu mu H locs) (hl : lv_has ls 2 [(0, .ref (ad 12)), (1, .int x1)]) : W p l e { frames := 0, cells := 0, slots := 0, locals := 0 } s m args below meth c H locs 0 0 (QV A D cA ad below args s nu (F_Md_writeSerialControl x1 mu)) (F0 m 0 ls []) := by
  have hx := C.1
  have hb := C.2.1
  have hts := C.2.2.2.2.2.1
  have hown := C.2.2.2.2.1
  unfold F_Md_writeSerialControl
  refine lv_aload_n hx hb dX7_writeSerialControl_0 rfl (lv_at hl 0 rfl) ?_
  refine lv_iload_n hx hb dX7_writeSerialControl_1 rfl (lv_at hl 1 rfl) ?_
  refine pt_12_16 C (fun _ h => List.mem_cons_of_mem _ (List.mem_append_right _ h)) (hts _ (List.mem_of_getElem? (i := 1) rfl)) w dX7_writeSerialControl_2 (fun H locs w => ?_)
  refine lv_aload_n hx hb dX7_writeSerialControl_5 rfl (lv_at hl 0 rfl) ?_
  refine lv_iload_n hx hb dX7_writeSerialControl_6 rfl (lv_at hl 1 rfl) ?_
  refine lv_iconst (v := 3) hx hb dX7_writeSerialControl_7 (by decide) ?_
  refine lv_iand hx hb dX7_writeSerialControl_8 ?_
  refine lv_iconst (v := 3) hx hb dX7_writeSerialControl_9 (by decide) ?_
  refine lv_icmp_ne (tgt := 17) hx hb dX7_writeSerialControl_10 (by decide) (fun h10 => ?_) (fun h10 => ?_)
  · rw [if_neg h10]
    refine lv_iconst (v := 0) hx hb dX7_writeSerialControl_17 (by decide) ?_
    exact k_Md_writeSerialControl_18 C w (lv_sub hl [0] rfl) (Or.inl rfl)
  · rw [if_pos h10]
    refine lv_iconst (v := 1) hx hb dX7_writeSerialControl_13 (by decide) ?_
    refine lv_goto (tgt := 18) hx hb dX7_writeSerialControl_14 (by decide) ?_
    exact k_Md_writeSerialControl_18 C w (lv_sub hl [0] rfl) (Or.inr rfl)
set_option maxHeartbeats 4000000 in
set_option maxRecDepth 100000 in
theorem c_Md_writeSerialControl (l : Launch) (A : Nat → Prop) (D : va_G) (cA : Nat → ClassId) (tb : Nat) (ad : Nat → Nat) (mu nu : Mu) (x1 : Int32) : Met l yX7_writeSerialControl wsX7_writeSerialControl ({ frames := 0, cells := 0, slots := 0, locals := 0 }) (va_Pc [.ref (ad 12), .int x1] (Pw A D cA tb ad nu mu)) (va_Qv (fun (u : Mu × Mu) => u = (nu, F_Md_writeSerialControl x1 mu)) (Bw A D cA ad) A) 0 0 A := by
  refine Met.ofW (cc := cX7_writeSerialControl) (maxL := 2) (ret := none) (by decide) rfl ?_
  intro p e s m args below meth c s₁ B hml hv
  obtain ⟨rfl, w0⟩ := hv
  have C : Cx cX7_writeSerialControl 2 none wsX7_writeSerialControl RX7 A D cA tb p s m _ meth c := ⟨B.exec, B.bytes, B.returns, hml, findClass_of_methodNamed B.named, atoms_spec (ws := wsX7_writeSerialControl) B.pre, B.notSynchronized, w0.2.1, w0.2.2.2.1, w0.2.2.2.2⟩
  have hl := lv_entry ([.ref (ad 12), .int x1]) (n := 2) (Nat.le_of_ble_eq_true rfl)
  rw [lg_entry_eq]
  exact k_Md_writeSerialControl C w0.wd hl
end
