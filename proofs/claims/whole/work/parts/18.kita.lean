section
variable {p : Program} {l : Launch} {e : Env} {s : State} {m : MethodId} {args : Array Value} {below : List Frame} {meth : Method} {c : Code} 
variable {A : Nat → Prop} {D : va_G} {cA : Nat → ClassId} {tb : Nat} {ad : Nat → Nat}
def F_Km_put_56d (x1 : Int32) (x2 : Int32) (mu : Mu) : Int32 × Mu := ((1 : Int32), mu)
set_option maxHeartbeats 4000000 in
set_option maxRecDepth 100000 in
theorem k_Km_put_56d (C : Cx cX6_put 4 (some .boolean) wsX6_put RX6 A D cA tb p s m args meth c) {mu nu : Mu} {x1 : Int32} {x2 : Int32} {H : Heap} {locs : List Loc} {ls : Array Slot} (w : Wd A D cA ad s mu nu H locs) (hl : lv_has ls 4 [(0, .ref (ad 0)), (1, .int x1), (2, .int x2), (3, .int (3 : Int32))]) : W p l e { frames := 2, cells := 0, slots := 0, locals := 43 } s m args below meth c H locs 0 0 (QI A D cA ad below args s (F_Km_put_56d x1 x2 mu).1 (F_Km_put_56d x1 x2 mu).2 nu) (F0 m 56 ls []) := by
  have hx := C.1
  have hb := C.2.1
  have hts := C.2.2.2.2.2.1
  have hown := C.2.2.2.2.1
  unfold F_Km_put_56d
  refine lv_iinc (v := (4 : Int32)) (lv' := [(3, .int (4 : Int32)), (0, .ref (ad 0)), (1, .int x1), (2, .int x2)]) hx hb dX6_put_56 hl (k := 3) rfl (by first | rfl | decide) (by decide) rfl (fun ls hl => ?_)
  refine lv_goto (tgt := 28) hx hb dX6_put_59 (by decide) ?_
  refine lv_iload_n hx hb dX6_put_28 rfl (lv_at hl 0 rfl) ?_
  refine lv_iconst (v := 4) hx hb dX6_put_29 (by decide) ?_
  refine lv_icmp_ge (tgt := 62) hx hb dX6_put_30 (by decide) (fun h30 => ?_) (fun h30 => ?_)
  · refine lv_iconst (v := 1) hx hb dX6_put_62 (by decide) ?_
    exact retZ C w dX6_put_63 (Or.inr rfl)
  · exact absurd h30 (by decide)
def F_Km_put_56c (x1 : Int32) (x2 : Int32) (mu : Mu) : Int32 × Mu := F_Km_put_56d x1 x2 (F_Bu_store (x1 + (3 : Int32)) ((x2 >>> (((24 : Int32) - ((8 : Int32) * (3 : Int32))) &&& 31)) &&& (255 : Int32)) mu)
set_option maxHeartbeats 4000000 in
set_option maxRecDepth 100000 in
theorem k_Km_put_56c (C : Cx cX6_put 4 (some .boolean) wsX6_put RX6 A D cA tb p s m args meth c) {mu nu : Mu} {x1 : Int32} {x2 : Int32} {H : Heap} {locs : List Loc} {ls : Array Slot} (w : Wd A D cA ad s mu nu H locs) (hl : lv_has ls 4 [(0, .ref (ad 0)), (1, .int x1), (2, .int x2), (3, .int (2 : Int32))]) : W p l e { frames := 2, cells := 0, slots := 0, locals := 43 } s m args below meth c H locs 0 0 (QI A D cA ad below args s (F_Km_put_56c x1 x2 mu).1 (F_Km_put_56c x1 x2 mu).2 nu) (F0 m 56 ls []) := by
  have hx := C.1
  have hb := C.2.1
  have hts := C.2.2.2.2.2.1
  have hown := C.2.2.2.2.1
  unfold F_Km_put_56c
  refine lv_iinc (v := (3 : Int32)) (lv' := [(3, .int (3 : Int32)), (0, .ref (ad 0)), (1, .int x1), (2, .int x2)]) hx hb dX6_put_56 hl (k := 3) rfl (by first | rfl | decide) (by decide) rfl (fun ls hl => ?_)
  refine lv_goto (tgt := 28) hx hb dX6_put_59 (by decide) ?_
  refine lv_iload_n hx hb dX6_put_28 rfl (lv_at hl 0 rfl) ?_
  refine lv_iconst (v := 4) hx hb dX6_put_29 (by decide) ?_
  refine lv_icmp_ge (tgt := 62) hx hb dX6_put_30 (by decide) (fun h30 => ?_) (fun h30 => ?_)
  · exact absurd h30 (by decide)
  · refine lv_aload_n hx hb dX6_put_33 rfl (lv_at hl 1 rfl) ?_
    refine gt_0_3 C (fun _ h => List.mem_cons_of_mem _ (List.mem_append_left _ (List.mem_append_right _ h))) (hts _ (List.mem_of_getElem? (i := 1) rfl)) w dX6_put_34 ?_
    refine lv_iload_n hx hb dX6_put_37 rfl (lv_at hl 2 rfl) ?_
    refine lv_iload_n hx hb dX6_put_38 rfl (lv_at hl 0 rfl) ?_
    refine lv_iadd hx hb dX6_put_39 ?_
    refine lv_iload_n hx hb dX6_put_40 rfl (lv_at hl 3 rfl) ?_
    refine lv_bipush (v := 24) hx hb dX6_put_41 (by decide) ?_
    refine lv_bipush (v := 8) hx hb dX6_put_43 (by decide) ?_
    refine lv_iload_n hx hb dX6_put_45 rfl (lv_at hl 0 rfl) ?_
    refine lv_imul hx hb dX6_put_46 ?_
    refine lv_isub hx hb dX6_put_47 ?_
    refine lv_ishr hx hb dX6_put_48 ?_
    refine lv_sipush (v := 255) hx hb dX6_put_49 (by decide) ?_
    refine lv_iand hx hb dX6_put_52 ?_
    refine kcV (k := 6) (ci := 1) (As := [.int ((x1 + (3 : Int32))), .int (((x2 >>> (((24 : Int32) - ((8 : Int32) * (3 : Int32))) &&& 31)) &&& (255 : Int32)))]) (rest := []) C w rfl rfl (c_Bu_store l A D cA tb ad mu nu (x1 + (3 : Int32)) ((x2 >>> (((24 : Int32) - ((8 : Int32) * (3 : Int32))) &&& 31)) &&& (255 : Int32))) (cwV 2 hts gX6_put_X1_store rfl rfl rfl (by decide +kernel) ⟨Nat.le_of_ble_eq_true rfl, Nat.le_of_ble_eq_true rfl⟩) rfl rfl hl.1 (Nat.le_of_ble_eq_true rfl) dX6_put_53 (fun H locs w => ?_)
    exact k_Km_put_56d C w (lv_sub hl [1, 2, 3, 0] rfl)
def F_Km_put_56b (x1 : Int32) (x2 : Int32) (mu : Mu) : Int32 × Mu := F_Km_put_56c x1 x2 (F_Bu_store (x1 + (2 : Int32)) ((x2 >>> (((24 : Int32) - ((8 : Int32) * (2 : Int32))) &&& 31)) &&& (255 : Int32)) mu)
set_option maxHeartbeats 4000000 in
set_option maxRecDepth 100000 in
theorem k_Km_put_56b (C : Cx cX6_put 4 (some .boolean) wsX6_put RX6 A D cA tb p s m args meth c) {mu nu : Mu} {x1 : Int32} {x2 : Int32} {H : Heap} {locs : List Loc} {ls : Array Slot} (w : Wd A D cA ad s mu nu H locs) (hl : lv_has ls 4 [(0, .ref (ad 0)), (1, .int x1), (2, .int x2), (3, .int (1 : Int32))]) : W p l e { frames := 2, cells := 0, slots := 0, locals := 43 } s m args below meth c H locs 0 0 (QI A D cA ad below args s (F_Km_put_56b x1 x2 mu).1 (F_Km_put_56b x1 x2 mu).2 nu) (F0 m 56 ls []) := by
  have hx := C.1
  have hb := C.2.1
  have hts := C.2.2.2.2.2.1
  have hown := C.2.2.2.2.1
  unfold F_Km_put_56b
  refine lv_iinc (v := (2 : Int32)) (lv' := [(3, .int (2 : Int32)), (0, .ref (ad 0)), (1, .int x1), (2, .int x2)]) hx hb dX6_put_56 hl (k := 3) rfl (by first | rfl | decide) (by decide) rfl (fun ls hl => ?_)
  refine lv_goto (tgt := 28) hx hb dX6_put_59 (by decide) ?_
  refine lv_iload_n hx hb dX6_put_28 rfl (lv_at hl 0 rfl) ?_
  refine lv_iconst (v := 4) hx hb dX6_put_29 (by decide) ?_
  refine lv_icmp_ge (tgt := 62) hx hb dX6_put_30 (by decide) (fun h30 => ?_) (fun h30 => ?_)
  · exact absurd h30 (by decide)
  · refine lv_aload_n hx hb dX6_put_33 rfl (lv_at hl 1 rfl) ?_
    refine gt_0_3 C (fun _ h => List.mem_cons_of_mem _ (List.mem_append_left _ (List.mem_append_right _ h))) (hts _ (List.mem_of_getElem? (i := 1) rfl)) w dX6_put_34 ?_
    refine lv_iload_n hx hb dX6_put_37 rfl (lv_at hl 2 rfl) ?_
    refine lv_iload_n hx hb dX6_put_38 rfl (lv_at hl 0 rfl) ?_
    refine lv_iadd hx hb dX6_put_39 ?_
    refine lv_iload_n hx hb dX6_put_40 rfl (lv_at hl 3 rfl) ?_
    refine lv_bipush (v := 24) hx hb dX6_put_41 (by decide) ?_
    refine lv_bipush (v := 8) hx hb dX6_put_43 (by decide) ?_
    refine lv_iload_n hx hb dX6_put_45 rfl (lv_at hl 0 rfl) ?_
    refine lv_imul hx hb dX6_put_46 ?_
    refine lv_isub hx hb dX6_put_47 ?_
    refine lv_ishr hx hb dX6_put_48 ?_
    refine lv_sipush (v := 255) hx hb dX6_put_49 (by decide) ?_
    refine lv_iand hx hb dX6_put_52 ?_
    refine kcV (k := 6) (ci := 1) (As := [.int ((x1 + (2 : Int32))), .int (((x2 >>> (((24 : Int32) - ((8 : Int32) * (2 : Int32))) &&& 31)) &&& (255 : Int32)))]) (rest := []) C w rfl rfl (c_Bu_store l A D cA tb ad mu nu (x1 + (2 : Int32)) ((x2 >>> (((24 : Int32) - ((8 : Int32) * (2 : Int32))) &&& 31)) &&& (255 : Int32))) (cwV 2 hts gX6_put_X1_store rfl rfl rfl (by decide +kernel) ⟨Nat.le_of_ble_eq_true rfl, Nat.le_of_ble_eq_true rfl⟩) rfl rfl hl.1 (Nat.le_of_ble_eq_true rfl) dX6_put_53 (fun H locs w => ?_)
    exact k_Km_put_56c C w (lv_sub hl [1, 2, 3, 0] rfl)
def F_Km_put_56a (x1 : Int32) (x2 : Int32) (mu : Mu) : Int32 × Mu := F_Km_put_56b x1 x2 (F_Bu_store (x1 + (1 : Int32)) ((x2 >>> (((24 : Int32) - ((8 : Int32) * (1 : Int32))) &&& 31)) &&& (255 : Int32)) mu)
set_option maxHeartbeats 4000000 in
set_option maxRecDepth 100000 in
theorem k_Km_put_56a (C : Cx cX6_put 4 (some .boolean) wsX6_put RX6 A D cA tb p s m args meth c) {mu nu : Mu} {x1 : Int32} {x2 : Int32} {H : Heap} {locs : List Loc} {ls : Array Slot} (w : Wd A D cA ad s mu nu H locs) (hl : lv_has ls 4 [(0, .ref (ad 0)), (1, .int x1), (2, .int x2), (3, .int (0 : Int32))]) : W p l e { frames := 2, cells := 0, slots := 0, locals := 43 } s m args below meth c H locs 0 0 (QI A D cA ad below args s (F_Km_put_56a x1 x2 mu).1 (F_Km_put_56a x1 x2 mu).2 nu) (F0 m 56 ls []) := by
  have hx := C.1
  have hb := C.2.1
  have hts := C.2.2.2.2.2.1
  have hown := C.2.2.2.2.1
  unfold F_Km_put_56a
  refine lv_iinc (v := (1 : Int32)) (lv' := [(3, .int (1 : Int32)), (0, .ref (ad 0)), (1, .int x1), (2, .int x2)]) hx hb dX6_put_56 hl (k := 3) rfl (by first | rfl | decide) (by decide) rfl (fun ls hl => ?_)
  refine lv_goto (tgt := 28) hx hb dX6_put_59 (by decide) ?_
  refine lv_iload_n hx hb dX6_put_28 rfl (lv_at hl 0 rfl) ?_
  refine lv_iconst (v := 4) hx hb dX6_put_29 (by decide) ?_
  refine lv_icmp_ge (tgt := 62) hx hb dX6_put_30 (by decide) (fun h30 => ?_) (fun h30 => ?_)
  · exact absurd h30 (by decide)
  · refine lv_aload_n hx hb dX6_put_33 rfl (lv_at hl 1 rfl) ?_
    refine gt_0_3 C (fun _ h => List.mem_cons_of_mem _ (List.mem_append_left _ (List.mem_append_right _ h))) (hts _ (List.mem_of_getElem? (i := 1) rfl)) w dX6_put_34 ?_
    refine lv_iload_n hx hb dX6_put_37 rfl (lv_at hl 2 rfl) ?_
    refine lv_iload_n hx hb dX6_put_38 rfl (lv_at hl 0 rfl) ?_
    refine lv_iadd hx hb dX6_put_39 ?_
    refine lv_iload_n hx hb dX6_put_40 rfl (lv_at hl 3 rfl) ?_
    refine lv_bipush (v := 24) hx hb dX6_put_41 (by decide) ?_
    refine lv_bipush (v := 8) hx hb dX6_put_43 (by decide) ?_
    refine lv_iload_n hx hb dX6_put_45 rfl (lv_at hl 0 rfl) ?_
    refine lv_imul hx hb dX6_put_46 ?_
    refine lv_isub hx hb dX6_put_47 ?_
    refine lv_ishr hx hb dX6_put_48 ?_
    refine lv_sipush (v := 255) hx hb dX6_put_49 (by decide) ?_
    refine lv_iand hx hb dX6_put_52 ?_
    refine kcV (k := 6) (ci := 1) (As := [.int ((x1 + (1 : Int32))), .int (((x2 >>> (((24 : Int32) - ((8 : Int32) * (1 : Int32))) &&& 31)) &&& (255 : Int32)))]) (rest := []) C w rfl rfl (c_Bu_store l A D cA tb ad mu nu (x1 + (1 : Int32)) ((x2 >>> (((24 : Int32) - ((8 : Int32) * (1 : Int32))) &&& 31)) &&& (255 : Int32))) (cwV 2 hts gX6_put_X1_store rfl rfl rfl (by decide +kernel) ⟨Nat.le_of_ble_eq_true rfl, Nat.le_of_ble_eq_true rfl⟩) rfl rfl hl.1 (Nat.le_of_ble_eq_true rfl) dX6_put_53 (fun H locs w => ?_)
    exact k_Km_put_56b C w (lv_sub hl [1, 2, 3, 0] rfl)
def F_Km_put (x1 : Int32) (x2 : Int32) (mu : Mu) : Int32 × Mu := (if (F_Bu_isMemory x1 mu) = (0 : Int32) then ((0 : Int32), mu) else (if (F_Bu_isMemory (x1 + (3 : Int32)) mu) = (0 : Int32) then ((0 : Int32), mu) else F_Km_put_56a x1 x2 (F_Bu_store (x1 + (0 : Int32)) ((x2 >>> (((24 : Int32) - ((8 : Int32) * (0 : Int32))) &&& 31)) &&& (255 : Int32)) mu)))
set_option maxHeartbeats 4000000 in
set_option maxRecDepth 100000 in
theorem k_Km_put (C : Cx cX6_put 4 (some .boolean) wsX6_put RX6 A D cA tb p s m args meth c) {mu nu : Mu} {x1 : Int32} {x2 : Int32} {H : Heap} {locs : List Loc} {ls : Array Slot} (w : Wd A D cA ad s mu nu H locs) (hl : lv_has ls 4 [(0, .ref (ad 0)), (1, .int x1), (2, .int x2)]) : W p l e { frames := 2, cells := 0, slots := 0, locals := 43 } s m args below meth c H locs 0 0 (QI A D cA ad below args s (F_Km_put x1 x2 mu).1 (F_Km_put x1 x2 mu).2 nu) (F0 m 0 ls []) := by
  have hx := C.1
  have hb := C.2.1
  have hts := C.2.2.2.2.2.1
  have hown := C.2.2.2.2.1
  unfold F_Km_put
  refine lv_aload_n hx hb dX6_put_0 rfl (lv_at hl 0 rfl) ?_
  refine gt_0_3 C (fun _ h => List.mem_cons_of_mem _ (List.mem_append_left _ (List.mem_append_right _ h))) (hts _ (List.mem_of_getElem? (i := 1) rfl)) w dX6_put_1 ?_
  refine lv_iload_n hx hb dX6_put_4 rfl (lv_at hl 1 rfl) ?_
  refine kcI (k := 6) (ci := 1) (As := [.int x1]) (rest := []) C w rfl rfl (c_Bu_isMemory l A D cA tb ad mu nu x1) (cwV 1 hts gX6_put_X1_isMemory rfl rfl rfl (by decide +kernel) ⟨Nat.le_of_ble_eq_true rfl, Nat.le_of_ble_eq_true rfl⟩) rfl rfl hl.1 (Nat.le_of_ble_eq_true rfl) dX6_put_5 (fun H locs w => ?_)
  refine lv_if_eq (tgt := 24) hx hb dX6_put_8 (by decide) (fun h8 => ?_) (fun h8 => ?_)
  · rw [if_pos h8]
    refine lv_iconst (v := 0) hx hb dX6_put_24 (by decide) ?_
    exact retZ C w dX6_put_25 (Or.inl rfl)
  · rw [if_neg h8]
    refine lv_aload_n hx hb dX6_put_11 rfl (lv_at hl 0 rfl) ?_
    refine gt_0_3 C (fun _ h => List.mem_cons_of_mem _ (List.mem_append_left _ (List.mem_append_right _ h))) (hts _ (List.mem_of_getElem? (i := 1) rfl)) w dX6_put_12 ?_
    refine lv_iload_n hx hb dX6_put_15 rfl (lv_at hl 1 rfl) ?_
    refine lv_iconst (v := 3) hx hb dX6_put_16 (by decide) ?_
    refine lv_iadd hx hb dX6_put_17 ?_
    refine kcI (k := 6) (ci := 1) (As := [.int ((x1 + (3 : Int32)))]) (rest := []) C w rfl rfl (c_Bu_isMemory l A D cA tb ad mu nu (x1 + (3 : Int32))) (cwV 1 hts gX6_put_X1_isMemory rfl rfl rfl (by decide +kernel) ⟨Nat.le_of_ble_eq_true rfl, Nat.le_of_ble_eq_true rfl⟩) rfl rfl hl.1 (Nat.le_of_ble_eq_true rfl) dX6_put_18 (fun H locs w => ?_)
    refine lv_if_ne (tgt := 26) hx hb dX6_put_21 (by decide) (fun h21 => ?_) (fun h21 => ?_)
    · rw [if_neg h21]
      refine lv_iconst (v := 0) hx hb dX6_put_26 (by decide) ?_
      refine lv_istore_n (lv' := [(3, .int (0 : Int32)), (0, .ref (ad 0)), (1, .int x1), (2, .int x2)]) hx hb dX6_put_27 rfl hl (by decide) rfl (fun ls hl => ?_)
      refine lv_iload_n hx hb dX6_put_28 rfl (lv_at hl 0 rfl) ?_
      refine lv_iconst (v := 4) hx hb dX6_put_29 (by decide) ?_
      refine lv_icmp_ge (tgt := 62) hx hb dX6_put_30 (by decide) (fun h30 => ?_) (fun h30 => ?_)
      · exact absurd h30 (by decide)
      · refine lv_aload_n hx hb dX6_put_33 rfl (lv_at hl 1 rfl) ?_
        refine gt_0_3 C (fun _ h => List.mem_cons_of_mem _ (List.mem_append_left _ (List.mem_append_right _ h))) (hts _ (List.mem_of_getElem? (i := 1) rfl)) w dX6_put_34 ?_
        refine lv_iload_n hx hb dX6_put_37 rfl (lv_at hl 2 rfl) ?_
        refine lv_iload_n hx hb dX6_put_38 rfl (lv_at hl 0 rfl) ?_
        refine lv_iadd hx hb dX6_put_39 ?_
        refine lv_iload_n hx hb dX6_put_40 rfl (lv_at hl 3 rfl) ?_
        refine lv_bipush (v := 24) hx hb dX6_put_41 (by decide) ?_
        refine lv_bipush (v := 8) hx hb dX6_put_43 (by decide) ?_
        refine lv_iload_n hx hb dX6_put_45 rfl (lv_at hl 0 rfl) ?_
        refine lv_imul hx hb dX6_put_46 ?_
        refine lv_isub hx hb dX6_put_47 ?_
        refine lv_ishr hx hb dX6_put_48 ?_
        refine lv_sipush (v := 255) hx hb dX6_put_49 (by decide) ?_
        refine lv_iand hx hb dX6_put_52 ?_
        refine kcV (k := 6) (ci := 1) (As := [.int ((x1 + (0 : Int32))), .int (((x2 >>> (((24 : Int32) - ((8 : Int32) * (0 : Int32))) &&& 31)) &&& (255 : Int32)))]) (rest := []) C w rfl rfl (c_Bu_store l A D cA tb ad mu nu (x1 + (0 : Int32)) ((x2 >>> (((24 : Int32) - ((8 : Int32) * (0 : Int32))) &&& 31)) &&& (255 : Int32))) (cwV 2 hts gX6_put_X1_store rfl rfl rfl (by decide +kernel) ⟨Nat.le_of_ble_eq_true rfl, Nat.le_of_ble_eq_true rfl⟩) rfl rfl hl.1 (Nat.le_of_ble_eq_true rfl) dX6_put_53 (fun H locs w => ?_)
        exact k_Km_put_56a C w (lv_sub hl [1, 2, 3, 0] rfl)
    · rw [if_pos h21]
      refine lv_iconst (v := 0) hx hb dX6_put_24 (by decide) ?_
      exact retZ C w dX6_put_25 (Or.inl rfl)
set_option maxHeartbeats 4000000 in
set_option maxRecDepth 100000 in
theorem c_Km_put (l : Launch) (A : Nat → Prop) (D : va_G) (cA : Nat → ClassId) (tb : Nat) (ad : Nat → Nat) (mu nu : Mu) (x1 : Int32) (x2 : Int32) : Met l yX6_put wsX6_put ({ frames := 2, cells := 0, slots := 0, locals := 43 }) (va_Pc [.ref (ad 0), .int x1, .int x2] (Pw A D cA tb ad mu nu)) (va_Qi (fun (r : Int32) (u : Mu × Mu) => r = (F_Km_put x1 x2 mu).1 ∧ u = ((F_Km_put x1 x2 mu).2, nu)) (Bw A D cA ad) A) 0 0 A := by
  refine Met.ofW (cc := cX6_put) (maxL := 4) (ret := (some .boolean)) (by decide) rfl ?_
  intro p e s m args below meth c s₁ B hml hv
  obtain ⟨rfl, w0⟩ := hv
  have C : Cx cX6_put 4 (some .boolean) wsX6_put RX6 A D cA tb p s m _ meth c := ⟨B.exec, B.bytes, B.returns, hml, findClass_of_methodNamed B.named, atoms_spec (ws := wsX6_put) B.pre, B.notSynchronized, w0.2.1, w0.2.2.2.1, w0.2.2.2.2⟩
  have hl := lv_entry ([.ref (ad 0), .int x1, .int x2]) (n := 4) (Nat.le_of_ble_eq_true rfl)
  rw [lg_entry_eq]
  exact k_Km_put C w0.wd hl
def F_Km_peek (x1 : Int32) (mu : Mu) : Int32 × Mu := (if (F_Bu_isMemory x1 mu) = (0 : Int32) then ((-1 : Int32), mu) else ((F_Bu_read x1 mu).1, (F_Bu_read x1 mu).2))
set_option maxHeartbeats 4000000 in
set_option maxRecDepth 100000 in
theorem k_Km_peek (C : Cx cX6_peek 2 (some .int) wsX6_peek RX6 A D cA tb p s m args meth c) {mu nu : Mu} {x1 : Int32} {H : Heap} {locs : List Loc} {ls : Array Slot} (w : Wd A D cA ad s mu nu H locs) (hl : lv_has ls 2 [(0, .ref (ad 0)), (1, .int x1)]) : W p l e { frames := 3, cells := 0, slots := 0, locals := 64 } s m args below meth c H locs 0 0 (QI A D cA ad below args s (F_Km_peek x1 mu).1 (F_Km_peek x1 mu).2 nu) (F0 m 0 ls []) := by
  have hx := C.1
  have hb := C.2.1
  have hts := C.2.2.2.2.2.1
  have hown := C.2.2.2.2.1
  unfold F_Km_peek
  refine lv_aload_n hx hb dX6_peek_0 rfl (lv_at hl 0 rfl) ?_
  refine gt_0_3 C (fun _ h => List.mem_cons_of_mem _ (List.mem_append_left _ (List.mem_append_left _ (List.mem_append_left _ (List.mem_append_right _ h))))) (hts _ (List.mem_of_getElem? (i := 1) rfl)) w dX6_peek_1 ?_
  refine lv_iload_n hx hb dX6_peek_4 rfl (lv_at hl 1 rfl) ?_
  refine kcI (k := 6) (ci := 1) (As := [.int x1]) (rest := []) C w rfl rfl (c_Bu_isMemory l A D cA tb ad mu nu x1) (cwV 1 hts gX6_peek_X1_isMemory rfl rfl rfl (by decide +kernel) ⟨Nat.le_of_ble_eq_true rfl, Nat.le_of_ble_eq_true rfl⟩) rfl rfl hl.1 (Nat.le_of_ble_eq_true rfl) dX6_peek_5 (fun H locs w => ?_)
  refine lv_if_eq (tgt := 22) hx hb dX6_peek_8 (by decide) (fun h8 => ?_) (fun h8 => ?_)
  · rw [if_pos h8]
    refine lv_iconst (v := (-1 : Int32)) hx hb dX6_peek_22 (by decide) ?_
    exact retI C w dX6_peek_23
  · rw [if_neg h8]
    refine lv_aload_n hx hb dX6_peek_11 rfl (lv_at hl 0 rfl) ?_
    refine gt_0_3 C (fun _ h => List.mem_cons_of_mem _ (List.mem_append_left _ (List.mem_append_left _ (List.mem_append_left _ (List.mem_append_right _ h))))) (hts _ (List.mem_of_getElem? (i := 1) rfl)) w dX6_peek_12 ?_
    refine lv_iload_n hx hb dX6_peek_15 rfl (lv_at hl 1 rfl) ?_
    refine kcI (k := 6) (ci := 1) (As := [.int x1]) (rest := []) C w rfl rfl (c_Bu_read l A D cA tb ad mu nu x1) (cwV 1 hts gX6_peek_X1_read rfl rfl rfl (by decide +kernel) ⟨Nat.le_of_ble_eq_true rfl, Nat.le_of_ble_eq_true rfl⟩) rfl rfl hl.1 (Nat.le_of_ble_eq_true rfl) dX6_peek_16 (fun H locs w => ?_)
    refine lv_goto (tgt := 23) hx hb dX6_peek_19 (by decide) ?_
    exact retI C w dX6_peek_23
set_option maxHeartbeats 4000000 in
set_option maxRecDepth 100000 in
theorem c_Km_peek (l : Launch) (A : Nat → Prop) (D : va_G) (cA : Nat → ClassId) (tb : Nat) (ad : Nat → Nat) (mu nu : Mu) (x1 : Int32) : Met l yX6_peek wsX6_peek ({ frames := 3, cells := 0, slots := 0, locals := 64 }) (va_Pc [.ref (ad 0), .int x1] (Pw A D cA tb ad mu nu)) (va_Qi (fun (r : Int32) (u : Mu × Mu) => r = (F_Km_peek x1 mu).1 ∧ u = ((F_Km_peek x1 mu).2, nu)) (Bw A D cA ad) A) 0 0 A := by
  refine Met.ofW (cc := cX6_peek) (maxL := 2) (ret := (some .int)) (by decide) rfl ?_
  intro p e s m args below meth c s₁ B hml hv
  obtain ⟨rfl, w0⟩ := hv
  have C : Cx cX6_peek 2 (some .int) wsX6_peek RX6 A D cA tb p s m _ meth c := ⟨B.exec, B.bytes, B.returns, hml, findClass_of_methodNamed B.named, atoms_spec (ws := wsX6_peek) B.pre, B.notSynchronized, w0.2.1, w0.2.2.2.1, w0.2.2.2.2⟩
  have hl := lv_entry ([.ref (ad 0), .int x1]) (n := 2) (Nat.le_of_ble_eq_true rfl)
  rw [lg_entry_eq]
  exact k_Km_peek C w0.wd hl
def F_Km_reset (mu : Mu) : Mu := (F_Pr_restart mu)
set_option maxHeartbeats 4000000 in
set_option maxRecDepth 100000 in
theorem k_Km_reset (C : Cx cX6_reset 1 none wsX6_reset RX6 A D cA tb p s m args meth c) {mu nu : Mu} {H : Heap} {locs : List Loc} {ls : Array Slot} (w : Wd A D cA ad s mu nu H locs) (hl : lv_has ls 1 [(0, .ref (ad 0))]) : W p l e { frames := 6, cells := 0, slots := 0, locals := 128 } s m args below meth c H locs 0 0 (QV A D cA ad below args s (F_Km_reset mu) nu) (F0 m 0 ls []) := by
  have hx := C.1
  have hb := C.2.1
  have hts := C.2.2.2.2.2.1
  have hown := C.2.2.2.2.1
  unfold F_Km_reset
  refine lv_aload_n hx hb dX6_reset_0 rfl (lv_at hl 0 rfl) ?_
  refine gt_0_4 C (fun _ h => List.mem_cons_of_mem _ (List.mem_append_left _ (List.mem_append_left _ (List.mem_append_left _ (List.mem_append_left _ (List.mem_append_left _ (List.mem_append_right _ h))))))) (hts _ (List.mem_of_getElem? (i := 1) rfl)) w dX6_reset_1 ?_
  refine kcV (k := 9) (ci := 3) (As := []) (rest := []) C w rfl rfl (c_Pr_restart l A D cA tb ad mu nu) (cwV 0 hts gX6_reset_X3_restart rfl rfl rfl (by decide +kernel) ⟨Nat.le_of_ble_eq_true rfl, Nat.le_of_ble_eq_true rfl⟩) rfl rfl hl.1 (Nat.le_of_ble_eq_true rfl) dX6_reset_4 (fun H locs w => ?_)
  exact retV C w dX6_reset_7
set_option maxHeartbeats 4000000 in
set_option maxRecDepth 100000 in
theorem c_Km_reset (l : Launch) (A : Nat → Prop) (D : va_G) (cA : Nat → ClassId) (tb : Nat) (ad : Nat → Nat) (mu nu : Mu) : Met l yX6_reset wsX6_reset ({ frames := 6, cells := 0, slots := 0, locals := 128 }) (va_Pc [.ref (ad 0)] (Pw A D cA tb ad mu nu)) (va_Qv (fun (u : Mu × Mu) => u = (F_Km_reset mu, nu)) (Bw A D cA ad) A) 0 0 A := by
  refine Met.ofW (cc := cX6_reset) (maxL := 1) (ret := none) (by decide) rfl ?_
  intro p e s m args below meth c s₁ B hml hv
  obtain ⟨rfl, w0⟩ := hv
  have C : Cx cX6_reset 1 none wsX6_reset RX6 A D cA tb p s m _ meth c := ⟨B.exec, B.bytes, B.returns, hml, findClass_of_methodNamed B.named, atoms_spec (ws := wsX6_reset) B.pre, B.notSynchronized, w0.2.1, w0.2.2.2.1, w0.2.2.2.2⟩
  have hl := lv_entry ([.ref (ad 0)]) (n := 1) (Nat.le_of_ble_eq_true rfl)
  rw [lg_entry_eq]
  exact k_Km_reset C w0.wd hl
def F_Km_asked (mu : Mu) : Int32 := if F_Sc_asks mu = 0 then (if F_Sd4_asks mu = 0 then (if F_Sd5_asks mu = 0 then 0 else 1) else 1) else 1
def F_Km_step (mu : Mu) : Mu := F_Sd5_endStep (F_Sd4_endStep (F_Pr_act (F_Km_asked (F_Sc_passTime mu)) (F_Sc_passTime mu)))
def itrC : Nat → Mu → Mu
  | 0, mu => mu
  | k + 1, mu => itrC k (F_Km_step mu)
theorem km_nx {mu : Mu} {b : Int32} (hb : F_Km_asked (F_Sc_passTime mu) = b) (hJ : ∀ k, Jc (itrC k mu)) : ∀ k, Jc (itrC k (F_Sd5_endStep (F_Sd4_endStep (F_Pr_act b (F_Sc_passTime mu))))) := by
  subst hb; exact fun k => hJ (k + 1)
def F_Km_run_15 : Nat → Int32 → Int32 → Mu → Int32 × Mu
  | 0, _, _, mu => (0, mu)
  | n + 1, x1, x2, mu => (if x1 ≤ x2 then (x2, mu) else (if (mu 9 9) = (0 : Int32) then (if (F_Sc_asks (F_Sc_passTime mu)) = (0 : Int32) then (if (F_Sd4_asks (F_Sc_passTime mu)) = (0 : Int32) then (if (F_Sd5_asks (F_Sc_passTime mu)) = (0 : Int32) then F_Km_run_15 n x1 (x2 + 1) (F_Sd5_endStep (F_Sd4_endStep (F_Pr_act 0 (F_Sc_passTime mu)))) else F_Km_run_15 n x1 (x2 + 1) (F_Sd5_endStep (F_Sd4_endStep (F_Pr_act 1 (F_Sc_passTime mu))))) else F_Km_run_15 n x1 (x2 + 1) (F_Sd5_endStep (F_Sd4_endStep (F_Pr_act 1 (F_Sc_passTime mu))))) else F_Km_run_15 n x1 (x2 + 1) (F_Sd5_endStep (F_Sd4_endStep (F_Pr_act 1 (F_Sc_passTime mu))))) else (x2, mu)))
set_option maxHeartbeats 4000000 in
set_option maxRecDepth 100000 in
theorem k_Km_run_15 {nu : Mu} (C : Cx cX6_run 3 (some .int) wsX6_run RX6 A D cA tb p s m args meth c) : ∀ (n : Nat) {mu : Mu} {x1 : Int32} {x2 : Int32} {H : Heap} {locs : List Loc} {ls : Array Slot} (_ : ((x1).toInt - (x2).toInt < (n : Int) ∧ 0 < n)) (w : Wd A D cA ad s mu nu H locs) (hl : lv_has ls 3 [(0, .ref (ad 0)), (1, .int x1), (2, .int x2)]) (hJ : ∀ k, Jc (itrC k mu)), W p l e { frames := 7, cells := 0, slots := 0, locals := 160 } s m args below meth c H locs 0 0 (QI A D cA ad below args s (F_Km_run_15 n x1 x2 mu).1 (F_Km_run_15 n x1 x2 mu).2 nu) (F0 m 15 ls []) := by
  have hx := C.1
  have hb := C.2.1
  have hts := C.2.2.2.2.2.1
  have hown := C.2.2.2.2.1
  intro n
  induction n with
  | zero =>
    intro mu x1 x2 H locs ls hm
    exact absurd hm.2 (Nat.lt_irrefl 0)
  | succ n ih =>
    intro mu x1 x2 H locs ls hm w hl hJ
    rw [F_Km_run_15]
    refine lv_iload_n hx hb dX6_run_15 rfl (lv_at hl 2 rfl) ?_
    refine lv_iload_n hx hb dX6_run_16 rfl (lv_at hl 1 rfl) ?_
    refine lv_icmp_ge (tgt := 99) hx hb dX6_run_17 (by decide) (fun h17 => ?_) (fun h17 => ?_)
    · rw [if_pos h17]
      refine lv_iload_n hx hb dX6_run_99 rfl (lv_at hl 2 rfl) ?_
      exact retI C w dX6_run_100
    · rw [if_neg h17]
      refine lv_aload_n hx hb dX6_run_20 rfl (lv_at hl 0 rfl) ?_
      refine gt_0_4 C (fun _ h => List.mem_cons_of_mem _ (List.mem_append_left _ (List.mem_append_left _ (List.mem_append_left _ (List.mem_append_left _ (List.mem_append_left _ (List.mem_append_left _ (List.mem_append_right _ h)))))))) (hts _ (List.mem_of_getElem? (i := 1) rfl)) w dX6_run_21 ?_
      refine gt_9_9 C (fun _ h => List.mem_cons_of_mem _ (List.mem_append_left _ (List.mem_append_left _ (List.mem_append_left _ (List.mem_append_left _ (List.mem_append_left _ (List.mem_append_right _ h))))))) (hts _ (List.mem_of_getElem? (i := 2) rfl)) w (v := (mu 9 9)) rfl dX6_run_24 ?_
      refine lv_if_ne (tgt := 99) hx hb dX6_run_27 (by decide) (fun h27 => ?_) (fun h27 => ?_)
      · rw [if_neg h27]
        refine lv_iload_n hx hb dX6_run_99 rfl (lv_at hl 2 rfl) ?_
        exact retI C w dX6_run_100
      · rw [if_pos h27]
        refine lv_aload_n hx hb dX6_run_30 rfl (lv_at hl 0 rfl) ?_
        refine gt_0_0 C (fun _ h => List.mem_cons_of_mem _ (List.mem_append_left _ (List.mem_append_left _ (List.mem_append_left _ (List.mem_append_left _ (List.mem_append_left _ (List.mem_append_left _ (List.mem_append_right _ h)))))))) (hts _ (List.mem_of_getElem? (i := 3) rfl)) w dX6_run_31 ?_
        refine kcV (k := 1) (ci := 4) (As := []) (rest := []) C w rfl rfl (c_Sc_passTime l A D cA tb ad mu nu (hJ 0)) (cwV 0 hts gX6_run_X4_passTime rfl rfl rfl (by decide +kernel) ⟨Nat.le_of_ble_eq_true rfl, Nat.le_of_ble_eq_true rfl⟩) rfl rfl hl.1 (Nat.le_of_ble_eq_true rfl) dX6_run_34 (fun H locs w => ?_)
        refine lv_aload_n hx hb dX6_run_37 rfl (lv_at hl 0 rfl) ?_
        refine gt_0_4 C (fun _ h => List.mem_cons_of_mem _ (List.mem_append_left _ (List.mem_append_left _ (List.mem_append_left _ (List.mem_append_left _ (List.mem_append_left _ (List.mem_append_left _ (List.mem_append_right _ h)))))))) (hts _ (List.mem_of_getElem? (i := 1) rfl)) w dX6_run_38 ?_
        refine lv_aload_n hx hb dX6_run_41 rfl (lv_at hl 0 rfl) ?_
        refine gt_0_0 C (fun _ h => List.mem_cons_of_mem _ (List.mem_append_left _ (List.mem_append_left _ (List.mem_append_left _ (List.mem_append_left _ (List.mem_append_left _ (List.mem_append_left _ (List.mem_append_right _ h)))))))) (hts _ (List.mem_of_getElem? (i := 3) rfl)) w dX6_run_42 ?_
        refine kcI (k := 1) (ci := 4) (As := []) (rest := [.ref (ad 9)]) C w rfl rfl (c_Sc_asks l A D cA tb ad (F_Sc_passTime mu) nu) (cwV 0 hts gX6_run_X4_asks rfl rfl rfl (by decide +kernel) ⟨Nat.le_of_ble_eq_true rfl, Nat.le_of_ble_eq_true rfl⟩) rfl rfl hl.1 (Nat.le_of_ble_eq_true rfl) dX6_run_45 (fun H locs w => ?_)
        refine lv_if_ne (tgt := 71) hx hb dX6_run_48 (by decide) (fun h48 => ?_) (fun h48 => ?_)
        · rw [if_neg h48]
          refine lv_iconst (v := 1) hx hb dX6_run_71 (by decide) ?_
          refine lv_goto (tgt := 76) hx hb dX6_run_72 (by decide) ?_
          refine kcV (k := 9) (ci := 3) (As := [.int 1]) (rest := []) C w rfl rfl (c_Pr_act l A D cA tb ad (F_Sc_passTime mu) nu 1) (cwV 1 hts gX6_run_X3_act rfl rfl rfl (by decide +kernel) ⟨Nat.le_of_ble_eq_true rfl, Nat.le_of_ble_eq_true rfl⟩) rfl rfl hl.1 (Nat.le_of_ble_eq_true rfl) dX6_run_76 (fun H locs w => ?_)
          refine lv_aload_n hx hb dX6_run_79 rfl (lv_at hl 0 rfl) ?_
          refine gt_0_1 C (fun _ h => List.mem_cons_of_mem _ (List.mem_append_left _ (List.mem_append_left _ (List.mem_append_left _ (List.mem_append_left _ (List.mem_append_left _ (List.mem_append_left _ (List.mem_append_right _ h)))))))) (hts _ (List.mem_of_getElem? (i := 4) rfl)) w dX6_run_80 ?_
          refine kcV (k := 4) (ci := 5) (As := []) (rest := []) C w rfl rfl (c_Sd4_endStep l A D cA tb ad (F_Pr_act 1 (F_Sc_passTime mu)) nu) (cwV 0 hts gX6_run_X5_endStep rfl rfl rfl (by decide +kernel) ⟨Nat.le_of_ble_eq_true rfl, Nat.le_of_ble_eq_true rfl⟩) rfl rfl hl.1 (Nat.le_of_ble_eq_true rfl) dX6_run_83 (fun H locs w => ?_)
          refine lv_aload_n hx hb dX6_run_86 rfl (lv_at hl 0 rfl) ?_
          refine gt_0_2 C (fun _ h => List.mem_cons_of_mem _ (List.mem_append_left _ (List.mem_append_left _ (List.mem_append_left _ (List.mem_append_left _ (List.mem_append_left _ (List.mem_append_left _ (List.mem_append_right _ h)))))))) (hts _ (List.mem_of_getElem? (i := 5) rfl)) w dX6_run_87 ?_
          refine kcV (k := 5) (ci := 5) (As := []) (rest := []) C w rfl rfl (c_Sd5_endStep l A D cA tb ad (F_Sd4_endStep (F_Pr_act 1 (F_Sc_passTime mu))) nu) (cwV 0 hts gX6_run_X5_endStep rfl rfl rfl (by decide +kernel) ⟨Nat.le_of_ble_eq_true rfl, Nat.le_of_ble_eq_true rfl⟩) rfl rfl hl.1 (Nat.le_of_ble_eq_true rfl) dX6_run_90 (fun H locs w => ?_)
          refine lv_iinc (v := (x2 + 1)) (lv' := [(2, .int ((x2 + 1))), (0, .ref (ad 0)), (1, .int x1)]) hx hb dX6_run_93 hl (k := 2) rfl (by first | rfl | decide) (by decide) rfl (fun ls hl => ?_)
          refine lv_goto (tgt := 15) hx hb dX6_run_96 (by decide) ?_
          exact ih (lp_dec h17 hm) w (lv_sub hl [1, 2, 0] rfl) (km_nx (by unfold F_Km_asked; first | rw [if_neg h48] | rw [if_pos h48, if_neg h58] | rw [if_pos h48, if_pos h58, if_neg h68] | rw [if_pos h48, if_pos h58, if_pos h68]) hJ)
        · rw [if_pos h48]
          refine lv_aload_n hx hb dX6_run_51 rfl (lv_at hl 0 rfl) ?_
          refine gt_0_1 C (fun _ h => List.mem_cons_of_mem _ (List.mem_append_left _ (List.mem_append_left _ (List.mem_append_left _ (List.mem_append_left _ (List.mem_append_left _ (List.mem_append_left _ (List.mem_append_right _ h)))))))) (hts _ (List.mem_of_getElem? (i := 4) rfl)) w dX6_run_52 ?_
          refine kcI (k := 4) (ci := 5) (As := []) (rest := [.ref (ad 9)]) C w rfl rfl (c_Sd4_asks l A D cA tb ad (F_Sc_passTime mu) nu) (cwV 0 hts gX6_run_X5_asks rfl rfl rfl (by decide +kernel) ⟨Nat.le_of_ble_eq_true rfl, Nat.le_of_ble_eq_true rfl⟩) rfl rfl hl.1 (Nat.le_of_ble_eq_true rfl) dX6_run_55 (fun H locs w => ?_)
          refine lv_if_ne (tgt := 71) hx hb dX6_run_58 (by decide) (fun h58 => ?_) (fun h58 => ?_)
          · rw [if_neg h58]
            refine lv_iconst (v := 1) hx hb dX6_run_71 (by decide) ?_
            refine lv_goto (tgt := 76) hx hb dX6_run_72 (by decide) ?_
            refine kcV (k := 9) (ci := 3) (As := [.int 1]) (rest := []) C w rfl rfl (c_Pr_act l A D cA tb ad (F_Sc_passTime mu) nu 1) (cwV 1 hts gX6_run_X3_act rfl rfl rfl (by decide +kernel) ⟨Nat.le_of_ble_eq_true rfl, Nat.le_of_ble_eq_true rfl⟩) rfl rfl hl.1 (Nat.le_of_ble_eq_true rfl) dX6_run_76 (fun H locs w => ?_)
            refine lv_aload_n hx hb dX6_run_79 rfl (lv_at hl 0 rfl) ?_
            refine gt_0_1 C (fun _ h => List.mem_cons_of_mem _ (List.mem_append_left _ (List.mem_append_left _ (List.mem_append_left _ (List.mem_append_left _ (List.mem_append_left _ (List.mem_append_left _ (List.mem_append_right _ h)))))))) (hts _ (List.mem_of_getElem? (i := 4) rfl)) w dX6_run_80 ?_
            refine kcV (k := 4) (ci := 5) (As := []) (rest := []) C w rfl rfl (c_Sd4_endStep l A D cA tb ad (F_Pr_act 1 (F_Sc_passTime mu)) nu) (cwV 0 hts gX6_run_X5_endStep rfl rfl rfl (by decide +kernel) ⟨Nat.le_of_ble_eq_true rfl, Nat.le_of_ble_eq_true rfl⟩) rfl rfl hl.1 (Nat.le_of_ble_eq_true rfl) dX6_run_83 (fun H locs w => ?_)
            refine lv_aload_n hx hb dX6_run_86 rfl (lv_at hl 0 rfl) ?_
            refine gt_0_2 C (fun _ h => List.mem_cons_of_mem _ (List.mem_append_left _ (List.mem_append_left _ (List.mem_append_left _ (List.mem_append_left _ (List.mem_append_left _ (List.mem_append_left _ (List.mem_append_right _ h)))))))) (hts _ (List.mem_of_getElem? (i := 5) rfl)) w dX6_run_87 ?_
            refine kcV (k := 5) (ci := 5) (As := []) (rest := []) C w rfl rfl (c_Sd5_endStep l A D cA tb ad (F_Sd4_endStep (F_Pr_act 1 (F_Sc_passTime mu))) nu) (cwV 0 hts gX6_run_X5_endStep rfl rfl rfl (by decide +kernel) ⟨Nat.le_of_ble_eq_true rfl, Nat.le_of_ble_eq_true rfl⟩) rfl rfl hl.1 (Nat.le_of_ble_eq_true rfl) dX6_run_90 (fun H locs w => ?_)
            refine lv_iinc (v := (x2 + 1)) (lv' := [(2, .int ((x2 + 1))), (0, .ref (ad 0)), (1, .int x1)]) hx hb dX6_run_93 hl (k := 2) rfl (by first | rfl | decide) (by decide) rfl (fun ls hl => ?_)
            refine lv_goto (tgt := 15) hx hb dX6_run_96 (by decide) ?_
            exact ih (lp_dec h17 hm) w (lv_sub hl [1, 2, 0] rfl) (km_nx (by unfold F_Km_asked; first | rw [if_neg h48] | rw [if_pos h48, if_neg h58] | rw [if_pos h48, if_pos h58, if_neg h68] | rw [if_pos h48, if_pos h58, if_pos h68]) hJ)
          · rw [if_pos h58]
            refine lv_aload_n hx hb dX6_run_61 rfl (lv_at hl 0 rfl) ?_
            refine gt_0_2 C (fun _ h => List.mem_cons_of_mem _ (List.mem_append_left _ (List.mem_append_left _ (List.mem_append_left _ (List.mem_append_left _ (List.mem_append_left _ (List.mem_append_left _ (List.mem_append_right _ h)))))))) (hts _ (List.mem_of_getElem? (i := 5) rfl)) w dX6_run_62 ?_
            refine kcI (k := 5) (ci := 5) (As := []) (rest := [.ref (ad 9)]) C w rfl rfl (c_Sd5_asks l A D cA tb ad (F_Sc_passTime mu) nu) (cwV 0 hts gX6_run_X5_asks rfl rfl rfl (by decide +kernel) ⟨Nat.le_of_ble_eq_true rfl, Nat.le_of_ble_eq_true rfl⟩) rfl rfl hl.1 (Nat.le_of_ble_eq_true rfl) dX6_run_65 (fun H locs w => ?_)
            refine lv_if_eq (tgt := 75) hx hb dX6_run_68 (by decide) (fun h68 => ?_) (fun h68 => ?_)
            · rw [if_pos h68]
              refine lv_iconst (v := 0) hx hb dX6_run_75 (by decide) ?_
              refine kcV (k := 9) (ci := 3) (As := [.int 0]) (rest := []) C w rfl rfl (c_Pr_act l A D cA tb ad (F_Sc_passTime mu) nu 0) (cwV 1 hts gX6_run_X3_act rfl rfl rfl (by decide +kernel) ⟨Nat.le_of_ble_eq_true rfl, Nat.le_of_ble_eq_true rfl⟩) rfl rfl hl.1 (Nat.le_of_ble_eq_true rfl) dX6_run_76 (fun H locs w => ?_)
              refine lv_aload_n hx hb dX6_run_79 rfl (lv_at hl 0 rfl) ?_
              refine gt_0_1 C (fun _ h => List.mem_cons_of_mem _ (List.mem_append_left _ (List.mem_append_left _ (List.mem_append_left _ (List.mem_append_left _ (List.mem_append_left _ (List.mem_append_left _ (List.mem_append_right _ h)))))))) (hts _ (List.mem_of_getElem? (i := 4) rfl)) w dX6_run_80 ?_
              refine kcV (k := 4) (ci := 5) (As := []) (rest := []) C w rfl rfl (c_Sd4_endStep l A D cA tb ad (F_Pr_act 0 (F_Sc_passTime mu)) nu) (cwV 0 hts gX6_run_X5_endStep rfl rfl rfl (by decide +kernel) ⟨Nat.le_of_ble_eq_true rfl, Nat.le_of_ble_eq_true rfl⟩) rfl rfl hl.1 (Nat.le_of_ble_eq_true rfl) dX6_run_83 (fun H locs w => ?_)
              refine lv_aload_n hx hb dX6_run_86 rfl (lv_at hl 0 rfl) ?_
              refine gt_0_2 C (fun _ h => List.mem_cons_of_mem _ (List.mem_append_left _ (List.mem_append_left _ (List.mem_append_left _ (List.mem_append_left _ (List.mem_append_left _ (List.mem_append_left _ (List.mem_append_right _ h)))))))) (hts _ (List.mem_of_getElem? (i := 5) rfl)) w dX6_run_87 ?_
              refine kcV (k := 5) (ci := 5) (As := []) (rest := []) C w rfl rfl (c_Sd5_endStep l A D cA tb ad (F_Sd4_endStep (F_Pr_act 0 (F_Sc_passTime mu))) nu) (cwV 0 hts gX6_run_X5_endStep rfl rfl rfl (by decide +kernel) ⟨Nat.le_of_ble_eq_true rfl, Nat.le_of_ble_eq_true rfl⟩) rfl rfl hl.1 (Nat.le_of_ble_eq_true rfl) dX6_run_90 (fun H locs w => ?_)
              refine lv_iinc (v := (x2 + 1)) (lv' := [(2, .int ((x2 + 1))), (0, .ref (ad 0)), (1, .int x1)]) hx hb dX6_run_93 hl (k := 2) rfl (by first | rfl | decide) (by decide) rfl (fun ls hl => ?_)
              refine lv_goto (tgt := 15) hx hb dX6_run_96 (by decide) ?_
              exact ih (lp_dec h17 hm) w (lv_sub hl [1, 2, 0] rfl) (km_nx (by unfold F_Km_asked; first | rw [if_neg h48] | rw [if_pos h48, if_neg h58] | rw [if_pos h48, if_pos h58, if_neg h68] | rw [if_pos h48, if_pos h58, if_pos h68]) hJ)
            · rw [if_neg h68]
              refine lv_iconst (v := 1) hx hb dX6_run_71 (by decide) ?_
              refine lv_goto (tgt := 76) hx hb dX6_run_72 (by decide) ?_
              refine kcV (k := 9) (ci := 3) (As := [.int 1]) (rest := []) C w rfl rfl (c_Pr_act l A D cA tb ad (F_Sc_passTime mu) nu 1) (cwV 1 hts gX6_run_X3_act rfl rfl rfl (by decide +kernel) ⟨Nat.le_of_ble_eq_true rfl, Nat.le_of_ble_eq_true rfl⟩) rfl rfl hl.1 (Nat.le_of_ble_eq_true rfl) dX6_run_76 (fun H locs w => ?_)
              refine lv_aload_n hx hb dX6_run_79 rfl (lv_at hl 0 rfl) ?_
              refine gt_0_1 C (fun _ h => List.mem_cons_of_mem _ (List.mem_append_left _ (List.mem_append_left _ (List.mem_append_left _ (List.mem_append_left _ (List.mem_append_left _ (List.mem_append_left _ (List.mem_append_right _ h)))))))) (hts _ (List.mem_of_getElem? (i := 4) rfl)) w dX6_run_80 ?_
              refine kcV (k := 4) (ci := 5) (As := []) (rest := []) C w rfl rfl (c_Sd4_endStep l A D cA tb ad (F_Pr_act 1 (F_Sc_passTime mu)) nu) (cwV 0 hts gX6_run_X5_endStep rfl rfl rfl (by decide +kernel) ⟨Nat.le_of_ble_eq_true rfl, Nat.le_of_ble_eq_true rfl⟩) rfl rfl hl.1 (Nat.le_of_ble_eq_true rfl) dX6_run_83 (fun H locs w => ?_)
              refine lv_aload_n hx hb dX6_run_86 rfl (lv_at hl 0 rfl) ?_
              refine gt_0_2 C (fun _ h => List.mem_cons_of_mem _ (List.mem_append_left _ (List.mem_append_left _ (List.mem_append_left _ (List.mem_append_left _ (List.mem_append_left _ (List.mem_append_left _ (List.mem_append_right _ h)))))))) (hts _ (List.mem_of_getElem? (i := 5) rfl)) w dX6_run_87 ?_
              refine kcV (k := 5) (ci := 5) (As := []) (rest := []) C w rfl rfl (c_Sd5_endStep l A D cA tb ad (F_Sd4_endStep (F_Pr_act 1 (F_Sc_passTime mu))) nu) (cwV 0 hts gX6_run_X5_endStep rfl rfl rfl (by decide +kernel) ⟨Nat.le_of_ble_eq_true rfl, Nat.le_of_ble_eq_true rfl⟩) rfl rfl hl.1 (Nat.le_of_ble_eq_true rfl) dX6_run_90 (fun H locs w => ?_)
              refine lv_iinc (v := (x2 + 1)) (lv' := [(2, .int ((x2 + 1))), (0, .ref (ad 0)), (1, .int x1)]) hx hb dX6_run_93 hl (k := 2) rfl (by first | rfl | decide) (by decide) rfl (fun ls hl => ?_)
              refine lv_goto (tgt := 15) hx hb dX6_run_96 (by decide) ?_
              exact ih (lp_dec h17 hm) w (lv_sub hl [1, 2, 0] rfl) (km_nx (by unfold F_Km_asked; first | rw [if_neg h48] | rw [if_pos h48, if_neg h58] | rw [if_pos h48, if_pos h58, if_neg h68] | rw [if_pos h48, if_pos h58, if_pos h68]) hJ)
def F_Km_run (x1 : Int32) (mu : Mu) : Int32 × Mu := (if x1 < (0 : Int32) then ((-1 : Int32), mu) else (if x1 ≤ (3000 : Int32) then F_Km_run_15 (x1.toNatClampNeg + 1) x1 0 mu else ((-1 : Int32), mu)))
set_option maxHeartbeats 4000000 in
set_option maxRecDepth 100000 in
theorem k_Km_run (C : Cx cX6_run 3 (some .int) wsX6_run RX6 A D cA tb p s m args meth c) {mu nu : Mu} {x1 : Int32} {H : Heap} {locs : List Loc} {ls : Array Slot} (w : Wd A D cA ad s mu nu H locs) (hl : lv_has ls 3 [(0, .ref (ad 0)), (1, .int x1)]) (hJ : ∀ k, Jc (itrC k mu)) : W p l e { frames := 7, cells := 0, slots := 0, locals := 160 } s m args below meth c H locs 0 0 (QI A D cA ad below args s (F_Km_run x1 mu).1 (F_Km_run x1 mu).2 nu) (F0 m 0 ls []) := by
  have hx := C.1
  have hb := C.2.1
  have hts := C.2.2.2.2.2.1
  have hown := C.2.2.2.2.1
  unfold F_Km_run
  refine lv_iload_n hx hb dX6_run_0 rfl (lv_at hl 1 rfl) ?_
  refine lv_if_lt (tgt := 11) hx hb dX6_run_1 (by decide) (fun h1 => ?_) (fun h1 => ?_)
  · rw [if_pos h1]
    refine lv_iconst (v := (-1 : Int32)) hx hb dX6_run_11 (by decide) ?_
    exact retI C w dX6_run_12
  · rw [if_neg h1]
    refine lv_iload_n hx hb dX6_run_4 rfl (lv_at hl 1 rfl) ?_
    refine lv_sipush (v := 3000) hx hb dX6_run_5 (by decide) ?_
    refine lv_icmp_le (tgt := 13) hx hb dX6_run_8 (by decide) (fun h8 => ?_) (fun h8 => ?_)
    · rw [if_pos h8]
      refine lv_iconst (v := 0) hx hb dX6_run_13 (by decide) ?_
      refine lv_istore_n (lv' := [(2, .int 0), (0, .ref (ad 0)), (1, .int x1)]) hx hb dX6_run_14 rfl hl (by decide) rfl (fun ls hl => ?_)
      exact k_Km_run_15 C _ (lp_init _) w (lv_sub hl [1, 2, 0] rfl) hJ
    · rw [if_neg h8]
      refine lv_iconst (v := (-1 : Int32)) hx hb dX6_run_11 (by decide) ?_
      exact retI C w dX6_run_12
set_option maxHeartbeats 4000000 in
set_option maxRecDepth 100000 in
theorem c_Km_run (l : Launch) (A : Nat → Prop) (D : va_G) (cA : Nat → ClassId) (tb : Nat) (ad : Nat → Nat) (mu nu : Mu) (x1 : Int32) (hJ : ∀ k, Jc (itrC k mu)) : Met l yX6_run wsX6_run ({ frames := 7, cells := 0, slots := 0, locals := 160 }) (va_Pc [.ref (ad 0), .int x1] (Pw A D cA tb ad mu nu)) (va_Qi (fun (r : Int32) (u : Mu × Mu) => r = (F_Km_run x1 mu).1 ∧ u = ((F_Km_run x1 mu).2, nu)) (Bw A D cA ad) A) 0 0 A := by
  refine Met.ofW (cc := cX6_run) (maxL := 3) (ret := (some .int)) (by decide) rfl ?_
  intro p e s m args below meth c s₁ B hml hv
  obtain ⟨rfl, w0⟩ := hv
  have C : Cx cX6_run 3 (some .int) wsX6_run RX6 A D cA tb p s m _ meth c := ⟨B.exec, B.bytes, B.returns, hml, findClass_of_methodNamed B.named, atoms_spec (ws := wsX6_run) B.pre, B.notSynchronized, w0.2.1, w0.2.2.2.1, w0.2.2.2.2⟩
  have hl := lv_entry ([.ref (ad 0), .int x1]) (n := 3) (Nat.le_of_ble_eq_true rfl)
  rw [lg_entry_eq]
  exact k_Km_run C w0.wd hl hJ
def F_Km_register (x1 : Int32) (mu : Mu) : Int32 := (if x1 = 0 then (mu 9 3) else (if x1 = 1 then (mu 9 4) else (if x1 = 2 then (mu 9 5) else (if x1 = 3 then (mu 9 6) else (if x1 = 4 then (mu 9 7) else (if x1 = 5 then (mu 10 0) else (if x1 = 6 then (if (mu 9 8) = (0 : Int32) then 0 else 1) else (if x1 = 7 then (if (mu 9 9) = (0 : Int32) then 0 else 1) else (-1 : Int32)))))))))
set_option maxHeartbeats 4000000 in
set_option maxRecDepth 100000 in
theorem k_Km_register (C : Cx cX6_register 2 (some .int) wsX6_register RX6 A D cA tb p s m args meth c) {mu nu : Mu} {x1 : Int32} {H : Heap} {locs : List Loc} {ls : Array Slot} (w : Wd A D cA ad s mu nu H locs) (hl : lv_has ls 2 [(0, .ref (ad 0)), (1, .int x1)]) : W p l e { frames := 0, cells := 0, slots := 0, locals := 0 } s m args below meth c H locs 0 0 (QI A D cA ad below args s (F_Km_register x1 mu) mu nu) (F0 m 0 ls []) := by
  have hx := C.1
  have hb := C.2.1
  have hts := C.2.2.2.2.2.1
  have hown := C.2.2.2.2.1
  unfold F_Km_register
  refine lv_iload_n hx hb dX6_register_0 rfl (lv_at hl 1 rfl) ?_
  by_cases h1_0 : x1 = (0 : Int32)
  · rw [if_pos h1_0]
    refine lv_tableIn (off := 47) (tgt := 48) hx hb dX6_register_1 (by rw [h1_0]; decide) (by rw [h1_0]; decide) (by rw [h1_0]; decide) (by decide) ?_
    refine lv_aload_n hx hb dX6_register_48 rfl (lv_at hl 0 rfl) ?_
    refine gt_0_4 C (fun _ h => List.mem_cons_of_mem _ (List.mem_append_left _ (List.mem_append_left _ (List.mem_append_right _ h)))) (hts _ (List.mem_of_getElem? (i := 1) rfl)) w dX6_register_49 ?_
    refine gt_9_3 C (fun _ h => List.mem_cons_of_mem _ (List.mem_append_left _ (List.mem_append_right _ h))) (hts _ (List.mem_of_getElem? (i := 2) rfl)) w (v := (mu 9 3)) rfl dX6_register_52 ?_
    exact retI C w dX6_register_55
  · rw [if_neg h1_0]
    by_cases h1_1 : x1 = (1 : Int32)
    · rw [if_pos h1_1]
      refine lv_tableIn (off := 55) (tgt := 56) hx hb dX6_register_1 (by rw [h1_1]; decide) (by rw [h1_1]; decide) (by rw [h1_1]; decide) (by decide) ?_
      refine lv_aload_n hx hb dX6_register_56 rfl (lv_at hl 0 rfl) ?_
      refine gt_0_4 C (fun _ h => List.mem_cons_of_mem _ (List.mem_append_left _ (List.mem_append_left _ (List.mem_append_right _ h)))) (hts _ (List.mem_of_getElem? (i := 1) rfl)) w dX6_register_57 ?_
      refine gt_9_4 C (fun _ h => List.mem_cons_of_mem _ (List.mem_append_left _ (List.mem_append_right _ h))) (hts _ (List.mem_of_getElem? (i := 3) rfl)) w (v := (mu 9 4)) rfl dX6_register_60 ?_
      exact retI C w dX6_register_63
    · rw [if_neg h1_1]
      by_cases h1_2 : x1 = (2 : Int32)
      · rw [if_pos h1_2]
        refine lv_tableIn (off := 63) (tgt := 64) hx hb dX6_register_1 (by rw [h1_2]; decide) (by rw [h1_2]; decide) (by rw [h1_2]; decide) (by decide) ?_
        refine lv_aload_n hx hb dX6_register_64 rfl (lv_at hl 0 rfl) ?_
        refine gt_0_4 C (fun _ h => List.mem_cons_of_mem _ (List.mem_append_left _ (List.mem_append_left _ (List.mem_append_right _ h)))) (hts _ (List.mem_of_getElem? (i := 1) rfl)) w dX6_register_65 ?_
        refine gt_9_5 C (fun _ h => List.mem_cons_of_mem _ (List.mem_append_left _ (List.mem_append_right _ h))) (hts _ (List.mem_of_getElem? (i := 4) rfl)) w (v := (mu 9 5)) rfl dX6_register_68 ?_
        exact retI C w dX6_register_71
      · rw [if_neg h1_2]
        by_cases h1_3 : x1 = (3 : Int32)
        · rw [if_pos h1_3]
          refine lv_tableIn (off := 71) (tgt := 72) hx hb dX6_register_1 (by rw [h1_3]; decide) (by rw [h1_3]; decide) (by rw [h1_3]; decide) (by decide) ?_
          refine lv_aload_n hx hb dX6_register_72 rfl (lv_at hl 0 rfl) ?_
          refine gt_0_4 C (fun _ h => List.mem_cons_of_mem _ (List.mem_append_left _ (List.mem_append_left _ (List.mem_append_right _ h)))) (hts _ (List.mem_of_getElem? (i := 1) rfl)) w dX6_register_73 ?_
          refine gt_9_6 C (fun _ h => List.mem_cons_of_mem _ (List.mem_append_left _ (List.mem_append_right _ h))) (hts _ (List.mem_of_getElem? (i := 5) rfl)) w (v := (mu 9 6)) rfl dX6_register_76 ?_
          exact retI C w dX6_register_79
        · rw [if_neg h1_3]
          by_cases h1_4 : x1 = (4 : Int32)
          · rw [if_pos h1_4]
            refine lv_tableIn (off := 79) (tgt := 80) hx hb dX6_register_1 (by rw [h1_4]; decide) (by rw [h1_4]; decide) (by rw [h1_4]; decide) (by decide) ?_
            refine lv_aload_n hx hb dX6_register_80 rfl (lv_at hl 0 rfl) ?_
            refine gt_0_4 C (fun _ h => List.mem_cons_of_mem _ (List.mem_append_left _ (List.mem_append_left _ (List.mem_append_right _ h)))) (hts _ (List.mem_of_getElem? (i := 1) rfl)) w dX6_register_81 ?_
            refine gt_9_7 C (fun _ h => List.mem_cons_of_mem _ (List.mem_append_left _ (List.mem_append_right _ h))) (hts _ (List.mem_of_getElem? (i := 6) rfl)) w (v := (mu 9 7)) rfl dX6_register_84 ?_
            exact retI C w dX6_register_87
          · rw [if_neg h1_4]
            by_cases h1_5 : x1 = (5 : Int32)
            · rw [if_pos h1_5]
              refine lv_tableIn (off := 87) (tgt := 88) hx hb dX6_register_1 (by rw [h1_5]; decide) (by rw [h1_5]; decide) (by rw [h1_5]; decide) (by decide) ?_
              refine lv_aload_n hx hb dX6_register_88 rfl (lv_at hl 0 rfl) ?_
              refine gt_0_4 C (fun _ h => List.mem_cons_of_mem _ (List.mem_append_left _ (List.mem_append_left _ (List.mem_append_right _ h)))) (hts _ (List.mem_of_getElem? (i := 1) rfl)) w dX6_register_89 ?_
              refine gt_9_2 C (fun _ h => List.mem_cons_of_mem _ (List.mem_append_left _ (List.mem_append_right _ h))) (hts _ (List.mem_of_getElem? (i := 7) rfl)) w dX6_register_92 ?_
              refine gt_10_0 C (fun _ h => List.mem_cons_of_mem _ (List.mem_append_right _ h)) (hts _ (List.mem_of_getElem? (i := 8) rfl)) w (v := (mu 10 0)) rfl dX6_register_95 ?_
              exact retI C w dX6_register_98
            · rw [if_neg h1_5]
              by_cases h1_6 : x1 = (6 : Int32)
              · rw [if_pos h1_6]
                refine lv_tableIn (off := 98) (tgt := 99) hx hb dX6_register_1 (by rw [h1_6]; decide) (by rw [h1_6]; decide) (by rw [h1_6]; decide) (by decide) ?_
                refine lv_aload_n hx hb dX6_register_99 rfl (lv_at hl 0 rfl) ?_
                refine gt_0_4 C (fun _ h => List.mem_cons_of_mem _ (List.mem_append_left _ (List.mem_append_left _ (List.mem_append_right _ h)))) (hts _ (List.mem_of_getElem? (i := 1) rfl)) w dX6_register_100 ?_
                refine gt_9_8 C (fun _ h => List.mem_cons_of_mem _ (List.mem_append_left _ (List.mem_append_right _ h))) (hts _ (List.mem_of_getElem? (i := 9) rfl)) w (v := (mu 9 8)) rfl dX6_register_103 ?_
                refine lv_if_eq (tgt := 113) hx hb dX6_register_106 (by decide) (fun h106 => ?_) (fun h106 => ?_)
                · rw [if_pos h106]
                  refine lv_iconst (v := 0) hx hb dX6_register_113 (by decide) ?_
                  exact retI C w dX6_register_114
                · rw [if_neg h106]
                  refine lv_iconst (v := 1) hx hb dX6_register_109 (by decide) ?_
                  refine lv_goto (tgt := 114) hx hb dX6_register_110 (by decide) ?_
                  exact retI C w dX6_register_114
              · rw [if_neg h1_6]
                by_cases h1_7 : x1 = (7 : Int32)
                · rw [if_pos h1_7]
                  refine lv_tableIn (off := 114) (tgt := 115) hx hb dX6_register_1 (by rw [h1_7]; decide) (by rw [h1_7]; decide) (by rw [h1_7]; decide) (by decide) ?_
                  refine lv_aload_n hx hb dX6_register_115 rfl (lv_at hl 0 rfl) ?_
                  refine gt_0_4 C (fun _ h => List.mem_cons_of_mem _ (List.mem_append_left _ (List.mem_append_left _ (List.mem_append_right _ h)))) (hts _ (List.mem_of_getElem? (i := 1) rfl)) w dX6_register_116 ?_
                  refine gt_9_9 C (fun _ h => List.mem_cons_of_mem _ (List.mem_append_left _ (List.mem_append_right _ h))) (hts _ (List.mem_of_getElem? (i := 10) rfl)) w (v := (mu 9 9)) rfl dX6_register_119 ?_
                  refine lv_if_eq (tgt := 129) hx hb dX6_register_122 (by decide) (fun h122 => ?_) (fun h122 => ?_)
                  · rw [if_pos h122]
                    refine lv_iconst (v := 0) hx hb dX6_register_129 (by decide) ?_
                    exact retI C w dX6_register_130
                  · rw [if_neg h122]
                    refine lv_iconst (v := 1) hx hb dX6_register_125 (by decide) ?_
                    refine lv_goto (tgt := 130) hx hb dX6_register_126 (by decide) ?_
                    exact retI C w dX6_register_130
                · rw [if_neg h1_7]
                  refine lv_tableOut (tgt := 131) hx hb dX6_register_1 (by have := lv_neT h1_0 (a := 0) rfl; have := lv_neT h1_1 (a := 1) rfl; have := lv_neT h1_2 (a := 2) rfl; have := lv_neT h1_3 (a := 3) rfl; have := lv_neT h1_4 (a := 4) rfl; have := lv_neT h1_5 (a := 5) rfl; have := lv_neT h1_6 (a := 6) rfl; have := lv_neT h1_7 (a := 7) rfl; omega) (by decide) ?_
                  refine lv_iconst (v := (-1 : Int32)) hx hb dX6_register_131 (by decide) ?_
                  exact retI C w dX6_register_132
set_option maxHeartbeats 4000000 in
set_option maxRecDepth 100000 in
theorem c_Km_register (l : Launch) (A : Nat → Prop) (D : va_G) (cA : Nat → ClassId) (tb : Nat) (ad : Nat → Nat) (mu nu : Mu) (x1 : Int32) : Met l yX6_register wsX6_register ({ frames := 0, cells := 0, slots := 0, locals := 0 }) (va_Pc [.ref (ad 0), .int x1] (Pw A D cA tb ad mu nu)) (va_Qi (fun (r : Int32) (u : Mu × Mu) => r = F_Km_register x1 mu ∧ u = (mu, nu)) (Bw A D cA ad) A) 0 0 A := by
  refine Met.ofW (cc := cX6_register) (maxL := 2) (ret := (some .int)) (by decide) rfl ?_
  intro p e s m args below meth c s₁ B hml hv
  obtain ⟨rfl, w0⟩ := hv
  have C : Cx cX6_register 2 (some .int) wsX6_register RX6 A D cA tb p s m _ meth c := ⟨B.exec, B.bytes, B.returns, hml, findClass_of_methodNamed B.named, atoms_spec (ws := wsX6_register) B.pre, B.notSynchronized, w0.2.1, w0.2.2.2.1, w0.2.2.2.2⟩
  have hl := lv_entry ([.ref (ad 0), .int x1]) (n := 2) (Nat.le_of_ble_eq_true rfl)
  rw [lg_entry_eq]
  exact k_Km_register C w0.wd hl
def F_Km_receive (x1 : Int32) (mu : Mu) : Int32 × Mu := ((F_Sc_takeOnLine (x1 &&& 255) mu).1, (F_Sc_takeOnLine (x1 &&& 255) mu).2)
set_option maxHeartbeats 4000000 in
set_option maxRecDepth 100000 in
theorem k_Km_receive (C : Cx cX6_receive 2 (some .boolean) wsX6_receive RX6 A D cA tb p s m args meth c) {mu nu : Mu} {x1 : Int32} {H : Heap} {locs : List Loc} {ls : Array Slot} (w : Wd A D cA ad s mu nu H locs) (hl : lv_has ls 2 [(0, .ref (ad 0)), (1, .int x1)]) (hJ : Jc mu) : W p l e { frames := 1, cells := 0, slots := 0, locals := 21 } s m args below meth c H locs 0 0 (QI A D cA ad below args s (F_Km_receive x1 mu).1 (F_Km_receive x1 mu).2 nu) (F0 m 0 ls []) := by
  have hx := C.1
  have hb := C.2.1
  have hts := C.2.2.2.2.2.1
  have hown := C.2.2.2.2.1
  unfold F_Km_receive
  refine lv_aload_n hx hb dX6_receive_0 rfl (lv_at hl 0 rfl) ?_
  refine gt_0_0 C (fun _ h => List.mem_cons_of_mem _ (List.mem_append_left _ (List.mem_append_right _ h))) (hts _ (List.mem_of_getElem? (i := 1) rfl)) w dX6_receive_1 ?_
  refine lv_iload_n hx hb dX6_receive_4 rfl (lv_at hl 1 rfl) ?_
  refine lv_sipush (v := 255) hx hb dX6_receive_5 (by decide) ?_
  refine lv_iand hx hb dX6_receive_8 ?_
  refine kcI (k := 1) (ci := 4) (As := [.int ((x1 &&& 255))]) (rest := []) C w rfl rfl (c_Sc_takeOnLine l A D cA tb ad mu nu (x1 &&& 255) hJ) (cwV 1 hts gX6_receive_X4_takeOnLine rfl rfl rfl (by decide +kernel) ⟨Nat.le_of_ble_eq_true rfl, Nat.le_of_ble_eq_true rfl⟩) rfl rfl hl.1 (Nat.le_of_ble_eq_true rfl) dX6_receive_9 (fun H locs w => ?_)
  exact retZ C w dX6_receive_12 (by first | exact z_Sc_takeOnLine | exact z_Sc_takeOnLine _ | exact z_Sc_takeOnLine _ _ | exact z_Sc_takeOnLine _ _ _)
set_option maxHeartbeats 4000000 in
set_option maxRecDepth 100000 in
theorem c_Km_receive (l : Launch) (A : Nat → Prop) (D : va_G) (cA : Nat → ClassId) (tb : Nat) (ad : Nat → Nat) (mu nu : Mu) (x1 : Int32) (hJ : Jc mu) : Met l yX6_receive wsX6_receive ({ frames := 1, cells := 0, slots := 0, locals := 21 }) (va_Pc [.ref (ad 0), .int x1] (Pw A D cA tb ad mu nu)) (va_Qi (fun (r : Int32) (u : Mu × Mu) => r = (F_Km_receive x1 mu).1 ∧ u = ((F_Km_receive x1 mu).2, nu)) (Bw A D cA ad) A) 0 0 A := by
  refine Met.ofW (cc := cX6_receive) (maxL := 2) (ret := (some .boolean)) (by decide) rfl ?_
  intro p e s m args below meth c s₁ B hml hv
  obtain ⟨rfl, w0⟩ := hv
  have C : Cx cX6_receive 2 (some .boolean) wsX6_receive RX6 A D cA tb p s m _ meth c := ⟨B.exec, B.bytes, B.returns, hml, findClass_of_methodNamed B.named, atoms_spec (ws := wsX6_receive) B.pre, B.notSynchronized, w0.2.1, w0.2.2.2.1, w0.2.2.2.2⟩
  have hl := lv_entry ([.ref (ad 0), .int x1]) (n := 2) (Nat.le_of_ble_eq_true rfl)
  rw [lg_entry_eq]
  exact k_Km_receive C w0.wd hl hJ
def F_Km_sent (mu : Mu) : Int32 := (mu 1 4)
set_option maxHeartbeats 4000000 in
set_option maxRecDepth 100000 in
theorem k_Km_sent (C : Cx cX6_sent 1 (some .int) wsX6_sent RX6 A D cA tb p s m args meth c) {mu nu : Mu} {H : Heap} {locs : List Loc} {ls : Array Slot} (w : Wd A D cA ad s mu nu H locs) (hl : lv_has ls 1 [(0, .ref (ad 0))]) : W p l e { frames := 0, cells := 0, slots := 0, locals := 0 } s m args below meth c H locs 0 0 (QI A D cA ad below args s (F_Km_sent mu) mu nu) (F0 m 0 ls []) := by
  have hx := C.1
  have hb := C.2.1
  have hts := C.2.2.2.2.2.1
  have hown := C.2.2.2.2.1
  unfold F_Km_sent
  refine lv_aload_n hx hb dX6_sent_0 rfl (lv_at hl 0 rfl) ?_
  refine gt_0_0 C (fun _ h => List.mem_cons_of_mem _ (List.mem_append_left _ (List.mem_append_right _ h))) (hts _ (List.mem_of_getElem? (i := 1) rfl)) w dX6_sent_1 ?_
  refine gt_1_4 C (fun _ h => List.mem_cons_of_mem _ (List.mem_append_right _ h)) (hts _ (List.mem_of_getElem? (i := 2) rfl)) w (v := (mu 1 4)) rfl dX6_sent_4 ?_
  exact retI C w dX6_sent_7
set_option maxHeartbeats 4000000 in
set_option maxRecDepth 100000 in
theorem c_Km_sent (l : Launch) (A : Nat → Prop) (D : va_G) (cA : Nat → ClassId) (tb : Nat) (ad : Nat → Nat) (mu nu : Mu) : Met l yX6_sent wsX6_sent ({ frames := 0, cells := 0, slots := 0, locals := 0 }) (va_Pc [.ref (ad 0)] (Pw A D cA tb ad mu nu)) (va_Qi (fun (r : Int32) (u : Mu × Mu) => r = F_Km_sent mu ∧ u = (mu, nu)) (Bw A D cA ad) A) 0 0 A := by
  refine Met.ofW (cc := cX6_sent) (maxL := 1) (ret := (some .int)) (by decide) rfl ?_
  intro p e s m args below meth c s₁ B hml hv
  obtain ⟨rfl, w0⟩ := hv
  have C : Cx cX6_sent 1 (some .int) wsX6_sent RX6 A D cA tb p s m _ meth c := ⟨B.exec, B.bytes, B.returns, hml, findClass_of_methodNamed B.named, atoms_spec (ws := wsX6_sent) B.pre, B.notSynchronized, w0.2.1, w0.2.2.2.1, w0.2.2.2.2⟩
  have hl := lv_entry ([.ref (ad 0)]) (n := 1) (Nat.le_of_ble_eq_true rfl)
  rw [lg_entry_eq]
  exact k_Km_sent C w0.wd hl
def F_Km_sentByte (x1 : Int32) (mu : Mu) : Int32 := (F_Sc_sentAt x1 mu)
set_option maxHeartbeats 4000000 in
set_option maxRecDepth 100000 in
theorem k_Km_sentByte (C : Cx cX6_sentByte 2 (some .int) wsX6_sentByte RX6 A D cA tb p s m args meth c) {mu nu : Mu} {x1 : Int32} {H : Heap} {locs : List Loc} {ls : Array Slot} (w : Wd A D cA ad s mu nu H locs) (hl : lv_has ls 2 [(0, .ref (ad 0)), (1, .int x1)]) (hJ : Jc mu) : W p l e { frames := 1, cells := 0, slots := 0, locals := 21 } s m args below meth c H locs 0 0 (QI A D cA ad below args s (F_Km_sentByte x1 mu) mu nu) (F0 m 0 ls []) := by
  have hx := C.1
  have hb := C.2.1
  have hts := C.2.2.2.2.2.1
  have hown := C.2.2.2.2.1
  unfold F_Km_sentByte
  refine lv_aload_n hx hb dX6_sentByte_0 rfl (lv_at hl 0 rfl) ?_
  refine gt_0_0 C (fun _ h => List.mem_cons_of_mem _ (List.mem_append_left _ (List.mem_append_right _ h))) (hts _ (List.mem_of_getElem? (i := 1) rfl)) w dX6_sentByte_1 ?_
  refine lv_iload_n hx hb dX6_sentByte_4 rfl (lv_at hl 1 rfl) ?_
  refine kcI (k := 1) (ci := 4) (As := [.int x1]) (rest := []) C w rfl rfl (c_Sc_sentAt l A D cA tb ad mu nu x1 hJ) (cwV 1 hts gX6_sentByte_X4_sentAt rfl rfl rfl (by decide +kernel) ⟨Nat.le_of_ble_eq_true rfl, Nat.le_of_ble_eq_true rfl⟩) rfl rfl hl.1 (Nat.le_of_ble_eq_true rfl) dX6_sentByte_5 (fun H locs w => ?_)
  exact retI C w dX6_sentByte_8
set_option maxHeartbeats 4000000 in
set_option maxRecDepth 100000 in
theorem c_Km_sentByte (l : Launch) (A : Nat → Prop) (D : va_G) (cA : Nat → ClassId) (tb : Nat) (ad : Nat → Nat) (mu nu : Mu) (x1 : Int32) (hJ : Jc mu) : Met l yX6_sentByte wsX6_sentByte ({ frames := 1, cells := 0, slots := 0, locals := 21 }) (va_Pc [.ref (ad 0), .int x1] (Pw A D cA tb ad mu nu)) (va_Qi (fun (r : Int32) (u : Mu × Mu) => r = F_Km_sentByte x1 mu ∧ u = (mu, nu)) (Bw A D cA ad) A) 0 0 A := by
  refine Met.ofW (cc := cX6_sentByte) (maxL := 2) (ret := (some .int)) (by decide) rfl ?_
  intro p e s m args below meth c s₁ B hml hv
  obtain ⟨rfl, w0⟩ := hv
  have C : Cx cX6_sentByte 2 (some .int) wsX6_sentByte RX6 A D cA tb p s m _ meth c := ⟨B.exec, B.bytes, B.returns, hml, findClass_of_methodNamed B.named, atoms_spec (ws := wsX6_sentByte) B.pre, B.notSynchronized, w0.2.1, w0.2.2.2.1, w0.2.2.2.2⟩
  have hl := lv_entry ([.ref (ad 0), .int x1]) (n := 2) (Nat.le_of_ble_eq_true rfl)
  rw [lg_entry_eq]
  exact k_Km_sentByte C w0.wd hl hJ
def F_Km_sideOf (ad : Nat → Nat) (x1 : Int32) (mu : Mu) : Option Nat := (if x1 = (0 : Int32) then (some (ad 4)) else (if x1 = (1 : Int32) then (some (ad 5)) else none))
set_option maxHeartbeats 4000000 in
set_option maxRecDepth 100000 in
theorem k_Km_sideOf (C : Cx cX6_sideOf 2 (some (.object "KitMachine$Side")) wsX6_sideOf RX6 A D cA tb p s m args meth c) {mu nu : Mu} {x1 : Int32} {H : Heap} {locs : List Loc} {ls : Array Slot} (w : Wd A D cA ad s mu nu H locs) (hl : lv_has ls 2 [(0, .ref (ad 0)), (1, .int x1)]) : W p l e { frames := 0, cells := 0, slots := 0, locals := 0 } s m args below meth c H locs 0 0 (QQ A D cA ad below args s (F_Km_sideOf ad x1 mu) mu nu) (F0 m 0 ls []) := by
  have hx := C.1
  have hb := C.2.1
  have hts := C.2.2.2.2.2.1
  have hown := C.2.2.2.2.1
  unfold F_Km_sideOf
  refine lv_iload_n hx hb dX6_sideOf_0 rfl (lv_at hl 1 rfl) ?_
  refine lv_if_ne (tgt := 9) hx hb dX6_sideOf_1 (by decide) (fun h1 => ?_) (fun h1 => ?_)
  · rw [if_neg h1]
    refine lv_iload_n hx hb dX6_sideOf_9 rfl (lv_at hl 1 rfl) ?_
    refine lv_iconst (v := 1) hx hb dX6_sideOf_10 (by decide) ?_
    refine lv_icmp_ne (tgt := 21) hx hb dX6_sideOf_11 (by decide) (fun h11 => ?_) (fun h11 => ?_)
    · rw [if_neg h11]
      refine lv_null hx hb dX6_sideOf_21 ?_
      exact retQn C w dX6_sideOf_22
    · rw [if_pos h11]
      refine lv_aload_n hx hb dX6_sideOf_14 rfl (lv_at hl 0 rfl) ?_
      refine gt_0_2 C (fun _ h => List.mem_cons_of_mem _ (List.mem_append_right _ h)) (hts _ (List.mem_of_getElem? (i := 2) rfl)) w dX6_sideOf_15 ?_
      refine lv_goto (tgt := 22) hx hb dX6_sideOf_18 (by decide) ?_
      exact retQr C w dX6_sideOf_22
  · rw [if_pos h1]
    refine lv_aload_n hx hb dX6_sideOf_4 rfl (lv_at hl 0 rfl) ?_
    refine gt_0_1 C (fun _ h => List.mem_cons_of_mem _ (List.mem_append_right _ h)) (hts _ (List.mem_of_getElem? (i := 1) rfl)) w dX6_sideOf_5 ?_
    exact retQr C w dX6_sideOf_8
set_option maxHeartbeats 4000000 in
set_option maxRecDepth 100000 in
theorem c_Km_sideOf (l : Launch) (A : Nat → Prop) (D : va_G) (cA : Nat → ClassId) (tb : Nat) (ad : Nat → Nat) (mu nu : Mu) (x1 : Int32) : Met l yX6_sideOf wsX6_sideOf ({ frames := 0, cells := 0, slots := 0, locals := 0 }) (va_Pc [.ref (ad 0), .int x1] (Pw A D cA tb ad mu nu)) (va_Qq (fun (r : Option Nat) (u : Mu × Mu) => r = F_Km_sideOf ad x1 mu ∧ u = (mu, nu)) (Bw A D cA ad) A) 0 0 A := by
  refine Met.ofW (cc := cX6_sideOf) (maxL := 2) (ret := (some (.object "KitMachine$Side"))) (by decide) rfl ?_
  intro p e s m args below meth c s₁ B hml hv
  obtain ⟨rfl, w0⟩ := hv
  have C : Cx cX6_sideOf 2 (some (.object "KitMachine$Side")) wsX6_sideOf RX6 A D cA tb p s m _ meth c := ⟨B.exec, B.bytes, B.returns, hml, findClass_of_methodNamed B.named, atoms_spec (ws := wsX6_sideOf) B.pre, B.notSynchronized, w0.2.1, w0.2.2.2.1, w0.2.2.2.2⟩
  have hl := lv_entry ([.ref (ad 0), .int x1]) (n := 2) (Nat.le_of_ble_eq_true rfl)
  rw [lg_entry_eq]
  exact k_Km_sideOf C w0.wd hl
def F_Km_pins (x1 : Int32) (x2 : Int32) (mu : Mu) : Int32 × Mu := (if x1 = 0 then (1, (ps mu 4 4 (x2 &&& 255))) else (if x1 = 1 then (1, (ps mu 5 4 (x2 &&& 255))) else (0, mu)))
set_option maxHeartbeats 4000000 in
set_option maxRecDepth 100000 in
theorem k_Km_pins (C : Cx cX6_pins 4 (some .boolean) wsX6_pins RX6 A D cA tb p s m args meth c) {mu nu : Mu} {x1 : Int32} {x2 : Int32} {H : Heap} {locs : List Loc} {ls : Array Slot} (w : Wd A D cA ad s mu nu H locs) (hl : lv_has ls 4 [(0, .ref (ad 0)), (1, .int x1), (2, .int x2)]) : W p l e { frames := 1, cells := 0, slots := 0, locals := 21 } s m args below meth c H locs 0 0 (QI A D cA ad below args s (F_Km_pins x1 x2 mu).1 (F_Km_pins x1 x2 mu).2 nu) (F0 m 0 ls []) := by
  have hx := C.1
  have hb := C.2.1
  have hts := C.2.2.2.2.2.1
  have hown := C.2.2.2.2.1
  unfold F_Km_pins
  refine lv_aload_n hx hb dX6_pins_0 rfl (lv_at hl 0 rfl) ?_
  refine lv_iload_n hx hb dX6_pins_1 rfl (lv_at hl 1 rfl) ?_
  refine kcQ (k := 0) (ci := 6) (As := [.int x1]) (rest := []) C w rfl rfl (c_Km_sideOf l A D cA tb ad mu nu x1) (cwV 1 hts gX6_pins_X6_sideOf rfl rfl rfl (by decide +kernel) ⟨Nat.le_of_ble_eq_true rfl, Nat.le_of_ble_eq_true rfl⟩) rfl rfl hl.1 (Nat.le_of_ble_eq_true rfl) dX6_pins_2 (fun H locs w => ?_)
  unfold F_Km_sideOf
  by_cases h2_0 : x1 = 0
  · simp only [if_pos h2_0]
    refine W.eq (g2 := F0 m 5 ls [.ref (ad 4)]) rfl ?_
    refine lv_astore_n (lv' := [(3, .ref (ad 4)), (0, .ref (ad 0)), (1, .int x1), (2, .int x2)]) hx hb dX6_pins_5 rfl hl (by decide) rfl (fun ls hl => ?_)
    refine lv_aload_n hx hb dX6_pins_6 rfl (lv_at hl 0 rfl) ?_
    refine lv_ifnonnull (tgt := 12) hx hb dX6_pins_7 (by decide) ?_
    refine lv_aload_n hx hb dX6_pins_12 rfl (lv_at hl 0 rfl) ?_
    refine lv_iload_n hx hb dX6_pins_13 rfl (lv_at hl 3 rfl) ?_
    refine lv_sipush (v := 255) hx hb dX6_pins_14 (by decide) ?_
    refine lv_iand hx hb dX6_pins_17 ?_
    refine pt_4_4 C (fun _ h => List.mem_cons_of_mem _ (List.mem_append_left _ (List.mem_append_right _ h))) (hts _ (List.mem_of_getElem? (i := 1) rfl)) w dX6_pins_18 (fun H locs w => ?_)
    refine lv_iconst (v := 1) hx hb dX6_pins_21 (by decide) ?_
    exact retZ C w dX6_pins_22 (Or.inr rfl)
  · simp only [if_neg h2_0]
    by_cases h2_51 : x1 = 1
    · simp only [if_pos h2_51]
      refine W.eq (g2 := F0 m 5 ls [.ref (ad 5)]) rfl ?_
      refine lv_astore_n (lv' := [(3, .ref (ad 5)), (0, .ref (ad 0)), (1, .int x1), (2, .int x2)]) hx hb dX6_pins_5 rfl hl (by decide) rfl (fun ls hl => ?_)
      refine lv_aload_n hx hb dX6_pins_6 rfl (lv_at hl 0 rfl) ?_
      refine lv_ifnonnull (tgt := 12) hx hb dX6_pins_7 (by decide) ?_
      refine lv_aload_n hx hb dX6_pins_12 rfl (lv_at hl 0 rfl) ?_
      refine lv_iload_n hx hb dX6_pins_13 rfl (lv_at hl 3 rfl) ?_
      refine lv_sipush (v := 255) hx hb dX6_pins_14 (by decide) ?_
      refine lv_iand hx hb dX6_pins_17 ?_
      refine pt_5_4 C (fun _ h => List.mem_cons_of_mem _ (List.mem_append_left _ (List.mem_append_right _ h))) (hts _ (List.mem_of_getElem? (i := 1) rfl)) w dX6_pins_18 (fun H locs w => ?_)
      refine lv_iconst (v := 1) hx hb dX6_pins_21 (by decide) ?_
      exact retZ C w dX6_pins_22 (Or.inr rfl)
    · simp only [if_neg h2_51]
      refine W.eq (g2 := F0 m 5 ls [.null]) rfl ?_
      refine lv_astore_nN (lv' := [(3, .null), (0, .ref (ad 0)), (1, .int x1), (2, .int x2)]) hx hb dX6_pins_5 rfl hl (by decide) rfl (fun ls hl => ?_)
      refine lv_aload_nN hx hb dX6_pins_6 rfl (lv_at hl 0 rfl) ?_
      refine lv_ifnonnullN hx hb dX6_pins_7 ?_
      refine lv_iconst (v := 0) hx hb dX6_pins_10 (by decide) ?_
      exact retZ C w dX6_pins_11 (Or.inl rfl)
set_option maxHeartbeats 4000000 in
set_option maxRecDepth 100000 in
theorem c_Km_pins (l : Launch) (A : Nat → Prop) (D : va_G) (cA : Nat → ClassId) (tb : Nat) (ad : Nat → Nat) (mu nu : Mu) (x1 : Int32) (x2 : Int32) : Met l yX6_pins wsX6_pins ({ frames := 1, cells := 0, slots := 0, locals := 21 }) (va_Pc [.ref (ad 0), .int x1, .int x2] (Pw A D cA tb ad mu nu)) (va_Qi (fun (r : Int32) (u : Mu × Mu) => r = (F_Km_pins x1 x2 mu).1 ∧ u = ((F_Km_pins x1 x2 mu).2, nu)) (Bw A D cA ad) A) 0 0 A := by
  refine Met.ofW (cc := cX6_pins) (maxL := 4) (ret := (some .boolean)) (by decide) rfl ?_
  intro p e s m args below meth c s₁ B hml hv
  obtain ⟨rfl, w0⟩ := hv
  have C : Cx cX6_pins 4 (some .boolean) wsX6_pins RX6 A D cA tb p s m _ meth c := ⟨B.exec, B.bytes, B.returns, hml, findClass_of_methodNamed B.named, atoms_spec (ws := wsX6_pins) B.pre, B.notSynchronized, w0.2.1, w0.2.2.2.1, w0.2.2.2.2⟩
  have hl := lv_entry ([.ref (ad 0), .int x1, .int x2]) (n := 4) (Nat.le_of_ble_eq_true rfl)
  rw [lg_entry_eq]
  exact k_Km_pins C w0.wd hl
def F_Km_line_23a (x2 : Int32) (y0 : Int32) (mu : Mu) : Int32 × Mu := (if x2 = (1 : Int32) then (1, (F_Sd4_setFirstLine y0 mu)) else (if x2 = (2 : Int32) then (if (F_Sd4_secondLineIsOutput mu) = (0 : Int32) then (1, (F_Sd4_setSecondLine y0 mu)) else (0, mu)) else (0, mu)))
set_option maxHeartbeats 4000000 in
set_option maxRecDepth 100000 in
theorem k_Km_line_23a (C : Cx cX6_line 6 (some .boolean) wsX6_line RX6 A D cA tb p s m args meth c) {mu nu : Mu} {x2 : Int32} {y0 : Int32} {H : Heap} {locs : List Loc} {ls : Array Slot} (w : Wd A D cA ad s mu nu H locs) (hl : lv_has ls 6 [(2, .int x2), (4, .ref (ad 4))]) : W p l e { frames := 2, cells := 0, slots := 0, locals := 46 } s m args below meth c H locs 0 0 (QI A D cA ad below args s (F_Km_line_23a x2 y0 mu).1 (F_Km_line_23a x2 y0 mu).2 nu) (F0 m 23 ls [.int y0]) := by
  have hx := C.1
  have hb := C.2.1
  have hts := C.2.2.2.2.2.1
  have hown := C.2.2.2.2.1
  unfold F_Km_line_23a
  refine lv_istore (lv' := [(5, .int y0), (2, .int x2), (4, .ref (ad 4))]) hx hb dX6_line_23 hl (by decide) rfl (fun ls hl => ?_)
  refine lv_iload_n hx hb dX6_line_25 rfl (lv_at hl 1 rfl) ?_
  refine lv_iconst (v := 1) hx hb dX6_line_26 (by decide) ?_
  refine lv_icmp_ne (tgt := 39) hx hb dX6_line_27 (by decide) (fun h27 => ?_) (fun h27 => ?_)
  · rw [if_neg h27]
    refine lv_iload_n hx hb dX6_line_39 rfl (lv_at hl 1 rfl) ?_
    refine lv_iconst (v := 2) hx hb dX6_line_40 (by decide) ?_
    refine lv_icmp_ne (tgt := 52) hx hb dX6_line_41 (by decide) (fun h41 => ?_) (fun h41 => ?_)
    · rw [if_neg h41]
      refine lv_iconst (v := 0) hx hb dX6_line_52 (by decide) ?_
      exact retZ C w dX6_line_53 (Or.inl rfl)
    · rw [if_pos h41]
      refine lv_aload hx hb dX6_line_44 (lv_at hl 2 rfl) ?_
      refine kcI (k := 4) (ci := 5) (As := []) (rest := []) C w rfl rfl (c_Sd4_secondLineIsOutput l A D cA tb ad mu nu) (cwV 0 hts gX6_line_X5_secondLineIsOutput rfl rfl rfl (by decide +kernel) ⟨Nat.le_of_ble_eq_true rfl, Nat.le_of_ble_eq_true rfl⟩) rfl rfl hl.1 (Nat.le_of_ble_eq_true rfl) dX6_line_46 (fun H locs w => ?_)
      refine lv_if_eq (tgt := 54) hx hb dX6_line_49 (by decide) (fun h49 => ?_) (fun h49 => ?_)
      · rw [if_pos h49]
        refine lv_aload hx hb dX6_line_54 (lv_at hl 2 rfl) ?_
        refine lv_iload hx hb dX6_line_56 (lv_at hl 0 rfl) ?_
        refine kcV (k := 4) (ci := 5) (As := [.int y0]) (rest := []) C w rfl rfl (c_Sd4_setSecondLine l A D cA tb ad mu nu y0) (cwV 1 hts gX6_line_X5_setSecondLine rfl rfl rfl (by decide +kernel) ⟨Nat.le_of_ble_eq_true rfl, Nat.le_of_ble_eq_true rfl⟩) rfl rfl hl.1 (Nat.le_of_ble_eq_true rfl) dX6_line_58 (fun H locs w => ?_)
        refine lv_iconst (v := 1) hx hb dX6_line_61 (by decide) ?_
        exact retZ C w dX6_line_62 (Or.inr rfl)
      · rw [if_neg h49]
        refine lv_iconst (v := 0) hx hb dX6_line_52 (by decide) ?_
        exact retZ C w dX6_line_53 (Or.inl rfl)
  · rw [if_pos h27]
    refine lv_aload hx hb dX6_line_30 (lv_at hl 2 rfl) ?_
    refine lv_iload hx hb dX6_line_32 (lv_at hl 0 rfl) ?_
    refine kcV (k := 4) (ci := 5) (As := [.int y0]) (rest := []) C w rfl rfl (c_Sd4_setFirstLine l A D cA tb ad mu nu y0) (cwV 1 hts gX6_line_X5_setFirstLine rfl rfl rfl (by decide +kernel) ⟨Nat.le_of_ble_eq_true rfl, Nat.le_of_ble_eq_true rfl⟩) rfl rfl hl.1 (Nat.le_of_ble_eq_true rfl) dX6_line_34 (fun H locs w => ?_)
    refine lv_iconst (v := 1) hx hb dX6_line_37 (by decide) ?_
    exact retZ C w dX6_line_38 (Or.inr rfl)
def F_Km_line_23b (x2 : Int32) (y0 : Int32) (mu : Mu) : Int32 × Mu := (if x2 = (1 : Int32) then (1, (F_Sd5_setFirstLine y0 mu)) else (if x2 = (2 : Int32) then (if (F_Sd5_secondLineIsOutput mu) = (0 : Int32) then (1, (F_Sd5_setSecondLine y0 mu)) else (0, mu)) else (0, mu)))
set_option maxHeartbeats 4000000 in
set_option maxRecDepth 100000 in
theorem k_Km_line_23b (C : Cx cX6_line 6 (some .boolean) wsX6_line RX6 A D cA tb p s m args meth c) {mu nu : Mu} {x2 : Int32} {y0 : Int32} {H : Heap} {locs : List Loc} {ls : Array Slot} (w : Wd A D cA ad s mu nu H locs) (hl : lv_has ls 6 [(2, .int x2), (4, .ref (ad 5))]) : W p l e { frames := 2, cells := 0, slots := 0, locals := 46 } s m args below meth c H locs 0 0 (QI A D cA ad below args s (F_Km_line_23b x2 y0 mu).1 (F_Km_line_23b x2 y0 mu).2 nu) (F0 m 23 ls [.int y0]) := by
  have hx := C.1
  have hb := C.2.1
  have hts := C.2.2.2.2.2.1
  have hown := C.2.2.2.2.1
  unfold F_Km_line_23b
  refine lv_istore (lv' := [(5, .int y0), (2, .int x2), (4, .ref (ad 5))]) hx hb dX6_line_23 hl (by decide) rfl (fun ls hl => ?_)
  refine lv_iload_n hx hb dX6_line_25 rfl (lv_at hl 1 rfl) ?_
  refine lv_iconst (v := 1) hx hb dX6_line_26 (by decide) ?_
  refine lv_icmp_ne (tgt := 39) hx hb dX6_line_27 (by decide) (fun h27 => ?_) (fun h27 => ?_)
  · rw [if_neg h27]
    refine lv_iload_n hx hb dX6_line_39 rfl (lv_at hl 1 rfl) ?_
    refine lv_iconst (v := 2) hx hb dX6_line_40 (by decide) ?_
    refine lv_icmp_ne (tgt := 52) hx hb dX6_line_41 (by decide) (fun h41 => ?_) (fun h41 => ?_)
    · rw [if_neg h41]
      refine lv_iconst (v := 0) hx hb dX6_line_52 (by decide) ?_
      exact retZ C w dX6_line_53 (Or.inl rfl)
    · rw [if_pos h41]
      refine lv_aload hx hb dX6_line_44 (lv_at hl 2 rfl) ?_
      refine kcI (k := 5) (ci := 5) (As := []) (rest := []) C w rfl rfl (c_Sd5_secondLineIsOutput l A D cA tb ad mu nu) (cwV 0 hts gX6_line_X5_secondLineIsOutput rfl rfl rfl (by decide +kernel) ⟨Nat.le_of_ble_eq_true rfl, Nat.le_of_ble_eq_true rfl⟩) rfl rfl hl.1 (Nat.le_of_ble_eq_true rfl) dX6_line_46 (fun H locs w => ?_)
      refine lv_if_eq (tgt := 54) hx hb dX6_line_49 (by decide) (fun h49 => ?_) (fun h49 => ?_)
      · rw [if_pos h49]
        refine lv_aload hx hb dX6_line_54 (lv_at hl 2 rfl) ?_
        refine lv_iload hx hb dX6_line_56 (lv_at hl 0 rfl) ?_
        refine kcV (k := 5) (ci := 5) (As := [.int y0]) (rest := []) C w rfl rfl (c_Sd5_setSecondLine l A D cA tb ad mu nu y0) (cwV 1 hts gX6_line_X5_setSecondLine rfl rfl rfl (by decide +kernel) ⟨Nat.le_of_ble_eq_true rfl, Nat.le_of_ble_eq_true rfl⟩) rfl rfl hl.1 (Nat.le_of_ble_eq_true rfl) dX6_line_58 (fun H locs w => ?_)
        refine lv_iconst (v := 1) hx hb dX6_line_61 (by decide) ?_
        exact retZ C w dX6_line_62 (Or.inr rfl)
      · rw [if_neg h49]
        refine lv_iconst (v := 0) hx hb dX6_line_52 (by decide) ?_
        exact retZ C w dX6_line_53 (Or.inl rfl)
  · rw [if_pos h27]
    refine lv_aload hx hb dX6_line_30 (lv_at hl 2 rfl) ?_
    refine lv_iload hx hb dX6_line_32 (lv_at hl 0 rfl) ?_
    refine kcV (k := 5) (ci := 5) (As := [.int y0]) (rest := []) C w rfl rfl (c_Sd5_setFirstLine l A D cA tb ad mu nu y0) (cwV 1 hts gX6_line_X5_setFirstLine rfl rfl rfl (by decide +kernel) ⟨Nat.le_of_ble_eq_true rfl, Nat.le_of_ble_eq_true rfl⟩) rfl rfl hl.1 (Nat.le_of_ble_eq_true rfl) dX6_line_34 (fun H locs w => ?_)
    refine lv_iconst (v := 1) hx hb dX6_line_37 (by decide) ?_
    exact retZ C w dX6_line_38 (Or.inr rfl)
def F_Km_line (x1 : Int32) (x2 : Int32) (x3 : Int32) (mu : Mu) : Int32 × Mu := (if x1 = 0 then (if x3 = (0 : Int32) then F_Km_line_23a x2 0 mu else F_Km_line_23a x2 1 mu) else (if x1 = 1 then (if x3 = (0 : Int32) then F_Km_line_23b x2 0 mu else F_Km_line_23b x2 1 mu) else (0, mu)))
set_option maxHeartbeats 4000000 in
set_option maxRecDepth 100000 in
theorem k_Km_line (C : Cx cX6_line 6 (some .boolean) wsX6_line RX6 A D cA tb p s m args meth c) {mu nu : Mu} {x1 : Int32} {x2 : Int32} {x3 : Int32} {H : Heap} {locs : List Loc} {ls : Array Slot} (w : Wd A D cA ad s mu nu H locs) (hl : lv_has ls 6 [(0, .ref (ad 0)), (1, .int x1), (2, .int x2), (3, .int x3)]) : W p l e { frames := 2, cells := 0, slots := 0, locals := 46 } s m args below meth c H locs 0 0 (QI A D cA ad below args s (F_Km_line x1 x2 x3 mu).1 (F_Km_line x1 x2 x3 mu).2 nu) (F0 m 0 ls []) := by
  have hx := C.1
  have hb := C.2.1
  have hts := C.2.2.2.2.2.1
  have hown := C.2.2.2.2.1
  unfold F_Km_line
  refine lv_aload_n hx hb dX6_line_0 rfl (lv_at hl 0 rfl) ?_
  refine lv_iload_n hx hb dX6_line_1 rfl (lv_at hl 1 rfl) ?_
  refine kcQ (k := 0) (ci := 6) (As := [.int x1]) (rest := []) C w rfl rfl (c_Km_sideOf l A D cA tb ad mu nu x1) (cwV 1 hts gX6_line_X6_sideOf rfl rfl rfl (by decide +kernel) ⟨Nat.le_of_ble_eq_true rfl, Nat.le_of_ble_eq_true rfl⟩) rfl rfl hl.1 (Nat.le_of_ble_eq_true rfl) dX6_line_2 (fun H locs w => ?_)
  unfold F_Km_sideOf
  by_cases h2_0 : x1 = 0
  · simp only [if_pos h2_0]
    refine W.eq (g2 := F0 m 5 ls [.ref (ad 4)]) rfl ?_
    refine lv_astore (lv' := [(4, .ref (ad 4)), (0, .ref (ad 0)), (1, .int x1), (2, .int x2), (3, .int x3)]) hx hb dX6_line_5 hl (by decide) rfl (fun ls hl => ?_)
    refine lv_aload hx hb dX6_line_7 (lv_at hl 0 rfl) ?_
    refine lv_ifnonnull (tgt := 14) hx hb dX6_line_9 (by decide) ?_
    refine lv_iload_n hx hb dX6_line_14 rfl (lv_at hl 4 rfl) ?_
    refine lv_if_eq (tgt := 22) hx hb dX6_line_15 (by decide) (fun h15 => ?_) (fun h15 => ?_)
    · rw [if_pos h15]
      refine lv_iconst (v := 0) hx hb dX6_line_22 (by decide) ?_
      exact k_Km_line_23a C w (lv_sub hl [3, 0] rfl)
    · rw [if_neg h15]
      refine lv_iconst (v := 1) hx hb dX6_line_18 (by decide) ?_
      refine lv_goto (tgt := 23) hx hb dX6_line_19 (by decide) ?_
      exact k_Km_line_23a C w (lv_sub hl [3, 0] rfl)
  · simp only [if_neg h2_0]
    by_cases h2_97 : x1 = 1
    · simp only [if_pos h2_97]
      refine W.eq (g2 := F0 m 5 ls [.ref (ad 5)]) rfl ?_
      refine lv_astore (lv' := [(4, .ref (ad 5)), (0, .ref (ad 0)), (1, .int x1), (2, .int x2), (3, .int x3)]) hx hb dX6_line_5 hl (by decide) rfl (fun ls hl => ?_)
      refine lv_aload hx hb dX6_line_7 (lv_at hl 0 rfl) ?_
      refine lv_ifnonnull (tgt := 14) hx hb dX6_line_9 (by decide) ?_
      refine lv_iload_n hx hb dX6_line_14 rfl (lv_at hl 4 rfl) ?_
      refine lv_if_eq (tgt := 22) hx hb dX6_line_15 (by decide) (fun h15 => ?_) (fun h15 => ?_)
      · rw [if_pos h15]
        refine lv_iconst (v := 0) hx hb dX6_line_22 (by decide) ?_
        exact k_Km_line_23b C w (lv_sub hl [3, 0] rfl)
      · rw [if_neg h15]
        refine lv_iconst (v := 1) hx hb dX6_line_18 (by decide) ?_
        refine lv_goto (tgt := 23) hx hb dX6_line_19 (by decide) ?_
        exact k_Km_line_23b C w (lv_sub hl [3, 0] rfl)
    · simp only [if_neg h2_97]
      refine W.eq (g2 := F0 m 5 ls [.null]) rfl ?_
      refine lv_astoreN (lv' := [(4, .null), (0, .ref (ad 0)), (1, .int x1), (2, .int x2), (3, .int x3)]) hx hb dX6_line_5 hl (by decide) rfl (fun ls hl => ?_)
      refine lv_aloadN hx hb dX6_line_7 (lv_at hl 0 rfl) ?_
      refine lv_ifnonnullN hx hb dX6_line_9 ?_
      refine lv_iconst (v := 0) hx hb dX6_line_12 (by decide) ?_
      exact retZ C w dX6_line_13 (Or.inl rfl)
set_option maxHeartbeats 4000000 in
set_option maxRecDepth 100000 in
theorem c_Km_line (l : Launch) (A : Nat → Prop) (D : va_G) (cA : Nat → ClassId) (tb : Nat) (ad : Nat → Nat) (mu nu : Mu) (x1 : Int32) (x2 : Int32) (x3 : Int32) : Met l yX6_line wsX6_line ({ frames := 2, cells := 0, slots := 0, locals := 46 }) (va_Pc [.ref (ad 0), .int x1, .int x2, .int x3] (Pw A D cA tb ad mu nu)) (va_Qi (fun (r : Int32) (u : Mu × Mu) => r = (F_Km_line x1 x2 x3 mu).1 ∧ u = ((F_Km_line x1 x2 x3 mu).2, nu)) (Bw A D cA ad) A) 0 0 A := by
  refine Met.ofW (cc := cX6_line) (maxL := 6) (ret := (some .boolean)) (by decide) rfl ?_
  intro p e s m args below meth c s₁ B hml hv
  obtain ⟨rfl, w0⟩ := hv
  have C : Cx cX6_line 6 (some .boolean) wsX6_line RX6 A D cA tb p s m _ meth c := ⟨B.exec, B.bytes, B.returns, hml, findClass_of_methodNamed B.named, atoms_spec (ws := wsX6_line) B.pre, B.notSynchronized, w0.2.1, w0.2.2.2.1, w0.2.2.2.2⟩
  have hl := lv_entry ([.ref (ad 0), .int x1, .int x2, .int x3]) (n := 6) (Nat.le_of_ble_eq_true rfl)
  rw [lg_entry_eq]
  exact k_Km_line C w0.wd hl
def F_Km_port (x1 : Int32) (x2 : Int32) (mu : Mu) : Int32 := (if x1 = 0 then (if x2 = 0 then ((mu 4 1) &&& (mu 4 2)) else (if x2 = 1 then (mu 4 2) else (if x2 = 2 then (mu 4 3) else (if x2 = 3 then (mu 4 5) else (if x2 = 4 then (mu 4 6) else (if x2 = 5 then (mu 4 4) else (-1 : Int32))))))) else (if x1 = 1 then (if x2 = 0 then ((mu 5 1) &&& (mu 5 2)) else (if x2 = 1 then (mu 5 2) else (if x2 = 2 then (mu 5 3) else (if x2 = 3 then (mu 5 5) else (if x2 = 4 then (mu 5 6) else (if x2 = 5 then (mu 5 4) else (-1 : Int32))))))) else (-1 : Int32)))
set_option maxHeartbeats 4000000 in
set_option maxRecDepth 100000 in
theorem k_Km_port (C : Cx cX6_port 4 (some .int) wsX6_port RX6 A D cA tb p s m args meth c) {mu nu : Mu} {x1 : Int32} {x2 : Int32} {H : Heap} {locs : List Loc} {ls : Array Slot} (w : Wd A D cA ad s mu nu H locs) (hl : lv_has ls 4 [(0, .ref (ad 0)), (1, .int x1), (2, .int x2)]) : W p l e { frames := 1, cells := 0, slots := 0, locals := 21 } s m args below meth c H locs 0 0 (QI A D cA ad below args s (F_Km_port x1 x2 mu) mu nu) (F0 m 0 ls []) := by
  have hx := C.1
  have hb := C.2.1
  have hts := C.2.2.2.2.2.1
  have hown := C.2.2.2.2.1
  unfold F_Km_port
  refine lv_aload_n hx hb dX6_port_0 rfl (lv_at hl 0 rfl) ?_
  refine lv_iload_n hx hb dX6_port_1 rfl (lv_at hl 1 rfl) ?_
  refine kcQ (k := 0) (ci := 6) (As := [.int x1]) (rest := []) C w rfl rfl (c_Km_sideOf l A D cA tb ad mu nu x1) (cwV 1 hts gX6_port_X6_sideOf rfl rfl rfl (by decide +kernel) ⟨Nat.le_of_ble_eq_true rfl, Nat.le_of_ble_eq_true rfl⟩) rfl rfl hl.1 (Nat.le_of_ble_eq_true rfl) dX6_port_2 (fun H locs w => ?_)
  unfold F_Km_sideOf
  by_cases h2_0 : x1 = 0
  · simp only [if_pos h2_0]
    refine W.eq (g2 := F0 m 5 ls [.ref (ad 4)]) rfl ?_
    refine lv_astore_n (lv' := [(3, .ref (ad 4)), (0, .ref (ad 0)), (1, .int x1), (2, .int x2)]) hx hb dX6_port_5 rfl hl (by decide) rfl (fun ls hl => ?_)
    refine lv_aload_n hx hb dX6_port_6 rfl (lv_at hl 0 rfl) ?_
    refine lv_ifnonnull (tgt := 12) hx hb dX6_port_7 (by decide) ?_
    refine lv_iload_n hx hb dX6_port_12 rfl (lv_at hl 3 rfl) ?_
    by_cases h13_0 : x2 = (0 : Int32)
    · rw [if_pos h13_0]
      refine lv_tableIn (off := 39) (tgt := 52) hx hb dX6_port_13 (by rw [h13_0]; decide) (by rw [h13_0]; decide) (by rw [h13_0]; decide) (by decide) ?_
      refine lv_aload_n hx hb dX6_port_52 rfl (lv_at hl 0 rfl) ?_
      refine gt_4_1 C (fun _ h => List.mem_cons_of_mem _ (List.mem_append_left _ (List.mem_append_right _ h))) (hts _ (List.mem_of_getElem? (i := 1) rfl)) w (v := (mu 4 1)) rfl dX6_port_53 ?_
      refine lv_aload_n hx hb dX6_port_56 rfl (lv_at hl 0 rfl) ?_
      refine gt_4_2 C (fun _ h => List.mem_cons_of_mem _ (List.mem_append_left _ (List.mem_append_right _ h))) (hts _ (List.mem_of_getElem? (i := 2) rfl)) w (v := (mu 4 2)) rfl dX6_port_57 ?_
      refine lv_iand hx hb dX6_port_60 ?_
      exact retI C w dX6_port_61
    · rw [if_neg h13_0]
      by_cases h13_1 : x2 = (1 : Int32)
      · rw [if_pos h13_1]
        refine lv_tableIn (off := 49) (tgt := 62) hx hb dX6_port_13 (by rw [h13_1]; decide) (by rw [h13_1]; decide) (by rw [h13_1]; decide) (by decide) ?_
        refine lv_aload_n hx hb dX6_port_62 rfl (lv_at hl 0 rfl) ?_
        refine gt_4_2 C (fun _ h => List.mem_cons_of_mem _ (List.mem_append_left _ (List.mem_append_right _ h))) (hts _ (List.mem_of_getElem? (i := 2) rfl)) w (v := (mu 4 2)) rfl dX6_port_63 ?_
        exact retI C w dX6_port_66
      · rw [if_neg h13_1]
        by_cases h13_2 : x2 = (2 : Int32)
        · rw [if_pos h13_2]
          refine lv_tableIn (off := 54) (tgt := 67) hx hb dX6_port_13 (by rw [h13_2]; decide) (by rw [h13_2]; decide) (by rw [h13_2]; decide) (by decide) ?_
          refine lv_aload_n hx hb dX6_port_67 rfl (lv_at hl 0 rfl) ?_
          refine gt_4_3 C (fun _ h => List.mem_cons_of_mem _ (List.mem_append_left _ (List.mem_append_right _ h))) (hts _ (List.mem_of_getElem? (i := 3) rfl)) w (v := (mu 4 3)) rfl dX6_port_68 ?_
          exact retI C w dX6_port_71
        · rw [if_neg h13_2]
          by_cases h13_3 : x2 = (3 : Int32)
          · rw [if_pos h13_3]
            refine lv_tableIn (off := 59) (tgt := 72) hx hb dX6_port_13 (by rw [h13_3]; decide) (by rw [h13_3]; decide) (by rw [h13_3]; decide) (by decide) ?_
            refine lv_aload_n hx hb dX6_port_72 rfl (lv_at hl 0 rfl) ?_
            refine gt_4_5 C (fun _ h => List.mem_cons_of_mem _ (List.mem_append_left _ (List.mem_append_right _ h))) (hts _ (List.mem_of_getElem? (i := 4) rfl)) w (v := (mu 4 5)) rfl dX6_port_73 ?_
            exact retI C w dX6_port_76
          · rw [if_neg h13_3]
            by_cases h13_4 : x2 = (4 : Int32)
            · rw [if_pos h13_4]
              refine lv_tableIn (off := 64) (tgt := 77) hx hb dX6_port_13 (by rw [h13_4]; decide) (by rw [h13_4]; decide) (by rw [h13_4]; decide) (by decide) ?_
              refine lv_aload_n hx hb dX6_port_77 rfl (lv_at hl 0 rfl) ?_
              refine gt_4_6 C (fun _ h => List.mem_cons_of_mem _ (List.mem_append_left _ (List.mem_append_right _ h))) (hts _ (List.mem_of_getElem? (i := 5) rfl)) w (v := (mu 4 6)) rfl dX6_port_78 ?_
              exact retI C w dX6_port_81
            · rw [if_neg h13_4]
              by_cases h13_5 : x2 = (5 : Int32)
              · rw [if_pos h13_5]
                refine lv_tableIn (off := 69) (tgt := 82) hx hb dX6_port_13 (by rw [h13_5]; decide) (by rw [h13_5]; decide) (by rw [h13_5]; decide) (by decide) ?_
                refine lv_aload_n hx hb dX6_port_82 rfl (lv_at hl 0 rfl) ?_
                refine gt_4_4 C (fun _ h => List.mem_cons_of_mem _ (List.mem_append_left _ (List.mem_append_right _ h))) (hts _ (List.mem_of_getElem? (i := 6) rfl)) w (v := (mu 4 4)) rfl dX6_port_83 ?_
                exact retI C w dX6_port_86
              · rw [if_neg h13_5]
                refine lv_tableOut (tgt := 87) hx hb dX6_port_13 (by have := lv_neT h13_0 (a := 0) rfl; have := lv_neT h13_1 (a := 1) rfl; have := lv_neT h13_2 (a := 2) rfl; have := lv_neT h13_3 (a := 3) rfl; have := lv_neT h13_4 (a := 4) rfl; have := lv_neT h13_5 (a := 5) rfl; omega) (by decide) ?_
                refine lv_iconst (v := (-1 : Int32)) hx hb dX6_port_87 (by decide) ?_
                exact retI C w dX6_port_88
  · simp only [if_neg h2_0]
    by_cases h2_235 : x1 = 1
    · simp only [if_pos h2_235]
      refine W.eq (g2 := F0 m 5 ls [.ref (ad 5)]) rfl ?_
      refine lv_astore_n (lv' := [(3, .ref (ad 5)), (0, .ref (ad 0)), (1, .int x1), (2, .int x2)]) hx hb dX6_port_5 rfl hl (by decide) rfl (fun ls hl => ?_)
      refine lv_aload_n hx hb dX6_port_6 rfl (lv_at hl 0 rfl) ?_
      refine lv_ifnonnull (tgt := 12) hx hb dX6_port_7 (by decide) ?_
      refine lv_iload_n hx hb dX6_port_12 rfl (lv_at hl 3 rfl) ?_
      by_cases h13_0 : x2 = (0 : Int32)
      · rw [if_pos h13_0]
        refine lv_tableIn (off := 39) (tgt := 52) hx hb dX6_port_13 (by rw [h13_0]; decide) (by rw [h13_0]; decide) (by rw [h13_0]; decide) (by decide) ?_
        refine lv_aload_n hx hb dX6_port_52 rfl (lv_at hl 0 rfl) ?_
        refine gt_5_1 C (fun _ h => List.mem_cons_of_mem _ (List.mem_append_left _ (List.mem_append_right _ h))) (hts _ (List.mem_of_getElem? (i := 1) rfl)) w (v := (mu 5 1)) rfl dX6_port_53 ?_
        refine lv_aload_n hx hb dX6_port_56 rfl (lv_at hl 0 rfl) ?_
        refine gt_5_2 C (fun _ h => List.mem_cons_of_mem _ (List.mem_append_left _ (List.mem_append_right _ h))) (hts _ (List.mem_of_getElem? (i := 2) rfl)) w (v := (mu 5 2)) rfl dX6_port_57 ?_
        refine lv_iand hx hb dX6_port_60 ?_
        exact retI C w dX6_port_61
      · rw [if_neg h13_0]
        by_cases h13_1 : x2 = (1 : Int32)
        · rw [if_pos h13_1]
          refine lv_tableIn (off := 49) (tgt := 62) hx hb dX6_port_13 (by rw [h13_1]; decide) (by rw [h13_1]; decide) (by rw [h13_1]; decide) (by decide) ?_
          refine lv_aload_n hx hb dX6_port_62 rfl (lv_at hl 0 rfl) ?_
          refine gt_5_2 C (fun _ h => List.mem_cons_of_mem _ (List.mem_append_left _ (List.mem_append_right _ h))) (hts _ (List.mem_of_getElem? (i := 2) rfl)) w (v := (mu 5 2)) rfl dX6_port_63 ?_
          exact retI C w dX6_port_66
        · rw [if_neg h13_1]
          by_cases h13_2 : x2 = (2 : Int32)
          · rw [if_pos h13_2]
            refine lv_tableIn (off := 54) (tgt := 67) hx hb dX6_port_13 (by rw [h13_2]; decide) (by rw [h13_2]; decide) (by rw [h13_2]; decide) (by decide) ?_
            refine lv_aload_n hx hb dX6_port_67 rfl (lv_at hl 0 rfl) ?_
            refine gt_5_3 C (fun _ h => List.mem_cons_of_mem _ (List.mem_append_left _ (List.mem_append_right _ h))) (hts _ (List.mem_of_getElem? (i := 3) rfl)) w (v := (mu 5 3)) rfl dX6_port_68 ?_
            exact retI C w dX6_port_71
          · rw [if_neg h13_2]
            by_cases h13_3 : x2 = (3 : Int32)
            · rw [if_pos h13_3]
              refine lv_tableIn (off := 59) (tgt := 72) hx hb dX6_port_13 (by rw [h13_3]; decide) (by rw [h13_3]; decide) (by rw [h13_3]; decide) (by decide) ?_
              refine lv_aload_n hx hb dX6_port_72 rfl (lv_at hl 0 rfl) ?_
              refine gt_5_5 C (fun _ h => List.mem_cons_of_mem _ (List.mem_append_left _ (List.mem_append_right _ h))) (hts _ (List.mem_of_getElem? (i := 4) rfl)) w (v := (mu 5 5)) rfl dX6_port_73 ?_
              exact retI C w dX6_port_76
            · rw [if_neg h13_3]
              by_cases h13_4 : x2 = (4 : Int32)
              · rw [if_pos h13_4]
                refine lv_tableIn (off := 64) (tgt := 77) hx hb dX6_port_13 (by rw [h13_4]; decide) (by rw [h13_4]; decide) (by rw [h13_4]; decide) (by decide) ?_
                refine lv_aload_n hx hb dX6_port_77 rfl (lv_at hl 0 rfl) ?_
                refine gt_5_6 C (fun _ h => List.mem_cons_of_mem _ (List.mem_append_left _ (List.mem_append_right _ h))) (hts _ (List.mem_of_getElem? (i := 5) rfl)) w (v := (mu 5 6)) rfl dX6_port_78 ?_
                exact retI C w dX6_port_81
              · rw [if_neg h13_4]
                by_cases h13_5 : x2 = (5 : Int32)
                · rw [if_pos h13_5]
                  refine lv_tableIn (off := 69) (tgt := 82) hx hb dX6_port_13 (by rw [h13_5]; decide) (by rw [h13_5]; decide) (by rw [h13_5]; decide) (by decide) ?_
                  refine lv_aload_n hx hb dX6_port_82 rfl (lv_at hl 0 rfl) ?_
                  refine gt_5_4 C (fun _ h => List.mem_cons_of_mem _ (List.mem_append_left _ (List.mem_append_right _ h))) (hts _ (List.mem_of_getElem? (i := 6) rfl)) w (v := (mu 5 4)) rfl dX6_port_83 ?_
                  exact retI C w dX6_port_86
                · rw [if_neg h13_5]
                  refine lv_tableOut (tgt := 87) hx hb dX6_port_13 (by have := lv_neT h13_0 (a := 0) rfl; have := lv_neT h13_1 (a := 1) rfl; have := lv_neT h13_2 (a := 2) rfl; have := lv_neT h13_3 (a := 3) rfl; have := lv_neT h13_4 (a := 4) rfl; have := lv_neT h13_5 (a := 5) rfl; omega) (by decide) ?_
                  refine lv_iconst (v := (-1 : Int32)) hx hb dX6_port_87 (by decide) ?_
                  exact retI C w dX6_port_88
    · simp only [if_neg h2_235]
      refine W.eq (g2 := F0 m 5 ls [.null]) rfl ?_
      refine lv_astore_nN (lv' := [(3, .null), (0, .ref (ad 0)), (1, .int x1), (2, .int x2)]) hx hb dX6_port_5 rfl hl (by decide) rfl (fun ls hl => ?_)
      refine lv_aload_nN hx hb dX6_port_6 rfl (lv_at hl 0 rfl) ?_
      refine lv_ifnonnullN hx hb dX6_port_7 ?_
      refine lv_iconst (v := (-1 : Int32)) hx hb dX6_port_10 (by decide) ?_
      exact retI C w dX6_port_11
set_option maxHeartbeats 4000000 in
set_option maxRecDepth 100000 in
theorem c_Km_port (l : Launch) (A : Nat → Prop) (D : va_G) (cA : Nat → ClassId) (tb : Nat) (ad : Nat → Nat) (mu nu : Mu) (x1 : Int32) (x2 : Int32) : Met l yX6_port wsX6_port ({ frames := 1, cells := 0, slots := 0, locals := 21 }) (va_Pc [.ref (ad 0), .int x1, .int x2] (Pw A D cA tb ad mu nu)) (va_Qi (fun (r : Int32) (u : Mu × Mu) => r = F_Km_port x1 x2 mu ∧ u = (mu, nu)) (Bw A D cA ad) A) 0 0 A := by
  refine Met.ofW (cc := cX6_port) (maxL := 4) (ret := (some .int)) (by decide) rfl ?_
  intro p e s m args below meth c s₁ B hml hv
  obtain ⟨rfl, w0⟩ := hv
  have C : Cx cX6_port 4 (some .int) wsX6_port RX6 A D cA tb p s m _ meth c := ⟨B.exec, B.bytes, B.returns, hml, findClass_of_methodNamed B.named, atoms_spec (ws := wsX6_port) B.pre, B.notSynchronized, w0.2.1, w0.2.2.2.1, w0.2.2.2.2⟩
  have hl := lv_entry ([.ref (ad 0), .int x1, .int x2]) (n := 4) (Nat.le_of_ble_eq_true rfl)
  rw [lg_entry_eq]
  exact k_Km_port C w0.wd hl
def F_Km_serial (x1 : Int32) (mu : Mu) : Int32 := (if x1 = 0 then (F_Sc_status mu) else (if x1 = 1 then (mu 1 15) else (if x1 = 2 then (mu 1 3) else (if x1 = 3 then (mu 1 13) else (if x1 = 4 then (mu 1 14) else (-1 : Int32))))))
set_option maxHeartbeats 4000000 in
set_option maxRecDepth 100000 in
theorem k_Km_serial (C : Cx cX6_serial 2 (some .int) wsX6_serial RX6 A D cA tb p s m args meth c) {mu nu : Mu} {x1 : Int32} {H : Heap} {locs : List Loc} {ls : Array Slot} (w : Wd A D cA ad s mu nu H locs) (hl : lv_has ls 2 [(0, .ref (ad 0)), (1, .int x1)]) : W p l e { frames := 2, cells := 0, slots := 0, locals := 42 } s m args below meth c H locs 0 0 (QI A D cA ad below args s (F_Km_serial x1 mu) mu nu) (F0 m 0 ls []) := by
  have hx := C.1
  have hb := C.2.1
  have hts := C.2.2.2.2.2.1
  have hown := C.2.2.2.2.1
  unfold F_Km_serial
  refine lv_iload_n hx hb dX6_serial_0 rfl (lv_at hl 1 rfl) ?_
  by_cases h1_0 : x1 = (0 : Int32)
  · rw [if_pos h1_0]
    refine lv_tableIn (off := 35) (tgt := 36) hx hb dX6_serial_1 (by rw [h1_0]; decide) (by rw [h1_0]; decide) (by rw [h1_0]; decide) (by decide) ?_
    refine lv_aload_n hx hb dX6_serial_36 rfl (lv_at hl 0 rfl) ?_
    refine gt_0_0 C (fun _ h => List.mem_cons_of_mem _ (List.mem_append_left _ (List.mem_append_right _ h))) (hts _ (List.mem_of_getElem? (i := 1) rfl)) w dX6_serial_37 ?_
    refine kcI (k := 1) (ci := 4) (As := []) (rest := []) C w rfl rfl (c_Sc_status l A D cA tb ad mu nu) (cwV 0 hts gX6_serial_X4_status rfl rfl rfl (by decide +kernel) ⟨Nat.le_of_ble_eq_true rfl, Nat.le_of_ble_eq_true rfl⟩) rfl rfl hl.1 (Nat.le_of_ble_eq_true rfl) dX6_serial_40 (fun H locs w => ?_)
    exact retI C w dX6_serial_43
  · rw [if_neg h1_0]
    by_cases h1_1 : x1 = (1 : Int32)
    · rw [if_pos h1_1]
      refine lv_tableIn (off := 43) (tgt := 44) hx hb dX6_serial_1 (by rw [h1_1]; decide) (by rw [h1_1]; decide) (by rw [h1_1]; decide) (by decide) ?_
      refine lv_aload_n hx hb dX6_serial_44 rfl (lv_at hl 0 rfl) ?_
      refine gt_0_0 C (fun _ h => List.mem_cons_of_mem _ (List.mem_append_left _ (List.mem_append_right _ h))) (hts _ (List.mem_of_getElem? (i := 1) rfl)) w dX6_serial_45 ?_
      refine gt_1_15 C (fun _ h => List.mem_cons_of_mem _ (List.mem_append_right _ h)) (hts _ (List.mem_of_getElem? (i := 2) rfl)) w (v := (mu 1 15)) rfl dX6_serial_48 ?_
      exact retI C w dX6_serial_51
    · rw [if_neg h1_1]
      by_cases h1_2 : x1 = (2 : Int32)
      · rw [if_pos h1_2]
        refine lv_tableIn (off := 51) (tgt := 52) hx hb dX6_serial_1 (by rw [h1_2]; decide) (by rw [h1_2]; decide) (by rw [h1_2]; decide) (by decide) ?_
        refine lv_aload_n hx hb dX6_serial_52 rfl (lv_at hl 0 rfl) ?_
        refine gt_0_0 C (fun _ h => List.mem_cons_of_mem _ (List.mem_append_left _ (List.mem_append_right _ h))) (hts _ (List.mem_of_getElem? (i := 1) rfl)) w dX6_serial_53 ?_
        refine gt_1_3 C (fun _ h => List.mem_cons_of_mem _ (List.mem_append_right _ h)) (hts _ (List.mem_of_getElem? (i := 3) rfl)) w (v := (mu 1 3)) rfl dX6_serial_56 ?_
        exact retI C w dX6_serial_59
      · rw [if_neg h1_2]
        by_cases h1_3 : x1 = (3 : Int32)
        · rw [if_pos h1_3]
          refine lv_tableIn (off := 59) (tgt := 60) hx hb dX6_serial_1 (by rw [h1_3]; decide) (by rw [h1_3]; decide) (by rw [h1_3]; decide) (by decide) ?_
          refine lv_aload_n hx hb dX6_serial_60 rfl (lv_at hl 0 rfl) ?_
          refine gt_0_0 C (fun _ h => List.mem_cons_of_mem _ (List.mem_append_left _ (List.mem_append_right _ h))) (hts _ (List.mem_of_getElem? (i := 1) rfl)) w dX6_serial_61 ?_
          refine gt_1_13 C (fun _ h => List.mem_cons_of_mem _ (List.mem_append_right _ h)) (hts _ (List.mem_of_getElem? (i := 4) rfl)) w (v := (mu 1 13)) rfl dX6_serial_64 ?_
          exact retI C w dX6_serial_67
        · rw [if_neg h1_3]
          by_cases h1_4 : x1 = (4 : Int32)
          · rw [if_pos h1_4]
            refine lv_tableIn (off := 67) (tgt := 68) hx hb dX6_serial_1 (by rw [h1_4]; decide) (by rw [h1_4]; decide) (by rw [h1_4]; decide) (by decide) ?_
            refine lv_aload_n hx hb dX6_serial_68 rfl (lv_at hl 0 rfl) ?_
            refine gt_0_0 C (fun _ h => List.mem_cons_of_mem _ (List.mem_append_left _ (List.mem_append_right _ h))) (hts _ (List.mem_of_getElem? (i := 1) rfl)) w dX6_serial_69 ?_
            refine gt_1_14 C (fun _ h => List.mem_cons_of_mem _ (List.mem_append_right _ h)) (hts _ (List.mem_of_getElem? (i := 5) rfl)) w (v := (mu 1 14)) rfl dX6_serial_72 ?_
            exact retI C w dX6_serial_75
          · rw [if_neg h1_4]
            refine lv_tableOut (tgt := 76) hx hb dX6_serial_1 (by have := lv_neT h1_0 (a := 0) rfl; have := lv_neT h1_1 (a := 1) rfl; have := lv_neT h1_2 (a := 2) rfl; have := lv_neT h1_3 (a := 3) rfl; have := lv_neT h1_4 (a := 4) rfl; omega) (by decide) ?_
            refine lv_iconst (v := (-1 : Int32)) hx hb dX6_serial_76 (by decide) ?_
            exact retI C w dX6_serial_77
set_option maxHeartbeats 4000000 in
set_option maxRecDepth 100000 in
theorem c_Km_serial (l : Launch) (A : Nat → Prop) (D : va_G) (cA : Nat → ClassId) (tb : Nat) (ad : Nat → Nat) (mu nu : Mu) (x1 : Int32) : Met l yX6_serial wsX6_serial ({ frames := 2, cells := 0, slots := 0, locals := 42 }) (va_Pc [.ref (ad 0), .int x1] (Pw A D cA tb ad mu nu)) (va_Qi (fun (r : Int32) (u : Mu × Mu) => r = F_Km_serial x1 mu ∧ u = (mu, nu)) (Bw A D cA ad) A) 0 0 A := by
  refine Met.ofW (cc := cX6_serial) (maxL := 2) (ret := (some .int)) (by decide) rfl ?_
  intro p e s m args below meth c s₁ B hml hv
  obtain ⟨rfl, w0⟩ := hv
  have C : Cx cX6_serial 2 (some .int) wsX6_serial RX6 A D cA tb p s m _ meth c := ⟨B.exec, B.bytes, B.returns, hml, findClass_of_methodNamed B.named, atoms_spec (ws := wsX6_serial) B.pre, B.notSynchronized, w0.2.1, w0.2.2.2.1, w0.2.2.2.2⟩
  have hl := lv_entry ([.ref (ad 0), .int x1]) (n := 2) (Nat.le_of_ble_eq_true rfl)
  rw [lg_entry_eq]
  exact k_Km_serial C w0.wd hl
end
