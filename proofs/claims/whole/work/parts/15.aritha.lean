section
variable {p : Program} {l : Launch} {e : Env} {s : State} {m : MethodId} {args : Array Value} {below : List Frame} {meth : Method} {c : Code} 
variable {A : Nat → Prop} {D : va_G} {cA : Nat → ClassId} {tb : Nat} {ad : Nat → Nat}
def F_Ar_sum_101 (x5 : Int32) (y1 : Int32) (y2 : Int32) (mu : Mu) : Int32 × Mu := (x5, (F_Fl_tell y1 y2 mu))
set_option maxHeartbeats 4000000 in
set_option maxRecDepth 100000 in
theorem k_Ar_sum_101 (C : Cx cX0_sum 6 (some .int) wsX0_sum RX0 A D cA tb p s m args meth c) {mu nu : Mu} {x5 : Int32} {y1 : Int32} {y2 : Int32} {H : Heap} {locs : List Loc} {ls : Array Slot} (w : Wd A D cA ad s mu nu H locs) (hl : lv_has ls 6 [(5, .int x5)]) : W p l e { frames := 2, cells := 0, slots := 0, locals := 43 } s m args below meth c H locs 0 0 (QI A D cA ad below args s (F_Ar_sum_101 x5 y1 y2 mu).1 (F_Ar_sum_101 x5 y1 y2 mu).2 nu) (F0 m 101 ls [.int y2, .int y1, .ref (ad 10)]) := by
  have hx := C.1
  have hb := C.2.1
  have hts := C.2.2.2.2.2.1
  have hown := C.2.2.2.2.1
  unfold F_Ar_sum_101
  refine kcV (k := 10) (ci := 2) (As := [.int y1, .int y2]) (rest := []) C w rfl rfl (c_Fl_tell l A D cA tb ad mu nu y1 y2) (cwV 2 hts gX0_sum_X2_tell rfl rfl rfl (by decide +kernel) ⟨Nat.le_of_ble_eq_true rfl, Nat.le_of_ble_eq_true rfl⟩) rfl rfl hl.1 (Nat.le_of_ble_eq_true rfl) dX0_sum_101 (fun H locs w => ?_)
  refine lv_iload hx hb dX0_sum_104 (lv_at hl 0 rfl) ?_
  exact retI C w dX0_sum_106
def F_Ar_sum_83 (x4 : Int32) (x5 : Int32) (mu : Mu) : Int32 × Mu := (if x4 ≤ (255 : Int32) then F_Ar_sum_101 x5 1 0 mu else F_Ar_sum_101 x5 1 1 mu)
set_option maxHeartbeats 4000000 in
set_option maxRecDepth 100000 in
theorem k_Ar_sum_83 (C : Cx cX0_sum 6 (some .int) wsX0_sum RX0 A D cA tb p s m args meth c) {mu nu : Mu} {x4 : Int32} {x5 : Int32} {H : Heap} {locs : List Loc} {ls : Array Slot} (w : Wd A D cA ad s mu nu H locs) (hl : lv_has ls 6 [(0, .ref (ad 11)), (4, .int x4), (5, .int x5)]) : W p l e { frames := 2, cells := 0, slots := 0, locals := 43 } s m args below meth c H locs 0 0 (QI A D cA ad below args s (F_Ar_sum_83 x4 x5 mu).1 (F_Ar_sum_83 x4 x5 mu).2 nu) (F0 m 83 ls []) := by
  have hx := C.1
  have hb := C.2.1
  have hts := C.2.2.2.2.2.1
  have hown := C.2.2.2.2.1
  unfold F_Ar_sum_83
  refine lv_aload_n hx hb dX0_sum_83 rfl (lv_at hl 0 rfl) ?_
  refine gt_11_0 C (fun _ h => List.mem_cons_of_mem _ (List.mem_append_left _ (List.mem_append_right _ h))) (hts _ (List.mem_of_getElem? (i := 1) rfl)) w dX0_sum_84 ?_
  refine lv_iconst (v := 1) hx hb dX0_sum_87 (by decide) ?_
  refine lv_iload hx hb dX0_sum_88 (lv_at hl 1 rfl) ?_
  refine lv_sipush (v := 255) hx hb dX0_sum_90 (by decide) ?_
  refine lv_icmp_le (tgt := 100) hx hb dX0_sum_93 (by decide) (fun h93 => ?_) (fun h93 => ?_)
  · rw [if_pos h93]
    refine lv_iconst (v := 0) hx hb dX0_sum_100 (by decide) ?_
    exact k_Ar_sum_101 C w (lv_sub hl [2] rfl)
  · rw [if_neg h93]
    refine lv_iconst (v := 1) hx hb dX0_sum_96 (by decide) ?_
    refine lv_goto (tgt := 101) hx hb dX0_sum_97 (by decide) ?_
    exact k_Ar_sum_101 C w (lv_sub hl [2] rfl)
def F_Ar_sum_80 (x4 : Int32) (x5 : Int32) (y1 : Int32) (y2 : Int32) (mu : Mu) : Int32 × Mu := F_Ar_sum_83 x4 x5 (F_Fl_tell y1 y2 mu)
set_option maxHeartbeats 4000000 in
set_option maxRecDepth 100000 in
theorem k_Ar_sum_80 (C : Cx cX0_sum 6 (some .int) wsX0_sum RX0 A D cA tb p s m args meth c) {mu nu : Mu} {x4 : Int32} {x5 : Int32} {y1 : Int32} {y2 : Int32} {H : Heap} {locs : List Loc} {ls : Array Slot} (w : Wd A D cA ad s mu nu H locs) (hl : lv_has ls 6 [(0, .ref (ad 11)), (4, .int x4), (5, .int x5)]) : W p l e { frames := 2, cells := 0, slots := 0, locals := 43 } s m args below meth c H locs 0 0 (QI A D cA ad below args s (F_Ar_sum_80 x4 x5 y1 y2 mu).1 (F_Ar_sum_80 x4 x5 y1 y2 mu).2 nu) (F0 m 80 ls [.int y2, .int y1, .ref (ad 10)]) := by
  have hx := C.1
  have hb := C.2.1
  have hts := C.2.2.2.2.2.1
  have hown := C.2.2.2.2.1
  unfold F_Ar_sum_80
  refine kcV (k := 10) (ci := 2) (As := [.int y1, .int y2]) (rest := []) C w rfl rfl (c_Fl_tell l A D cA tb ad mu nu y1 y2) (cwV 2 hts gX0_sum_X2_tell rfl rfl rfl (by decide +kernel) ⟨Nat.le_of_ble_eq_true rfl, Nat.le_of_ble_eq_true rfl⟩) rfl rfl hl.1 (Nat.le_of_ble_eq_true rfl) dX0_sum_80 (fun H locs w => ?_)
  exact k_Ar_sum_83 C w (lv_sub hl [0, 1, 2] rfl)
def F_Ar_sum_54 (x1 : Int32) (x2 : Int32) (x4 : Int32) (x5 : Int32) (mu : Mu) : Int32 × Mu := (if (((x1 ^^^ x5) &&& (x2 ^^^ x5)) &&& 128) = (0 : Int32) then F_Ar_sum_80 x4 x5 2 0 mu else F_Ar_sum_80 x4 x5 2 1 mu)
set_option maxHeartbeats 4000000 in
set_option maxRecDepth 100000 in
theorem k_Ar_sum_54 (C : Cx cX0_sum 6 (some .int) wsX0_sum RX0 A D cA tb p s m args meth c) {mu nu : Mu} {x1 : Int32} {x2 : Int32} {x4 : Int32} {x5 : Int32} {H : Heap} {locs : List Loc} {ls : Array Slot} (w : Wd A D cA ad s mu nu H locs) (hl : lv_has ls 6 [(0, .ref (ad 11)), (1, .int x1), (2, .int x2), (4, .int x4), (5, .int x5)]) : W p l e { frames := 2, cells := 0, slots := 0, locals := 43 } s m args below meth c H locs 0 0 (QI A D cA ad below args s (F_Ar_sum_54 x1 x2 x4 x5 mu).1 (F_Ar_sum_54 x1 x2 x4 x5 mu).2 nu) (F0 m 54 ls []) := by
  have hx := C.1
  have hb := C.2.1
  have hts := C.2.2.2.2.2.1
  have hown := C.2.2.2.2.1
  unfold F_Ar_sum_54
  refine lv_aload_n hx hb dX0_sum_54 rfl (lv_at hl 0 rfl) ?_
  refine gt_11_0 C (fun _ h => List.mem_cons_of_mem _ (List.mem_append_left _ (List.mem_append_right _ h))) (hts _ (List.mem_of_getElem? (i := 1) rfl)) w dX0_sum_55 ?_
  refine lv_iconst (v := 2) hx hb dX0_sum_58 (by decide) ?_
  refine lv_iload_n hx hb dX0_sum_59 rfl (lv_at hl 1 rfl) ?_
  refine lv_iload hx hb dX0_sum_60 (lv_at hl 4 rfl) ?_
  refine lv_ixor hx hb dX0_sum_62 ?_
  refine lv_iload_n hx hb dX0_sum_63 rfl (lv_at hl 2 rfl) ?_
  refine lv_iload hx hb dX0_sum_64 (lv_at hl 4 rfl) ?_
  refine lv_ixor hx hb dX0_sum_66 ?_
  refine lv_iand hx hb dX0_sum_67 ?_
  refine lv_sipush (v := 128) hx hb dX0_sum_68 (by decide) ?_
  refine lv_iand hx hb dX0_sum_71 ?_
  refine lv_if_eq (tgt := 79) hx hb dX0_sum_72 (by decide) (fun h72 => ?_) (fun h72 => ?_)
  · rw [if_pos h72]
    refine lv_iconst (v := 0) hx hb dX0_sum_79 (by decide) ?_
    exact k_Ar_sum_80 C w (lv_sub hl [0, 3, 4] rfl)
  · rw [if_neg h72]
    refine lv_iconst (v := 1) hx hb dX0_sum_75 (by decide) ?_
    refine lv_goto (tgt := 80) hx hb dX0_sum_76 (by decide) ?_
    exact k_Ar_sum_80 C w (lv_sub hl [0, 3, 4] rfl)
def F_Ar_sum_45 (x1 : Int32) (x2 : Int32) (x4 : Int32) (x5 : Int32) (mu : Mu) : Int32 × Mu := F_Ar_sum_54 x1 x2 x4 x5 (F_Fl_tellSignAndZero x5 mu)
set_option maxHeartbeats 4000000 in
set_option maxRecDepth 100000 in
theorem k_Ar_sum_45 (C : Cx cX0_sum 6 (some .int) wsX0_sum RX0 A D cA tb p s m args meth c) {mu nu : Mu} {x1 : Int32} {x2 : Int32} {x4 : Int32} {x5 : Int32} {H : Heap} {locs : List Loc} {ls : Array Slot} (w : Wd A D cA ad s mu nu H locs) (hl : lv_has ls 6 [(0, .ref (ad 11)), (1, .int x1), (2, .int x2), (4, .int x4), (5, .int x5)]) : W p l e { frames := 2, cells := 0, slots := 0, locals := 43 } s m args below meth c H locs 0 0 (QI A D cA ad below args s (F_Ar_sum_45 x1 x2 x4 x5 mu).1 (F_Ar_sum_45 x1 x2 x4 x5 mu).2 nu) (F0 m 45 ls []) := by
  have hx := C.1
  have hb := C.2.1
  have hts := C.2.2.2.2.2.1
  have hown := C.2.2.2.2.1
  unfold F_Ar_sum_45
  refine lv_aload_n hx hb dX0_sum_45 rfl (lv_at hl 0 rfl) ?_
  refine gt_11_0 C (fun _ h => List.mem_cons_of_mem _ (List.mem_append_left _ (List.mem_append_right _ h))) (hts _ (List.mem_of_getElem? (i := 1) rfl)) w dX0_sum_46 ?_
  refine lv_iload hx hb dX0_sum_49 (lv_at hl 4 rfl) ?_
  refine kcV (k := 10) (ci := 2) (As := [.int x5]) (rest := []) C w rfl rfl (c_Fl_tellSignAndZero l A D cA tb ad mu nu x5) (cwV 1 hts gX0_sum_X2_tellSignAndZero rfl rfl rfl (by decide +kernel) ⟨Nat.le_of_ble_eq_true rfl, Nat.le_of_ble_eq_true rfl⟩) rfl rfl hl.1 (Nat.le_of_ble_eq_true rfl) dX0_sum_51 (fun H locs w => ?_)
  exact k_Ar_sum_54 C w (lv_sub hl [0, 1, 2, 3, 4] rfl)
def F_Ar_sum_42 (x1 : Int32) (x2 : Int32) (x4 : Int32) (x5 : Int32) (y1 : Int32) (y2 : Int32) (mu : Mu) : Int32 × Mu := F_Ar_sum_45 x1 x2 x4 x5 (F_Fl_tell y1 y2 mu)
set_option maxHeartbeats 4000000 in
set_option maxRecDepth 100000 in
theorem k_Ar_sum_42 (C : Cx cX0_sum 6 (some .int) wsX0_sum RX0 A D cA tb p s m args meth c) {mu nu : Mu} {x1 : Int32} {x2 : Int32} {x4 : Int32} {x5 : Int32} {y1 : Int32} {y2 : Int32} {H : Heap} {locs : List Loc} {ls : Array Slot} (w : Wd A D cA ad s mu nu H locs) (hl : lv_has ls 6 [(0, .ref (ad 11)), (1, .int x1), (2, .int x2), (4, .int x4), (5, .int x5)]) : W p l e { frames := 2, cells := 0, slots := 0, locals := 43 } s m args below meth c H locs 0 0 (QI A D cA ad below args s (F_Ar_sum_42 x1 x2 x4 x5 y1 y2 mu).1 (F_Ar_sum_42 x1 x2 x4 x5 y1 y2 mu).2 nu) (F0 m 42 ls [.int y2, .int y1, .ref (ad 10)]) := by
  have hx := C.1
  have hb := C.2.1
  have hts := C.2.2.2.2.2.1
  have hown := C.2.2.2.2.1
  unfold F_Ar_sum_42
  refine kcV (k := 10) (ci := 2) (As := [.int y1, .int y2]) (rest := []) C w rfl rfl (c_Fl_tell l A D cA tb ad mu nu y1 y2) (cwV 2 hts gX0_sum_X2_tell rfl rfl rfl (by decide +kernel) ⟨Nat.le_of_ble_eq_true rfl, Nat.le_of_ble_eq_true rfl⟩) rfl rfl hl.1 (Nat.le_of_ble_eq_true rfl) dX0_sum_42 (fun H locs w => ?_)
  exact k_Ar_sum_45 C w (lv_sub hl [0, 1, 2, 3, 4] rfl)
def F_Ar_sum (x1 : Int32) (x2 : Int32) (x3 : Int32) (mu : Mu) : Int32 × Mu := (if (((x1 &&& 15) + (x2 &&& 15)) + x3) ≤ (15 : Int32) then F_Ar_sum_42 x1 x2 ((x1 + x2) + x3) (((x1 + x2) + x3) &&& 255) 32 0 mu else F_Ar_sum_42 x1 x2 ((x1 + x2) + x3) (((x1 + x2) + x3) &&& 255) 32 1 mu)
set_option maxHeartbeats 4000000 in
set_option maxRecDepth 100000 in
theorem k_Ar_sum (C : Cx cX0_sum 6 (some .int) wsX0_sum RX0 A D cA tb p s m args meth c) {mu nu : Mu} {x1 : Int32} {x2 : Int32} {x3 : Int32} {H : Heap} {locs : List Loc} {ls : Array Slot} (w : Wd A D cA ad s mu nu H locs) (hl : lv_has ls 6 [(0, .ref (ad 11)), (1, .int x1), (2, .int x2), (3, .int x3)]) : W p l e { frames := 2, cells := 0, slots := 0, locals := 43 } s m args below meth c H locs 0 0 (QI A D cA ad below args s (F_Ar_sum x1 x2 x3 mu).1 (F_Ar_sum x1 x2 x3 mu).2 nu) (F0 m 0 ls []) := by
  have hx := C.1
  have hb := C.2.1
  have hts := C.2.2.2.2.2.1
  have hown := C.2.2.2.2.1
  unfold F_Ar_sum
  refine lv_iload_n hx hb dX0_sum_0 rfl (lv_at hl 1 rfl) ?_
  refine lv_iload_n hx hb dX0_sum_1 rfl (lv_at hl 2 rfl) ?_
  refine lv_iadd hx hb dX0_sum_2 ?_
  refine lv_iload_n hx hb dX0_sum_3 rfl (lv_at hl 3 rfl) ?_
  refine lv_iadd hx hb dX0_sum_4 ?_
  refine lv_istore (lv' := [(4, .int (((x1 + x2) + x3))), (0, .ref (ad 11)), (1, .int x1), (2, .int x2), (3, .int x3)]) hx hb dX0_sum_5 hl (by decide) rfl (fun ls hl => ?_)
  refine lv_iload hx hb dX0_sum_7 (lv_at hl 0 rfl) ?_
  refine lv_sipush (v := 255) hx hb dX0_sum_9 (by decide) ?_
  refine lv_iand hx hb dX0_sum_12 ?_
  refine lv_istore (lv' := [(5, .int ((((x1 + x2) + x3) &&& 255))), (4, .int (((x1 + x2) + x3))), (0, .ref (ad 11)), (1, .int x1), (2, .int x2), (3, .int x3)]) hx hb dX0_sum_13 hl (by decide) rfl (fun ls hl => ?_)
  refine lv_aload_n hx hb dX0_sum_15 rfl (lv_at hl 2 rfl) ?_
  refine gt_11_0 C (fun _ h => List.mem_cons_of_mem _ (List.mem_append_left _ (List.mem_append_right _ h))) (hts _ (List.mem_of_getElem? (i := 1) rfl)) w dX0_sum_16 ?_
  refine lv_bipush (v := 32) hx hb dX0_sum_19 (by decide) ?_
  refine lv_iload_n hx hb dX0_sum_21 rfl (lv_at hl 3 rfl) ?_
  refine lv_bipush (v := 15) hx hb dX0_sum_22 (by decide) ?_
  refine lv_iand hx hb dX0_sum_24 ?_
  refine lv_iload_n hx hb dX0_sum_25 rfl (lv_at hl 4 rfl) ?_
  refine lv_bipush (v := 15) hx hb dX0_sum_26 (by decide) ?_
  refine lv_iand hx hb dX0_sum_28 ?_
  refine lv_iadd hx hb dX0_sum_29 ?_
  refine lv_iload_n hx hb dX0_sum_30 rfl (lv_at hl 5 rfl) ?_
  refine lv_iadd hx hb dX0_sum_31 ?_
  refine lv_bipush (v := 15) hx hb dX0_sum_32 (by decide) ?_
  refine lv_icmp_le (tgt := 41) hx hb dX0_sum_34 (by decide) (fun h34 => ?_) (fun h34 => ?_)
  · rw [if_pos h34]
    refine lv_iconst (v := 0) hx hb dX0_sum_41 (by decide) ?_
    exact k_Ar_sum_42 C w (lv_sub hl [2, 3, 4, 1, 0] rfl)
  · rw [if_neg h34]
    refine lv_iconst (v := 1) hx hb dX0_sum_37 (by decide) ?_
    refine lv_goto (tgt := 42) hx hb dX0_sum_38 (by decide) ?_
    exact k_Ar_sum_42 C w (lv_sub hl [2, 3, 4, 1, 0] rfl)
set_option maxHeartbeats 4000000 in
set_option maxRecDepth 100000 in
theorem c_Ar_sum (l : Launch) (A : Nat → Prop) (D : va_G) (cA : Nat → ClassId) (tb : Nat) (ad : Nat → Nat) (mu nu : Mu) (x1 : Int32) (x2 : Int32) (x3 : Int32) : Met l yX0_sum wsX0_sum ({ frames := 2, cells := 0, slots := 0, locals := 43 }) (va_Pc [.ref (ad 11), .int x1, .int x2, .int x3] (Pw A D cA tb ad mu nu)) (va_Qi (fun (r : Int32) (u : Mu × Mu) => r = (F_Ar_sum x1 x2 x3 mu).1 ∧ u = ((F_Ar_sum x1 x2 x3 mu).2, nu)) (Bw A D cA ad) A) 0 0 A := by
  refine Met.ofW (cc := cX0_sum) (maxL := 6) (ret := (some .int)) (by decide) rfl ?_
  intro p e s m args below meth c s₁ B hml hv
  obtain ⟨rfl, w0⟩ := hv
  have C : Cx cX0_sum 6 (some .int) wsX0_sum RX0 A D cA tb p s m _ meth c := ⟨B.exec, B.bytes, B.returns, hml, findClass_of_methodNamed B.named, atoms_spec (ws := wsX0_sum) B.pre, B.notSynchronized, w0.2.1, w0.2.2.2.1, w0.2.2.2.2⟩
  have hl := lv_entry ([.ref (ad 11), .int x1, .int x2, .int x3]) (n := 6) (Nat.le_of_ble_eq_true rfl)
  rw [lg_entry_eq]
  exact k_Ar_sum C w0.wd hl
def F_Ar_told_8 (x1 : Int32) (mu : Mu) : Int32 × Mu := (x1, (F_Fl_tell 2 0 mu))
set_option maxHeartbeats 4000000 in
set_option maxRecDepth 100000 in
theorem k_Ar_told_8 (C : Cx cX0_told 2 (some .int) wsX0_told RX0 A D cA tb p s m args meth c) {mu nu : Mu} {x1 : Int32} {H : Heap} {locs : List Loc} {ls : Array Slot} (w : Wd A D cA ad s mu nu H locs) (hl : lv_has ls 2 [(0, .ref (ad 11)), (1, .int x1)]) : W p l e { frames := 2, cells := 0, slots := 0, locals := 43 } s m args below meth c H locs 0 0 (QI A D cA ad below args s (F_Ar_told_8 x1 mu).1 (F_Ar_told_8 x1 mu).2 nu) (F0 m 8 ls []) := by
  have hx := C.1
  have hb := C.2.1
  have hts := C.2.2.2.2.2.1
  have hown := C.2.2.2.2.1
  unfold F_Ar_told_8
  refine lv_aload_n hx hb dX0_told_8 rfl (lv_at hl 0 rfl) ?_
  refine gt_11_0 C (fun _ h => List.mem_cons_of_mem _ (List.mem_append_left _ (List.mem_append_right _ h))) (hts _ (List.mem_of_getElem? (i := 1) rfl)) w dX0_told_9 ?_
  refine lv_iconst (v := 2) hx hb dX0_told_12 (by decide) ?_
  refine lv_iconst (v := 0) hx hb dX0_told_13 (by decide) ?_
  refine kcV (k := 10) (ci := 2) (As := [.int 2, .int 0]) (rest := []) C w rfl rfl (c_Fl_tell l A D cA tb ad mu nu 2 0) (cwV 2 hts gX0_told_X2_tell rfl rfl rfl (by decide +kernel) ⟨Nat.le_of_ble_eq_true rfl, Nat.le_of_ble_eq_true rfl⟩) rfl rfl hl.1 (Nat.le_of_ble_eq_true rfl) dX0_told_14 (fun H locs w => ?_)
  refine lv_iload_n hx hb dX0_told_17 rfl (lv_at hl 1 rfl) ?_
  exact retI C w dX0_told_18
def F_Ar_told (x1 : Int32) (mu : Mu) : Int32 × Mu := F_Ar_told_8 x1 (F_Fl_tellSignAndZero x1 mu)
set_option maxHeartbeats 4000000 in
set_option maxRecDepth 100000 in
theorem k_Ar_told (C : Cx cX0_told 2 (some .int) wsX0_told RX0 A D cA tb p s m args meth c) {mu nu : Mu} {x1 : Int32} {H : Heap} {locs : List Loc} {ls : Array Slot} (w : Wd A D cA ad s mu nu H locs) (hl : lv_has ls 2 [(0, .ref (ad 11)), (1, .int x1)]) : W p l e { frames := 2, cells := 0, slots := 0, locals := 43 } s m args below meth c H locs 0 0 (QI A D cA ad below args s (F_Ar_told x1 mu).1 (F_Ar_told x1 mu).2 nu) (F0 m 0 ls []) := by
  have hx := C.1
  have hb := C.2.1
  have hts := C.2.2.2.2.2.1
  have hown := C.2.2.2.2.1
  unfold F_Ar_told
  refine lv_aload_n hx hb dX0_told_0 rfl (lv_at hl 0 rfl) ?_
  refine gt_11_0 C (fun _ h => List.mem_cons_of_mem _ (List.mem_append_left _ (List.mem_append_right _ h))) (hts _ (List.mem_of_getElem? (i := 1) rfl)) w dX0_told_1 ?_
  refine lv_iload_n hx hb dX0_told_4 rfl (lv_at hl 1 rfl) ?_
  refine kcV (k := 10) (ci := 2) (As := [.int x1]) (rest := []) C w rfl rfl (c_Fl_tellSignAndZero l A D cA tb ad mu nu x1) (cwV 1 hts gX0_told_X2_tellSignAndZero rfl rfl rfl (by decide +kernel) ⟨Nat.le_of_ble_eq_true rfl, Nat.le_of_ble_eq_true rfl⟩) rfl rfl hl.1 (Nat.le_of_ble_eq_true rfl) dX0_told_5 (fun H locs w => ?_)
  exact k_Ar_told_8 C w (lv_sub hl [0, 1] rfl)
set_option maxHeartbeats 4000000 in
set_option maxRecDepth 100000 in
theorem c_Ar_told (l : Launch) (A : Nat → Prop) (D : va_G) (cA : Nat → ClassId) (tb : Nat) (ad : Nat → Nat) (mu nu : Mu) (x1 : Int32) : Met l yX0_told wsX0_told ({ frames := 2, cells := 0, slots := 0, locals := 43 }) (va_Pc [.ref (ad 11), .int x1] (Pw A D cA tb ad mu nu)) (va_Qi (fun (r : Int32) (u : Mu × Mu) => r = (F_Ar_told x1 mu).1 ∧ u = ((F_Ar_told x1 mu).2, nu)) (Bw A D cA ad) A) 0 0 A := by
  refine Met.ofW (cc := cX0_told) (maxL := 2) (ret := (some .int)) (by decide) rfl ?_
  intro p e s m args below meth c s₁ B hml hv
  obtain ⟨rfl, w0⟩ := hv
  have C : Cx cX0_told 2 (some .int) wsX0_told RX0 A D cA tb p s m _ meth c := ⟨B.exec, B.bytes, B.returns, hml, findClass_of_methodNamed B.named, atoms_spec (ws := wsX0_told) B.pre, B.notSynchronized, w0.2.1, w0.2.2.2.1, w0.2.2.2.2⟩
  have hl := lv_entry ([.ref (ad 11), .int x1]) (n := 2) (Nat.le_of_ble_eq_true rfl)
  rw [lg_entry_eq]
  exact k_Ar_told C w0.wd hl
def F_Ar_carry (mu : Mu) : Int32 := ((mu 10 0) &&& 1)
set_option maxHeartbeats 4000000 in
set_option maxRecDepth 100000 in
theorem k_Ar_carry (C : Cx cX0_carry 1 (some .int) wsX0_carry RX0 A D cA tb p s m args meth c) {mu nu : Mu} {H : Heap} {locs : List Loc} {ls : Array Slot} (w : Wd A D cA ad s mu nu H locs) (hl : lv_has ls 1 [(0, .ref (ad 11))]) : W p l e { frames := 0, cells := 0, slots := 0, locals := 0 } s m args below meth c H locs 0 0 (QI A D cA ad below args s (F_Ar_carry mu) mu nu) (F0 m 0 ls []) := by
  have hx := C.1
  have hb := C.2.1
  have hts := C.2.2.2.2.2.1
  have hown := C.2.2.2.2.1
  unfold F_Ar_carry
  refine lv_aload_n hx hb dX0_carry_0 rfl (lv_at hl 0 rfl) ?_
  refine gt_11_0 C (fun _ h => List.mem_cons_of_mem _ (List.mem_append_left _ (List.mem_append_right _ h))) (hts _ (List.mem_of_getElem? (i := 1) rfl)) w dX0_carry_1 ?_
  refine gt_10_0 C (fun _ h => List.mem_cons_of_mem _ (List.mem_append_right _ h)) (hts _ (List.mem_of_getElem? (i := 2) rfl)) w (v := (mu 10 0)) rfl dX0_carry_4 ?_
  refine lv_iconst (v := 1) hx hb dX0_carry_7 (by decide) ?_
  refine lv_iand hx hb dX0_carry_8 ?_
  exact retI C w dX0_carry_9
set_option maxHeartbeats 4000000 in
set_option maxRecDepth 100000 in
theorem c_Ar_carry (l : Launch) (A : Nat → Prop) (D : va_G) (cA : Nat → ClassId) (tb : Nat) (ad : Nat → Nat) (mu nu : Mu) : Met l yX0_carry wsX0_carry ({ frames := 0, cells := 0, slots := 0, locals := 0 }) (va_Pc [.ref (ad 11)] (Pw A D cA tb ad mu nu)) (va_Qi (fun (r : Int32) (u : Mu × Mu) => r = F_Ar_carry mu ∧ u = (mu, nu)) (Bw A D cA ad) A) 0 0 A := by
  refine Met.ofW (cc := cX0_carry) (maxL := 1) (ret := (some .int)) (by decide) rfl ?_
  intro p e s m args below meth c s₁ B hml hv
  obtain ⟨rfl, w0⟩ := hv
  have C : Cx cX0_carry 1 (some .int) wsX0_carry RX0 A D cA tb p s m _ meth c := ⟨B.exec, B.bytes, B.returns, hml, findClass_of_methodNamed B.named, atoms_spec (ws := wsX0_carry) B.pre, B.notSynchronized, w0.2.1, w0.2.2.2.1, w0.2.2.2.2⟩
  have hl := lv_entry ([.ref (ad 11)]) (n := 1) (Nat.le_of_ble_eq_true rfl)
  rw [lg_entry_eq]
  exact k_Ar_carry C w0.wd hl
def F_Ar_difference_67 (x5 : Int32) (y1 : Int32) (y2 : Int32) (mu : Mu) : Int32 × Mu := (x5, (F_Fl_tell y1 y2 mu))
set_option maxHeartbeats 4000000 in
set_option maxRecDepth 100000 in
theorem k_Ar_difference_67 (C : Cx cX0_difference 6 (some .int) wsX0_difference RX0 A D cA tb p s m args meth c) {mu nu : Mu} {x5 : Int32} {y1 : Int32} {y2 : Int32} {H : Heap} {locs : List Loc} {ls : Array Slot} (w : Wd A D cA ad s mu nu H locs) (hl : lv_has ls 6 [(5, .int x5)]) : W p l e { frames := 2, cells := 0, slots := 0, locals := 43 } s m args below meth c H locs 0 0 (QI A D cA ad below args s (F_Ar_difference_67 x5 y1 y2 mu).1 (F_Ar_difference_67 x5 y1 y2 mu).2 nu) (F0 m 67 ls [.int y2, .int y1, .ref (ad 10)]) := by
  have hx := C.1
  have hb := C.2.1
  have hts := C.2.2.2.2.2.1
  have hown := C.2.2.2.2.1
  unfold F_Ar_difference_67
  refine kcV (k := 10) (ci := 2) (As := [.int y1, .int y2]) (rest := []) C w rfl rfl (c_Fl_tell l A D cA tb ad mu nu y1 y2) (cwV 2 hts gX0_difference_X2_tell rfl rfl rfl (by decide +kernel) ⟨Nat.le_of_ble_eq_true rfl, Nat.le_of_ble_eq_true rfl⟩) rfl rfl hl.1 (Nat.le_of_ble_eq_true rfl) dX0_difference_67 (fun H locs w => ?_)
  refine lv_iload hx hb dX0_difference_70 (lv_at hl 0 rfl) ?_
  exact retI C w dX0_difference_72
def F_Ar_difference_52 (x4 : Int32) (x5 : Int32) (mu : Mu) : Int32 × Mu := (if (0 : Int32) ≤ x4 then F_Ar_difference_67 x5 1 0 mu else F_Ar_difference_67 x5 1 1 mu)
set_option maxHeartbeats 4000000 in
set_option maxRecDepth 100000 in
theorem k_Ar_difference_52 (C : Cx cX0_difference 6 (some .int) wsX0_difference RX0 A D cA tb p s m args meth c) {mu nu : Mu} {x4 : Int32} {x5 : Int32} {H : Heap} {locs : List Loc} {ls : Array Slot} (w : Wd A D cA ad s mu nu H locs) (hl : lv_has ls 6 [(0, .ref (ad 11)), (4, .int x4), (5, .int x5)]) : W p l e { frames := 2, cells := 0, slots := 0, locals := 43 } s m args below meth c H locs 0 0 (QI A D cA ad below args s (F_Ar_difference_52 x4 x5 mu).1 (F_Ar_difference_52 x4 x5 mu).2 nu) (F0 m 52 ls []) := by
  have hx := C.1
  have hb := C.2.1
  have hts := C.2.2.2.2.2.1
  have hown := C.2.2.2.2.1
  unfold F_Ar_difference_52
  refine lv_aload_n hx hb dX0_difference_52 rfl (lv_at hl 0 rfl) ?_
  refine gt_11_0 C (fun _ h => List.mem_cons_of_mem _ (List.mem_append_left _ (List.mem_append_right _ h))) (hts _ (List.mem_of_getElem? (i := 1) rfl)) w dX0_difference_53 ?_
  refine lv_iconst (v := 1) hx hb dX0_difference_56 (by decide) ?_
  refine lv_iload hx hb dX0_difference_57 (lv_at hl 1 rfl) ?_
  refine lv_if_ge (tgt := 66) hx hb dX0_difference_59 (by decide) (fun h59 => ?_) (fun h59 => ?_)
  · rw [if_pos h59]
    refine lv_iconst (v := 0) hx hb dX0_difference_66 (by decide) ?_
    exact k_Ar_difference_67 C w (lv_sub hl [2] rfl)
  · rw [if_neg h59]
    refine lv_iconst (v := 1) hx hb dX0_difference_62 (by decide) ?_
    refine lv_goto (tgt := 67) hx hb dX0_difference_63 (by decide) ?_
    exact k_Ar_difference_67 C w (lv_sub hl [2] rfl)
def F_Ar_difference_49 (x4 : Int32) (x5 : Int32) (y1 : Int32) (y2 : Int32) (mu : Mu) : Int32 × Mu := F_Ar_difference_52 x4 x5 (F_Fl_tell y1 y2 mu)
set_option maxHeartbeats 4000000 in
set_option maxRecDepth 100000 in
theorem k_Ar_difference_49 (C : Cx cX0_difference 6 (some .int) wsX0_difference RX0 A D cA tb p s m args meth c) {mu nu : Mu} {x4 : Int32} {x5 : Int32} {y1 : Int32} {y2 : Int32} {H : Heap} {locs : List Loc} {ls : Array Slot} (w : Wd A D cA ad s mu nu H locs) (hl : lv_has ls 6 [(0, .ref (ad 11)), (4, .int x4), (5, .int x5)]) : W p l e { frames := 2, cells := 0, slots := 0, locals := 43 } s m args below meth c H locs 0 0 (QI A D cA ad below args s (F_Ar_difference_49 x4 x5 y1 y2 mu).1 (F_Ar_difference_49 x4 x5 y1 y2 mu).2 nu) (F0 m 49 ls [.int y2, .int y1, .ref (ad 10)]) := by
  have hx := C.1
  have hb := C.2.1
  have hts := C.2.2.2.2.2.1
  have hown := C.2.2.2.2.1
  unfold F_Ar_difference_49
  refine kcV (k := 10) (ci := 2) (As := [.int y1, .int y2]) (rest := []) C w rfl rfl (c_Fl_tell l A D cA tb ad mu nu y1 y2) (cwV 2 hts gX0_difference_X2_tell rfl rfl rfl (by decide +kernel) ⟨Nat.le_of_ble_eq_true rfl, Nat.le_of_ble_eq_true rfl⟩) rfl rfl hl.1 (Nat.le_of_ble_eq_true rfl) dX0_difference_49 (fun H locs w => ?_)
  exact k_Ar_difference_52 C w (lv_sub hl [0, 1, 2] rfl)
def F_Ar_difference_24 (x1 : Int32) (x2 : Int32) (x4 : Int32) (x5 : Int32) (mu : Mu) : Int32 × Mu := (if (((x1 ^^^ x2) &&& (x1 ^^^ x5)) &&& 128) = (0 : Int32) then F_Ar_difference_49 x4 x5 2 0 mu else F_Ar_difference_49 x4 x5 2 1 mu)
set_option maxHeartbeats 4000000 in
set_option maxRecDepth 100000 in
theorem k_Ar_difference_24 (C : Cx cX0_difference 6 (some .int) wsX0_difference RX0 A D cA tb p s m args meth c) {mu nu : Mu} {x1 : Int32} {x2 : Int32} {x4 : Int32} {x5 : Int32} {H : Heap} {locs : List Loc} {ls : Array Slot} (w : Wd A D cA ad s mu nu H locs) (hl : lv_has ls 6 [(0, .ref (ad 11)), (1, .int x1), (2, .int x2), (4, .int x4), (5, .int x5)]) : W p l e { frames := 2, cells := 0, slots := 0, locals := 43 } s m args below meth c H locs 0 0 (QI A D cA ad below args s (F_Ar_difference_24 x1 x2 x4 x5 mu).1 (F_Ar_difference_24 x1 x2 x4 x5 mu).2 nu) (F0 m 24 ls []) := by
  have hx := C.1
  have hb := C.2.1
  have hts := C.2.2.2.2.2.1
  have hown := C.2.2.2.2.1
  unfold F_Ar_difference_24
  refine lv_aload_n hx hb dX0_difference_24 rfl (lv_at hl 0 rfl) ?_
  refine gt_11_0 C (fun _ h => List.mem_cons_of_mem _ (List.mem_append_left _ (List.mem_append_right _ h))) (hts _ (List.mem_of_getElem? (i := 1) rfl)) w dX0_difference_25 ?_
  refine lv_iconst (v := 2) hx hb dX0_difference_28 (by decide) ?_
  refine lv_iload_n hx hb dX0_difference_29 rfl (lv_at hl 1 rfl) ?_
  refine lv_iload_n hx hb dX0_difference_30 rfl (lv_at hl 2 rfl) ?_
  refine lv_ixor hx hb dX0_difference_31 ?_
  refine lv_iload_n hx hb dX0_difference_32 rfl (lv_at hl 1 rfl) ?_
  refine lv_iload hx hb dX0_difference_33 (lv_at hl 4 rfl) ?_
  refine lv_ixor hx hb dX0_difference_35 ?_
  refine lv_iand hx hb dX0_difference_36 ?_
  refine lv_sipush (v := 128) hx hb dX0_difference_37 (by decide) ?_
  refine lv_iand hx hb dX0_difference_40 ?_
  refine lv_if_eq (tgt := 48) hx hb dX0_difference_41 (by decide) (fun h41 => ?_) (fun h41 => ?_)
  · rw [if_pos h41]
    refine lv_iconst (v := 0) hx hb dX0_difference_48 (by decide) ?_
    exact k_Ar_difference_49 C w (lv_sub hl [0, 3, 4] rfl)
  · rw [if_neg h41]
    refine lv_iconst (v := 1) hx hb dX0_difference_44 (by decide) ?_
    refine lv_goto (tgt := 49) hx hb dX0_difference_45 (by decide) ?_
    exact k_Ar_difference_49 C w (lv_sub hl [0, 3, 4] rfl)
def F_Ar_difference (x1 : Int32) (x2 : Int32) (x3 : Int32) (mu : Mu) : Int32 × Mu := F_Ar_difference_24 x1 x2 ((x1 - x2) - x3) (((x1 - x2) - x3) &&& 255) (F_Fl_tellSignAndZero (((x1 - x2) - x3) &&& 255) mu)
set_option maxHeartbeats 4000000 in
set_option maxRecDepth 100000 in
theorem k_Ar_difference (C : Cx cX0_difference 6 (some .int) wsX0_difference RX0 A D cA tb p s m args meth c) {mu nu : Mu} {x1 : Int32} {x2 : Int32} {x3 : Int32} {H : Heap} {locs : List Loc} {ls : Array Slot} (w : Wd A D cA ad s mu nu H locs) (hl : lv_has ls 6 [(0, .ref (ad 11)), (1, .int x1), (2, .int x2), (3, .int x3)]) : W p l e { frames := 2, cells := 0, slots := 0, locals := 43 } s m args below meth c H locs 0 0 (QI A D cA ad below args s (F_Ar_difference x1 x2 x3 mu).1 (F_Ar_difference x1 x2 x3 mu).2 nu) (F0 m 0 ls []) := by
  have hx := C.1
  have hb := C.2.1
  have hts := C.2.2.2.2.2.1
  have hown := C.2.2.2.2.1
  unfold F_Ar_difference
  refine lv_iload_n hx hb dX0_difference_0 rfl (lv_at hl 1 rfl) ?_
  refine lv_iload_n hx hb dX0_difference_1 rfl (lv_at hl 2 rfl) ?_
  refine lv_isub hx hb dX0_difference_2 ?_
  refine lv_iload_n hx hb dX0_difference_3 rfl (lv_at hl 3 rfl) ?_
  refine lv_isub hx hb dX0_difference_4 ?_
  refine lv_istore (lv' := [(4, .int (((x1 - x2) - x3))), (0, .ref (ad 11)), (1, .int x1), (2, .int x2), (3, .int x3)]) hx hb dX0_difference_5 hl (by decide) rfl (fun ls hl => ?_)
  refine lv_iload hx hb dX0_difference_7 (lv_at hl 0 rfl) ?_
  refine lv_sipush (v := 255) hx hb dX0_difference_9 (by decide) ?_
  refine lv_iand hx hb dX0_difference_12 ?_
  refine lv_istore (lv' := [(5, .int ((((x1 - x2) - x3) &&& 255))), (4, .int (((x1 - x2) - x3))), (0, .ref (ad 11)), (1, .int x1), (2, .int x2), (3, .int x3)]) hx hb dX0_difference_13 hl (by decide) rfl (fun ls hl => ?_)
  refine lv_aload_n hx hb dX0_difference_15 rfl (lv_at hl 2 rfl) ?_
  refine gt_11_0 C (fun _ h => List.mem_cons_of_mem _ (List.mem_append_left _ (List.mem_append_right _ h))) (hts _ (List.mem_of_getElem? (i := 1) rfl)) w dX0_difference_16 ?_
  refine lv_iload hx hb dX0_difference_19 (lv_at hl 0 rfl) ?_
  refine kcV (k := 10) (ci := 2) (As := [.int ((((x1 - x2) - x3) &&& 255))]) (rest := []) C w rfl rfl (c_Fl_tellSignAndZero l A D cA tb ad mu nu (((x1 - x2) - x3) &&& 255)) (cwV 1 hts gX0_difference_X2_tellSignAndZero rfl rfl rfl (by decide +kernel) ⟨Nat.le_of_ble_eq_true rfl, Nat.le_of_ble_eq_true rfl⟩) rfl rfl hl.1 (Nat.le_of_ble_eq_true rfl) dX0_difference_21 (fun H locs w => ?_)
  exact k_Ar_difference_24 C w (lv_sub hl [2, 3, 4, 1, 0] rfl)
set_option maxHeartbeats 4000000 in
set_option maxRecDepth 100000 in
theorem c_Ar_difference (l : Launch) (A : Nat → Prop) (D : va_G) (cA : Nat → ClassId) (tb : Nat) (ad : Nat → Nat) (mu nu : Mu) (x1 : Int32) (x2 : Int32) (x3 : Int32) : Met l yX0_difference wsX0_difference ({ frames := 2, cells := 0, slots := 0, locals := 43 }) (va_Pc [.ref (ad 11), .int x1, .int x2, .int x3] (Pw A D cA tb ad mu nu)) (va_Qi (fun (r : Int32) (u : Mu × Mu) => r = (F_Ar_difference x1 x2 x3 mu).1 ∧ u = ((F_Ar_difference x1 x2 x3 mu).2, nu)) (Bw A D cA ad) A) 0 0 A := by
  refine Met.ofW (cc := cX0_difference) (maxL := 6) (ret := (some .int)) (by decide) rfl ?_
  intro p e s m args below meth c s₁ B hml hv
  obtain ⟨rfl, w0⟩ := hv
  have C : Cx cX0_difference 6 (some .int) wsX0_difference RX0 A D cA tb p s m _ meth c := ⟨B.exec, B.bytes, B.returns, hml, findClass_of_methodNamed B.named, atoms_spec (ws := wsX0_difference) B.pre, B.notSynchronized, w0.2.1, w0.2.2.2.1, w0.2.2.2.2⟩
  have hl := lv_entry ([.ref (ad 11), .int x1, .int x2, .int x3]) (n := 6) (Nat.le_of_ble_eq_true rfl)
  rw [lg_entry_eq]
  exact k_Ar_difference C w0.wd hl
def F_Ar_combined (x1 : Int32) (x2 : Int32) (x3 : Int32) (mu : Mu) : Int32 × Mu := (if x1 = 0 then ((F_Ar_difference x2 x3 0 mu).1, (F_Ar_difference x2 x3 0 mu).2) else (if x1 = 1 then (x2, (F_Ar_difference x2 x3 0 mu).2) else (if x1 = 2 then ((F_Ar_difference x2 x3 (F_Ar_carry mu) mu).1, (F_Ar_difference x2 x3 (F_Ar_carry mu) mu).2) else (if x1 = 3 then (x2, mu) else (if x1 = 4 then ((F_Ar_told (x2 &&& x3) mu).1, (F_Ar_told (x2 &&& x3) mu).2) else (if x1 = 5 then (x2, (F_Ar_told (x2 &&& x3) mu).2) else (if x1 = 6 then ((F_Ar_told x3 mu).1, (F_Ar_told x3 mu).2) else (if x1 = 7 then (x2, mu) else (if x1 = 8 then ((F_Ar_told (x2 ^^^ x3) mu).1, (F_Ar_told (x2 ^^^ x3) mu).2) else (if x1 = 9 then ((F_Ar_sum x2 x3 (F_Ar_carry mu) mu).1, (F_Ar_sum x2 x3 (F_Ar_carry mu) mu).2) else (if x1 = 10 then ((F_Ar_told (x2 ||| x3) mu).1, (F_Ar_told (x2 ||| x3) mu).2) else (if x1 = 11 then ((F_Ar_sum x2 x3 0 mu).1, (F_Ar_sum x2 x3 0 mu).2) else (x2, mu)))))))))))))
set_option maxHeartbeats 4000000 in
set_option maxRecDepth 100000 in
theorem k_Ar_combined (C : Cx cX0_combined 4 (some .int) wsX0_combined RX0 A D cA tb p s m args meth c) {mu nu : Mu} {x1 : Int32} {x2 : Int32} {x3 : Int32} {H : Heap} {locs : List Loc} {ls : Array Slot} (w : Wd A D cA ad s mu nu H locs) (hl : lv_has ls 4 [(0, .ref (ad 11)), (1, .int x1), (2, .int x2), (3, .int x3)]) : W p l e { frames := 3, cells := 0, slots := 0, locals := 68 } s m args below meth c H locs 0 0 (QI A D cA ad below args s (F_Ar_combined x1 x2 x3 mu).1 (F_Ar_combined x1 x2 x3 mu).2 nu) (F0 m 0 ls []) := by
  have hx := C.1
  have hb := C.2.1
  have hts := C.2.2.2.2.2.1
  have hown := C.2.2.2.2.1
  unfold F_Ar_combined
  refine lv_iload_n hx hb dX0_combined_0 rfl (lv_at hl 1 rfl) ?_
  by_cases h1_0 : x1 = (0 : Int32)
  · rw [if_pos h1_0]
    refine lv_tableIn (off := 63) (tgt := 64) hx hb dX0_combined_1 (by rw [h1_0]; decide) (by rw [h1_0]; decide) (by rw [h1_0]; decide) (by decide) ?_
    refine lv_aload_n hx hb dX0_combined_64 rfl (lv_at hl 0 rfl) ?_
    refine lv_iload_n hx hb dX0_combined_65 rfl (lv_at hl 2 rfl) ?_
    refine lv_iload_n hx hb dX0_combined_66 rfl (lv_at hl 3 rfl) ?_
    refine lv_iconst (v := 0) hx hb dX0_combined_67 (by decide) ?_
    refine kcI (k := 11) (ci := 0) (As := [.int x2, .int x3, .int 0]) (rest := []) C w rfl rfl (c_Ar_difference l A D cA tb ad mu nu x2 x3 0) (cwV 3 hts gX0_combined_X0_difference rfl rfl rfl (by decide +kernel) ⟨Nat.le_of_ble_eq_true rfl, Nat.le_of_ble_eq_true rfl⟩) rfl rfl hl.1 (Nat.le_of_ble_eq_true rfl) dX0_combined_68 (fun H locs w => ?_)
    exact retI C w dX0_combined_71
  · rw [if_neg h1_0]
    by_cases h1_1 : x1 = (1 : Int32)
    · rw [if_pos h1_1]
      refine lv_tableIn (off := 71) (tgt := 72) hx hb dX0_combined_1 (by rw [h1_1]; decide) (by rw [h1_1]; decide) (by rw [h1_1]; decide) (by decide) ?_
      refine lv_aload_n hx hb dX0_combined_72 rfl (lv_at hl 0 rfl) ?_
      refine lv_iload_n hx hb dX0_combined_73 rfl (lv_at hl 2 rfl) ?_
      refine lv_iload_n hx hb dX0_combined_74 rfl (lv_at hl 3 rfl) ?_
      refine lv_iconst (v := 0) hx hb dX0_combined_75 (by decide) ?_
      refine kcI (k := 11) (ci := 0) (As := [.int x2, .int x3, .int 0]) (rest := []) C w rfl rfl (c_Ar_difference l A D cA tb ad mu nu x2 x3 0) (cwV 3 hts gX0_combined_X0_difference rfl rfl rfl (by decide +kernel) ⟨Nat.le_of_ble_eq_true rfl, Nat.le_of_ble_eq_true rfl⟩) rfl rfl hl.1 (Nat.le_of_ble_eq_true rfl) dX0_combined_76 (fun H locs w => ?_)
      refine lv_pop hx hb dX0_combined_79 rfl ?_
      refine lv_iload_n hx hb dX0_combined_80 rfl (lv_at hl 2 rfl) ?_
      exact retI C w dX0_combined_81
    · rw [if_neg h1_1]
      by_cases h1_2 : x1 = (2 : Int32)
      · rw [if_pos h1_2]
        refine lv_tableIn (off := 81) (tgt := 82) hx hb dX0_combined_1 (by rw [h1_2]; decide) (by rw [h1_2]; decide) (by rw [h1_2]; decide) (by decide) ?_
        refine lv_aload_n hx hb dX0_combined_82 rfl (lv_at hl 0 rfl) ?_
        refine lv_iload_n hx hb dX0_combined_83 rfl (lv_at hl 2 rfl) ?_
        refine lv_iload_n hx hb dX0_combined_84 rfl (lv_at hl 3 rfl) ?_
        refine lv_aload_n hx hb dX0_combined_85 rfl (lv_at hl 0 rfl) ?_
        refine kcI (k := 11) (ci := 0) (As := []) (rest := [.int x3, .int x2, .ref (ad 11)]) C w rfl rfl (c_Ar_carry l A D cA tb ad mu nu) (cwV 0 hts gX0_combined_X0_carry rfl rfl rfl (by decide +kernel) ⟨Nat.le_of_ble_eq_true rfl, Nat.le_of_ble_eq_true rfl⟩) rfl rfl hl.1 (Nat.le_of_ble_eq_true rfl) dX0_combined_86 (fun H locs w => ?_)
        refine kcI (k := 11) (ci := 0) (As := [.int x2, .int x3, .int ((F_Ar_carry mu))]) (rest := []) C w rfl rfl (c_Ar_difference l A D cA tb ad mu nu x2 x3 (F_Ar_carry mu)) (cwV 3 hts gX0_combined_X0_difference rfl rfl rfl (by decide +kernel) ⟨Nat.le_of_ble_eq_true rfl, Nat.le_of_ble_eq_true rfl⟩) rfl rfl hl.1 (Nat.le_of_ble_eq_true rfl) dX0_combined_89 (fun H locs w => ?_)
        exact retI C w dX0_combined_92
      · rw [if_neg h1_2]
        by_cases h1_3 : x1 = (3 : Int32)
        · rw [if_pos h1_3]
          refine lv_tableIn (off := 151) (tgt := 152) hx hb dX0_combined_1 (by rw [h1_3]; decide) (by rw [h1_3]; decide) (by rw [h1_3]; decide) (by decide) ?_
          refine lv_iload_n hx hb dX0_combined_152 rfl (lv_at hl 2 rfl) ?_
          exact retI C w dX0_combined_153
        · rw [if_neg h1_3]
          by_cases h1_4 : x1 = (4 : Int32)
          · rw [if_pos h1_4]
            refine lv_tableIn (off := 92) (tgt := 93) hx hb dX0_combined_1 (by rw [h1_4]; decide) (by rw [h1_4]; decide) (by rw [h1_4]; decide) (by decide) ?_
            refine lv_aload_n hx hb dX0_combined_93 rfl (lv_at hl 0 rfl) ?_
            refine lv_iload_n hx hb dX0_combined_94 rfl (lv_at hl 2 rfl) ?_
            refine lv_iload_n hx hb dX0_combined_95 rfl (lv_at hl 3 rfl) ?_
            refine lv_iand hx hb dX0_combined_96 ?_
            refine kcI (k := 11) (ci := 0) (As := [.int ((x2 &&& x3))]) (rest := []) C w rfl rfl (c_Ar_told l A D cA tb ad mu nu (x2 &&& x3)) (cwV 1 hts gX0_combined_X0_told rfl rfl rfl (by decide +kernel) ⟨Nat.le_of_ble_eq_true rfl, Nat.le_of_ble_eq_true rfl⟩) rfl rfl hl.1 (Nat.le_of_ble_eq_true rfl) dX0_combined_97 (fun H locs w => ?_)
            exact retI C w dX0_combined_100
          · rw [if_neg h1_4]
            by_cases h1_5 : x1 = (5 : Int32)
            · rw [if_pos h1_5]
              refine lv_tableIn (off := 100) (tgt := 101) hx hb dX0_combined_1 (by rw [h1_5]; decide) (by rw [h1_5]; decide) (by rw [h1_5]; decide) (by decide) ?_
              refine lv_aload_n hx hb dX0_combined_101 rfl (lv_at hl 0 rfl) ?_
              refine lv_iload_n hx hb dX0_combined_102 rfl (lv_at hl 2 rfl) ?_
              refine lv_iload_n hx hb dX0_combined_103 rfl (lv_at hl 3 rfl) ?_
              refine lv_iand hx hb dX0_combined_104 ?_
              refine kcI (k := 11) (ci := 0) (As := [.int ((x2 &&& x3))]) (rest := []) C w rfl rfl (c_Ar_told l A D cA tb ad mu nu (x2 &&& x3)) (cwV 1 hts gX0_combined_X0_told rfl rfl rfl (by decide +kernel) ⟨Nat.le_of_ble_eq_true rfl, Nat.le_of_ble_eq_true rfl⟩) rfl rfl hl.1 (Nat.le_of_ble_eq_true rfl) dX0_combined_105 (fun H locs w => ?_)
              refine lv_pop hx hb dX0_combined_108 rfl ?_
              refine lv_iload_n hx hb dX0_combined_109 rfl (lv_at hl 2 rfl) ?_
              exact retI C w dX0_combined_110
            · rw [if_neg h1_5]
              by_cases h1_6 : x1 = (6 : Int32)
              · rw [if_pos h1_6]
                refine lv_tableIn (off := 110) (tgt := 111) hx hb dX0_combined_1 (by rw [h1_6]; decide) (by rw [h1_6]; decide) (by rw [h1_6]; decide) (by decide) ?_
                refine lv_aload_n hx hb dX0_combined_111 rfl (lv_at hl 0 rfl) ?_
                refine lv_iload_n hx hb dX0_combined_112 rfl (lv_at hl 3 rfl) ?_
                refine kcI (k := 11) (ci := 0) (As := [.int x3]) (rest := []) C w rfl rfl (c_Ar_told l A D cA tb ad mu nu x3) (cwV 1 hts gX0_combined_X0_told rfl rfl rfl (by decide +kernel) ⟨Nat.le_of_ble_eq_true rfl, Nat.le_of_ble_eq_true rfl⟩) rfl rfl hl.1 (Nat.le_of_ble_eq_true rfl) dX0_combined_113 (fun H locs w => ?_)
                exact retI C w dX0_combined_116
              · rw [if_neg h1_6]
                by_cases h1_7 : x1 = (7 : Int32)
                · rw [if_pos h1_7]
                  refine lv_tableIn (off := 151) (tgt := 152) hx hb dX0_combined_1 (by rw [h1_7]; decide) (by rw [h1_7]; decide) (by rw [h1_7]; decide) (by decide) ?_
                  refine lv_iload_n hx hb dX0_combined_152 rfl (lv_at hl 2 rfl) ?_
                  exact retI C w dX0_combined_153
                · rw [if_neg h1_7]
                  by_cases h1_8 : x1 = (8 : Int32)
                  · rw [if_pos h1_8]
                    refine lv_tableIn (off := 116) (tgt := 117) hx hb dX0_combined_1 (by rw [h1_8]; decide) (by rw [h1_8]; decide) (by rw [h1_8]; decide) (by decide) ?_
                    refine lv_aload_n hx hb dX0_combined_117 rfl (lv_at hl 0 rfl) ?_
                    refine lv_iload_n hx hb dX0_combined_118 rfl (lv_at hl 2 rfl) ?_
                    refine lv_iload_n hx hb dX0_combined_119 rfl (lv_at hl 3 rfl) ?_
                    refine lv_ixor hx hb dX0_combined_120 ?_
                    refine kcI (k := 11) (ci := 0) (As := [.int ((x2 ^^^ x3))]) (rest := []) C w rfl rfl (c_Ar_told l A D cA tb ad mu nu (x2 ^^^ x3)) (cwV 1 hts gX0_combined_X0_told rfl rfl rfl (by decide +kernel) ⟨Nat.le_of_ble_eq_true rfl, Nat.le_of_ble_eq_true rfl⟩) rfl rfl hl.1 (Nat.le_of_ble_eq_true rfl) dX0_combined_121 (fun H locs w => ?_)
                    exact retI C w dX0_combined_124
                  · rw [if_neg h1_8]
                    by_cases h1_9 : x1 = (9 : Int32)
                    · rw [if_pos h1_9]
                      refine lv_tableIn (off := 124) (tgt := 125) hx hb dX0_combined_1 (by rw [h1_9]; decide) (by rw [h1_9]; decide) (by rw [h1_9]; decide) (by decide) ?_
                      refine lv_aload_n hx hb dX0_combined_125 rfl (lv_at hl 0 rfl) ?_
                      refine lv_iload_n hx hb dX0_combined_126 rfl (lv_at hl 2 rfl) ?_
                      refine lv_iload_n hx hb dX0_combined_127 rfl (lv_at hl 3 rfl) ?_
                      refine lv_aload_n hx hb dX0_combined_128 rfl (lv_at hl 0 rfl) ?_
                      refine kcI (k := 11) (ci := 0) (As := []) (rest := [.int x3, .int x2, .ref (ad 11)]) C w rfl rfl (c_Ar_carry l A D cA tb ad mu nu) (cwV 0 hts gX0_combined_X0_carry rfl rfl rfl (by decide +kernel) ⟨Nat.le_of_ble_eq_true rfl, Nat.le_of_ble_eq_true rfl⟩) rfl rfl hl.1 (Nat.le_of_ble_eq_true rfl) dX0_combined_129 (fun H locs w => ?_)
                      refine kcI (k := 11) (ci := 0) (As := [.int x2, .int x3, .int ((F_Ar_carry mu))]) (rest := []) C w rfl rfl (c_Ar_sum l A D cA tb ad mu nu x2 x3 (F_Ar_carry mu)) (cwV 3 hts gX0_combined_X0_sum rfl rfl rfl (by decide +kernel) ⟨Nat.le_of_ble_eq_true rfl, Nat.le_of_ble_eq_true rfl⟩) rfl rfl hl.1 (Nat.le_of_ble_eq_true rfl) dX0_combined_132 (fun H locs w => ?_)
                      exact retI C w dX0_combined_135
                    · rw [if_neg h1_9]
                      by_cases h1_10 : x1 = (10 : Int32)
                      · rw [if_pos h1_10]
                        refine lv_tableIn (off := 135) (tgt := 136) hx hb dX0_combined_1 (by rw [h1_10]; decide) (by rw [h1_10]; decide) (by rw [h1_10]; decide) (by decide) ?_
                        refine lv_aload_n hx hb dX0_combined_136 rfl (lv_at hl 0 rfl) ?_
                        refine lv_iload_n hx hb dX0_combined_137 rfl (lv_at hl 2 rfl) ?_
                        refine lv_iload_n hx hb dX0_combined_138 rfl (lv_at hl 3 rfl) ?_
                        refine lv_ior hx hb dX0_combined_139 ?_
                        refine kcI (k := 11) (ci := 0) (As := [.int ((x2 ||| x3))]) (rest := []) C w rfl rfl (c_Ar_told l A D cA tb ad mu nu (x2 ||| x3)) (cwV 1 hts gX0_combined_X0_told rfl rfl rfl (by decide +kernel) ⟨Nat.le_of_ble_eq_true rfl, Nat.le_of_ble_eq_true rfl⟩) rfl rfl hl.1 (Nat.le_of_ble_eq_true rfl) dX0_combined_140 (fun H locs w => ?_)
                        exact retI C w dX0_combined_143
                      · rw [if_neg h1_10]
                        by_cases h1_11 : x1 = (11 : Int32)
                        · rw [if_pos h1_11]
                          refine lv_tableIn (off := 143) (tgt := 144) hx hb dX0_combined_1 (by rw [h1_11]; decide) (by rw [h1_11]; decide) (by rw [h1_11]; decide) (by decide) ?_
                          refine lv_aload_n hx hb dX0_combined_144 rfl (lv_at hl 0 rfl) ?_
                          refine lv_iload_n hx hb dX0_combined_145 rfl (lv_at hl 2 rfl) ?_
                          refine lv_iload_n hx hb dX0_combined_146 rfl (lv_at hl 3 rfl) ?_
                          refine lv_iconst (v := 0) hx hb dX0_combined_147 (by decide) ?_
                          refine kcI (k := 11) (ci := 0) (As := [.int x2, .int x3, .int 0]) (rest := []) C w rfl rfl (c_Ar_sum l A D cA tb ad mu nu x2 x3 0) (cwV 3 hts gX0_combined_X0_sum rfl rfl rfl (by decide +kernel) ⟨Nat.le_of_ble_eq_true rfl, Nat.le_of_ble_eq_true rfl⟩) rfl rfl hl.1 (Nat.le_of_ble_eq_true rfl) dX0_combined_148 (fun H locs w => ?_)
                          exact retI C w dX0_combined_151
                        · rw [if_neg h1_11]
                          refine lv_tableOut (tgt := 152) hx hb dX0_combined_1 (by have := lv_neT h1_0 (a := 0) rfl; have := lv_neT h1_1 (a := 1) rfl; have := lv_neT h1_2 (a := 2) rfl; have := lv_neT h1_3 (a := 3) rfl; have := lv_neT h1_4 (a := 4) rfl; have := lv_neT h1_5 (a := 5) rfl; have := lv_neT h1_6 (a := 6) rfl; have := lv_neT h1_7 (a := 7) rfl; have := lv_neT h1_8 (a := 8) rfl; have := lv_neT h1_9 (a := 9) rfl; have := lv_neT h1_10 (a := 10) rfl; have := lv_neT h1_11 (a := 11) rfl; omega) (by decide) ?_
                          refine lv_iload_n hx hb dX0_combined_152 rfl (lv_at hl 2 rfl) ?_
                          exact retI C w dX0_combined_153
set_option maxHeartbeats 4000000 in
set_option maxRecDepth 100000 in
theorem c_Ar_combined (l : Launch) (A : Nat → Prop) (D : va_G) (cA : Nat → ClassId) (tb : Nat) (ad : Nat → Nat) (mu nu : Mu) (x1 : Int32) (x2 : Int32) (x3 : Int32) : Met l yX0_combined wsX0_combined ({ frames := 3, cells := 0, slots := 0, locals := 68 }) (va_Pc [.ref (ad 11), .int x1, .int x2, .int x3] (Pw A D cA tb ad mu nu)) (va_Qi (fun (r : Int32) (u : Mu × Mu) => r = (F_Ar_combined x1 x2 x3 mu).1 ∧ u = ((F_Ar_combined x1 x2 x3 mu).2, nu)) (Bw A D cA ad) A) 0 0 A := by
  refine Met.ofW (cc := cX0_combined) (maxL := 4) (ret := (some .int)) (by decide) rfl ?_
  intro p e s m args below meth c s₁ B hml hv
  obtain ⟨rfl, w0⟩ := hv
  have C : Cx cX0_combined 4 (some .int) wsX0_combined RX0 A D cA tb p s m _ meth c := ⟨B.exec, B.bytes, B.returns, hml, findClass_of_methodNamed B.named, atoms_spec (ws := wsX0_combined) B.pre, B.notSynchronized, w0.2.1, w0.2.2.2.1, w0.2.2.2.2⟩
  have hl := lv_entry ([.ref (ad 11), .int x1, .int x2, .int x3]) (n := 4) (Nat.le_of_ble_eq_true rfl)
  rw [lg_entry_eq]
  exact k_Ar_combined C w0.wd hl
def F_Ar_toldWord_8 (x1 : Int32) (mu : Mu) : Int32 × Mu := (x1, (F_Fl_tell 2 0 mu))
set_option maxHeartbeats 4000000 in
set_option maxRecDepth 100000 in
theorem k_Ar_toldWord_8 (C : Cx cX0_toldWord 2 (some .int) wsX0_toldWord RX0 A D cA tb p s m args meth c) {mu nu : Mu} {x1 : Int32} {H : Heap} {locs : List Loc} {ls : Array Slot} (w : Wd A D cA ad s mu nu H locs) (hl : lv_has ls 2 [(0, .ref (ad 11)), (1, .int x1)]) : W p l e { frames := 2, cells := 0, slots := 0, locals := 43 } s m args below meth c H locs 0 0 (QI A D cA ad below args s (F_Ar_toldWord_8 x1 mu).1 (F_Ar_toldWord_8 x1 mu).2 nu) (F0 m 8 ls []) := by
  have hx := C.1
  have hb := C.2.1
  have hts := C.2.2.2.2.2.1
  have hown := C.2.2.2.2.1
  unfold F_Ar_toldWord_8
  refine lv_aload_n hx hb dX0_toldWord_8 rfl (lv_at hl 0 rfl) ?_
  refine gt_11_0 C (fun _ h => List.mem_cons_of_mem _ (List.mem_append_left _ (List.mem_append_right _ h))) (hts _ (List.mem_of_getElem? (i := 1) rfl)) w dX0_toldWord_9 ?_
  refine lv_iconst (v := 2) hx hb dX0_toldWord_12 (by decide) ?_
  refine lv_iconst (v := 0) hx hb dX0_toldWord_13 (by decide) ?_
  refine kcV (k := 10) (ci := 2) (As := [.int 2, .int 0]) (rest := []) C w rfl rfl (c_Fl_tell l A D cA tb ad mu nu 2 0) (cwV 2 hts gX0_toldWord_X2_tell rfl rfl rfl (by decide +kernel) ⟨Nat.le_of_ble_eq_true rfl, Nat.le_of_ble_eq_true rfl⟩) rfl rfl hl.1 (Nat.le_of_ble_eq_true rfl) dX0_toldWord_14 (fun H locs w => ?_)
  refine lv_iload_n hx hb dX0_toldWord_17 rfl (lv_at hl 1 rfl) ?_
  exact retI C w dX0_toldWord_18
def F_Ar_toldWord (x1 : Int32) (mu : Mu) : Int32 × Mu := F_Ar_toldWord_8 x1 (F_Fl_tellWordSignAndZero x1 mu)
set_option maxHeartbeats 4000000 in
set_option maxRecDepth 100000 in
theorem k_Ar_toldWord (C : Cx cX0_toldWord 2 (some .int) wsX0_toldWord RX0 A D cA tb p s m args meth c) {mu nu : Mu} {x1 : Int32} {H : Heap} {locs : List Loc} {ls : Array Slot} (w : Wd A D cA ad s mu nu H locs) (hl : lv_has ls 2 [(0, .ref (ad 11)), (1, .int x1)]) : W p l e { frames := 2, cells := 0, slots := 0, locals := 43 } s m args below meth c H locs 0 0 (QI A D cA ad below args s (F_Ar_toldWord x1 mu).1 (F_Ar_toldWord x1 mu).2 nu) (F0 m 0 ls []) := by
  have hx := C.1
  have hb := C.2.1
  have hts := C.2.2.2.2.2.1
  have hown := C.2.2.2.2.1
  unfold F_Ar_toldWord
  refine lv_aload_n hx hb dX0_toldWord_0 rfl (lv_at hl 0 rfl) ?_
  refine gt_11_0 C (fun _ h => List.mem_cons_of_mem _ (List.mem_append_left _ (List.mem_append_right _ h))) (hts _ (List.mem_of_getElem? (i := 1) rfl)) w dX0_toldWord_1 ?_
  refine lv_iload_n hx hb dX0_toldWord_4 rfl (lv_at hl 1 rfl) ?_
  refine kcV (k := 10) (ci := 2) (As := [.int x1]) (rest := []) C w rfl rfl (c_Fl_tellWordSignAndZero l A D cA tb ad mu nu x1) (cwV 1 hts gX0_toldWord_X2_tellWordSignAndZero rfl rfl rfl (by decide +kernel) ⟨Nat.le_of_ble_eq_true rfl, Nat.le_of_ble_eq_true rfl⟩) rfl rfl hl.1 (Nat.le_of_ble_eq_true rfl) dX0_toldWord_5 (fun H locs w => ?_)
  exact k_Ar_toldWord_8 C w (lv_sub hl [0, 1] rfl)
set_option maxHeartbeats 4000000 in
set_option maxRecDepth 100000 in
theorem c_Ar_toldWord (l : Launch) (A : Nat → Prop) (D : va_G) (cA : Nat → ClassId) (tb : Nat) (ad : Nat → Nat) (mu nu : Mu) (x1 : Int32) : Met l yX0_toldWord wsX0_toldWord ({ frames := 2, cells := 0, slots := 0, locals := 43 }) (va_Pc [.ref (ad 11), .int x1] (Pw A D cA tb ad mu nu)) (va_Qi (fun (r : Int32) (u : Mu × Mu) => r = (F_Ar_toldWord x1 mu).1 ∧ u = ((F_Ar_toldWord x1 mu).2, nu)) (Bw A D cA ad) A) 0 0 A := by
  refine Met.ofW (cc := cX0_toldWord) (maxL := 2) (ret := (some .int)) (by decide) rfl ?_
  intro p e s m args below meth c s₁ B hml hv
  obtain ⟨rfl, w0⟩ := hv
  have C : Cx cX0_toldWord 2 (some .int) wsX0_toldWord RX0 A D cA tb p s m _ meth c := ⟨B.exec, B.bytes, B.returns, hml, findClass_of_methodNamed B.named, atoms_spec (ws := wsX0_toldWord) B.pre, B.notSynchronized, w0.2.1, w0.2.2.2.1, w0.2.2.2.2⟩
  have hl := lv_entry ([.ref (ad 11), .int x1]) (n := 2) (Nat.le_of_ble_eq_true rfl)
  rw [lg_entry_eq]
  exact k_Ar_toldWord C w0.wd hl
def F_Ar_compareWords_38 (y1 : Int32) (y2 : Int32) (mu : Mu) : Mu := (F_Fl_tell y1 y2 mu)
set_option maxHeartbeats 4000000 in
set_option maxRecDepth 100000 in
theorem k_Ar_compareWords_38 (C : Cx cX0_compareWords 4 none wsX0_compareWords RX0 A D cA tb p s m args meth c) {mu nu : Mu} {y1 : Int32} {y2 : Int32} {H : Heap} {locs : List Loc} {ls : Array Slot} (w : Wd A D cA ad s mu nu H locs) (hl : lv_has ls 4 []) : W p l e { frames := 2, cells := 0, slots := 0, locals := 43 } s m args below meth c H locs 0 0 (QV A D cA ad below args s (F_Ar_compareWords_38 y1 y2 mu) nu) (F0 m 38 ls [.int y2, .int y1, .ref (ad 10)]) := by
  have hx := C.1
  have hb := C.2.1
  have hts := C.2.2.2.2.2.1
  have hown := C.2.2.2.2.1
  unfold F_Ar_compareWords_38
  refine kcV (k := 10) (ci := 2) (As := [.int y1, .int y2]) (rest := []) C w rfl rfl (c_Fl_tell l A D cA tb ad mu nu y1 y2) (cwV 2 hts gX0_compareWords_X2_tell rfl rfl rfl (by decide +kernel) ⟨Nat.le_of_ble_eq_true rfl, Nat.le_of_ble_eq_true rfl⟩) rfl rfl hl.1 (Nat.le_of_ble_eq_true rfl) dX0_compareWords_38 (fun H locs w => ?_)
  exact retV C w dX0_compareWords_41
def F_Ar_compareWords_15 (x1 : Int32) (x2 : Int32) (x3 : Int32) (mu : Mu) : Mu := (if (((x1 ^^^ x2) &&& (x1 ^^^ x3)) &&& 32768) = (0 : Int32) then F_Ar_compareWords_38 2 0 mu else F_Ar_compareWords_38 2 1 mu)
set_option maxHeartbeats 4000000 in
set_option maxRecDepth 100000 in
theorem k_Ar_compareWords_15 (C : Cx cX0_compareWords 4 none wsX0_compareWords RX0 A D cA tb p s m args meth c) {mu nu : Mu} {x1 : Int32} {x2 : Int32} {x3 : Int32} {H : Heap} {locs : List Loc} {ls : Array Slot} (w : Wd A D cA ad s mu nu H locs) (hl : lv_has ls 4 [(0, .ref (ad 11)), (1, .int x1), (2, .int x2), (3, .int x3)]) : W p l e { frames := 2, cells := 0, slots := 0, locals := 43 } s m args below meth c H locs 0 0 (QV A D cA ad below args s (F_Ar_compareWords_15 x1 x2 x3 mu) nu) (F0 m 15 ls []) := by
  have hx := C.1
  have hb := C.2.1
  have hts := C.2.2.2.2.2.1
  have hown := C.2.2.2.2.1
  unfold F_Ar_compareWords_15
  refine lv_aload_n hx hb dX0_compareWords_15 rfl (lv_at hl 0 rfl) ?_
  refine gt_11_0 C (fun _ h => List.mem_cons_of_mem _ (List.mem_append_left _ (List.mem_append_right _ h))) (hts _ (List.mem_of_getElem? (i := 2) rfl)) w dX0_compareWords_16 ?_
  refine lv_iconst (v := 2) hx hb dX0_compareWords_19 (by decide) ?_
  refine lv_iload_n hx hb dX0_compareWords_20 rfl (lv_at hl 1 rfl) ?_
  refine lv_iload_n hx hb dX0_compareWords_21 rfl (lv_at hl 2 rfl) ?_
  refine lv_ixor hx hb dX0_compareWords_22 ?_
  refine lv_iload_n hx hb dX0_compareWords_23 rfl (lv_at hl 1 rfl) ?_
  refine lv_iload_n hx hb dX0_compareWords_24 rfl (lv_at hl 3 rfl) ?_
  refine lv_ixor hx hb dX0_compareWords_25 ?_
  refine lv_iand hx hb dX0_compareWords_26 ?_
  refine lv_ldc (v := 32768) hx hb hown (hts _ (List.mem_of_getElem? (i := 3) rfl)) dX0_compareWords_27 ?_
  refine lv_iand hx hb dX0_compareWords_29 ?_
  refine lv_if_eq (tgt := 37) hx hb dX0_compareWords_30 (by decide) (fun h30 => ?_) (fun h30 => ?_)
  · rw [if_pos h30]
    refine lv_iconst (v := 0) hx hb dX0_compareWords_37 (by decide) ?_
    exact k_Ar_compareWords_38 C w (lv_sub hl [] rfl)
  · rw [if_neg h30]
    refine lv_iconst (v := 1) hx hb dX0_compareWords_33 (by decide) ?_
    refine lv_goto (tgt := 38) hx hb dX0_compareWords_34 (by decide) ?_
    exact k_Ar_compareWords_38 C w (lv_sub hl [] rfl)
def F_Ar_compareWords (x1 : Int32) (x2 : Int32) (mu : Mu) : Mu := F_Ar_compareWords_15 x1 x2 ((x1 - x2) &&& 65535) (F_Fl_tellWordSignAndZero ((x1 - x2) &&& 65535) mu)
set_option maxHeartbeats 4000000 in
set_option maxRecDepth 100000 in
theorem k_Ar_compareWords (C : Cx cX0_compareWords 4 none wsX0_compareWords RX0 A D cA tb p s m args meth c) {mu nu : Mu} {x1 : Int32} {x2 : Int32} {H : Heap} {locs : List Loc} {ls : Array Slot} (w : Wd A D cA ad s mu nu H locs) (hl : lv_has ls 4 [(0, .ref (ad 11)), (1, .int x1), (2, .int x2)]) : W p l e { frames := 2, cells := 0, slots := 0, locals := 43 } s m args below meth c H locs 0 0 (QV A D cA ad below args s (F_Ar_compareWords x1 x2 mu) nu) (F0 m 0 ls []) := by
  have hx := C.1
  have hb := C.2.1
  have hts := C.2.2.2.2.2.1
  have hown := C.2.2.2.2.1
  unfold F_Ar_compareWords
  refine lv_iload_n hx hb dX0_compareWords_0 rfl (lv_at hl 1 rfl) ?_
  refine lv_iload_n hx hb dX0_compareWords_1 rfl (lv_at hl 2 rfl) ?_
  refine lv_isub hx hb dX0_compareWords_2 ?_
  refine lv_ldc (v := 65535) hx hb hown (hts _ (List.mem_of_getElem? (i := 1) rfl)) dX0_compareWords_3 ?_
  refine lv_iand hx hb dX0_compareWords_5 ?_
  refine lv_istore_n (lv' := [(3, .int (((x1 - x2) &&& 65535))), (0, .ref (ad 11)), (1, .int x1), (2, .int x2)]) hx hb dX0_compareWords_6 rfl hl (by decide) rfl (fun ls hl => ?_)
  refine lv_aload_n hx hb dX0_compareWords_7 rfl (lv_at hl 1 rfl) ?_
  refine gt_11_0 C (fun _ h => List.mem_cons_of_mem _ (List.mem_append_left _ (List.mem_append_right _ h))) (hts _ (List.mem_of_getElem? (i := 2) rfl)) w dX0_compareWords_8 ?_
  refine lv_iload_n hx hb dX0_compareWords_11 rfl (lv_at hl 0 rfl) ?_
  refine kcV (k := 10) (ci := 2) (As := [.int (((x1 - x2) &&& 65535))]) (rest := []) C w rfl rfl (c_Fl_tellWordSignAndZero l A D cA tb ad mu nu ((x1 - x2) &&& 65535)) (cwV 1 hts gX0_compareWords_X2_tellWordSignAndZero rfl rfl rfl (by decide +kernel) ⟨Nat.le_of_ble_eq_true rfl, Nat.le_of_ble_eq_true rfl⟩) rfl rfl hl.1 (Nat.le_of_ble_eq_true rfl) dX0_compareWords_12 (fun H locs w => ?_)
  exact k_Ar_compareWords_15 C w (lv_sub hl [1, 2, 3, 0] rfl)
set_option maxHeartbeats 4000000 in
set_option maxRecDepth 100000 in
theorem c_Ar_compareWords (l : Launch) (A : Nat → Prop) (D : va_G) (cA : Nat → ClassId) (tb : Nat) (ad : Nat → Nat) (mu nu : Mu) (x1 : Int32) (x2 : Int32) : Met l yX0_compareWords wsX0_compareWords ({ frames := 2, cells := 0, slots := 0, locals := 43 }) (va_Pc [.ref (ad 11), .int x1, .int x2] (Pw A D cA tb ad mu nu)) (va_Qv (fun (u : Mu × Mu) => u = (F_Ar_compareWords x1 x2 mu, nu)) (Bw A D cA ad) A) 0 0 A := by
  refine Met.ofW (cc := cX0_compareWords) (maxL := 4) (ret := none) (by decide) rfl ?_
  intro p e s m args below meth c s₁ B hml hv
  obtain ⟨rfl, w0⟩ := hv
  have C : Cx cX0_compareWords 4 none wsX0_compareWords RX0 A D cA tb p s m _ meth c := ⟨B.exec, B.bytes, B.returns, hml, findClass_of_methodNamed B.named, atoms_spec (ws := wsX0_compareWords) B.pre, B.notSynchronized, w0.2.1, w0.2.2.2.1, w0.2.2.2.2⟩
  have hl := lv_entry ([.ref (ad 11), .int x1, .int x2]) (n := 4) (Nat.le_of_ble_eq_true rfl)
  rw [lg_entry_eq]
  exact k_Ar_compareWords C w0.wd hl
def F_Ar_counted_8 (x1 : Int32) (x2 : Int32) (mu : Mu) : Int32 × Mu := (x1, (F_Fl_tell 2 x2 mu))
set_option maxHeartbeats 4000000 in
set_option maxRecDepth 100000 in
theorem k_Ar_counted_8 (C : Cx cX0_counted 3 (some .int) wsX0_counted RX0 A D cA tb p s m args meth c) {mu nu : Mu} {x1 : Int32} {x2 : Int32} {H : Heap} {locs : List Loc} {ls : Array Slot} (w : Wd A D cA ad s mu nu H locs) (hl : lv_has ls 3 [(0, .ref (ad 11)), (1, .int x1), (2, .int x2)]) : W p l e { frames := 2, cells := 0, slots := 0, locals := 43 } s m args below meth c H locs 0 0 (QI A D cA ad below args s (F_Ar_counted_8 x1 x2 mu).1 (F_Ar_counted_8 x1 x2 mu).2 nu) (F0 m 8 ls []) := by
  have hx := C.1
  have hb := C.2.1
  have hts := C.2.2.2.2.2.1
  have hown := C.2.2.2.2.1
  unfold F_Ar_counted_8
  refine lv_aload_n hx hb dX0_counted_8 rfl (lv_at hl 0 rfl) ?_
  refine gt_11_0 C (fun _ h => List.mem_cons_of_mem _ (List.mem_append_left _ (List.mem_append_right _ h))) (hts _ (List.mem_of_getElem? (i := 1) rfl)) w dX0_counted_9 ?_
  refine lv_iconst (v := 2) hx hb dX0_counted_12 (by decide) ?_
  refine lv_iload_n hx hb dX0_counted_13 rfl (lv_at hl 2 rfl) ?_
  refine kcV (k := 10) (ci := 2) (As := [.int 2, .int x2]) (rest := []) C w rfl rfl (c_Fl_tell l A D cA tb ad mu nu 2 x2) (cwV 2 hts gX0_counted_X2_tell rfl rfl rfl (by decide +kernel) ⟨Nat.le_of_ble_eq_true rfl, Nat.le_of_ble_eq_true rfl⟩) rfl rfl hl.1 (Nat.le_of_ble_eq_true rfl) dX0_counted_14 (fun H locs w => ?_)
  refine lv_iload_n hx hb dX0_counted_17 rfl (lv_at hl 1 rfl) ?_
  exact retI C w dX0_counted_18
def F_Ar_counted (x1 : Int32) (x2 : Int32) (mu : Mu) : Int32 × Mu := F_Ar_counted_8 x1 x2 (F_Fl_tellSignAndZero x1 mu)
set_option maxHeartbeats 4000000 in
set_option maxRecDepth 100000 in
theorem k_Ar_counted (C : Cx cX0_counted 3 (some .int) wsX0_counted RX0 A D cA tb p s m args meth c) {mu nu : Mu} {x1 : Int32} {x2 : Int32} {H : Heap} {locs : List Loc} {ls : Array Slot} (w : Wd A D cA ad s mu nu H locs) (hl : lv_has ls 3 [(0, .ref (ad 11)), (1, .int x1), (2, .int x2)]) : W p l e { frames := 2, cells := 0, slots := 0, locals := 43 } s m args below meth c H locs 0 0 (QI A D cA ad below args s (F_Ar_counted x1 x2 mu).1 (F_Ar_counted x1 x2 mu).2 nu) (F0 m 0 ls []) := by
  have hx := C.1
  have hb := C.2.1
  have hts := C.2.2.2.2.2.1
  have hown := C.2.2.2.2.1
  unfold F_Ar_counted
  refine lv_aload_n hx hb dX0_counted_0 rfl (lv_at hl 0 rfl) ?_
  refine gt_11_0 C (fun _ h => List.mem_cons_of_mem _ (List.mem_append_left _ (List.mem_append_right _ h))) (hts _ (List.mem_of_getElem? (i := 1) rfl)) w dX0_counted_1 ?_
  refine lv_iload_n hx hb dX0_counted_4 rfl (lv_at hl 1 rfl) ?_
  refine kcV (k := 10) (ci := 2) (As := [.int x1]) (rest := []) C w rfl rfl (c_Fl_tellSignAndZero l A D cA tb ad mu nu x1) (cwV 1 hts gX0_counted_X2_tellSignAndZero rfl rfl rfl (by decide +kernel) ⟨Nat.le_of_ble_eq_true rfl, Nat.le_of_ble_eq_true rfl⟩) rfl rfl hl.1 (Nat.le_of_ble_eq_true rfl) dX0_counted_5 (fun H locs w => ?_)
  exact k_Ar_counted_8 C w (lv_sub hl [0, 1, 2] rfl)
set_option maxHeartbeats 4000000 in
set_option maxRecDepth 100000 in
theorem c_Ar_counted (l : Launch) (A : Nat → Prop) (D : va_G) (cA : Nat → ClassId) (tb : Nat) (ad : Nat → Nat) (mu nu : Mu) (x1 : Int32) (x2 : Int32) : Met l yX0_counted wsX0_counted ({ frames := 2, cells := 0, slots := 0, locals := 43 }) (va_Pc [.ref (ad 11), .int x1, .int x2] (Pw A D cA tb ad mu nu)) (va_Qi (fun (r : Int32) (u : Mu × Mu) => r = (F_Ar_counted x1 x2 mu).1 ∧ u = ((F_Ar_counted x1 x2 mu).2, nu)) (Bw A D cA ad) A) 0 0 A := by
  refine Met.ofW (cc := cX0_counted) (maxL := 3) (ret := (some .int)) (by decide) rfl ?_
  intro p e s m args below meth c s₁ B hml hv
  obtain ⟨rfl, w0⟩ := hv
  have C : Cx cX0_counted 3 (some .int) wsX0_counted RX0 A D cA tb p s m _ meth c := ⟨B.exec, B.bytes, B.returns, hml, findClass_of_methodNamed B.named, atoms_spec (ws := wsX0_counted) B.pre, B.notSynchronized, w0.2.1, w0.2.2.2.1, w0.2.2.2.2⟩
  have hl := lv_entry ([.ref (ad 11), .int x1, .int x2]) (n := 3) (Nat.le_of_ble_eq_true rfl)
  rw [lg_entry_eq]
  exact k_Ar_counted C w0.wd hl
def F_Ar_shifted_55 (x1 : Int32) (y1 : Int32) (y2 : Int32) (mu : Mu) : Int32 × Mu := (x1, (F_Fl_tell y1 y2 mu))
set_option maxHeartbeats 4000000 in
set_option maxRecDepth 100000 in
theorem k_Ar_shifted_55 (C : Cx cX0_shifted 3 (some .int) wsX0_shifted RX0 A D cA tb p s m args meth c) {mu nu : Mu} {x1 : Int32} {y1 : Int32} {y2 : Int32} {H : Heap} {locs : List Loc} {ls : Array Slot} (w : Wd A D cA ad s mu nu H locs) (hl : lv_has ls 3 [(1, .int x1)]) : W p l e { frames := 2, cells := 0, slots := 0, locals := 43 } s m args below meth c H locs 0 0 (QI A D cA ad below args s (F_Ar_shifted_55 x1 y1 y2 mu).1 (F_Ar_shifted_55 x1 y1 y2 mu).2 nu) (F0 m 55 ls [.int y2, .int y1, .ref (ad 10)]) := by
  have hx := C.1
  have hb := C.2.1
  have hts := C.2.2.2.2.2.1
  have hown := C.2.2.2.2.1
  unfold F_Ar_shifted_55
  refine kcV (k := 10) (ci := 2) (As := [.int y1, .int y2]) (rest := []) C w rfl rfl (c_Fl_tell l A D cA tb ad mu nu y1 y2) (cwV 2 hts gX0_shifted_X2_tell rfl rfl rfl (by decide +kernel) ⟨Nat.le_of_ble_eq_true rfl, Nat.le_of_ble_eq_true rfl⟩) rfl rfl hl.1 (Nat.le_of_ble_eq_true rfl) dX0_shifted_55 (fun H locs w => ?_)
  refine lv_iload_n hx hb dX0_shifted_58 rfl (lv_at hl 0 rfl) ?_
  exact retI C w dX0_shifted_59
def F_Ar_shifted_25 (x1 : Int32) (mu : Mu) : Int32 × Mu := (if (F_Fl_has 8 mu) = (F_Fl_has 1 mu) then F_Ar_shifted_55 x1 2 0 mu else F_Ar_shifted_55 x1 2 1 mu)
set_option maxHeartbeats 4000000 in
set_option maxRecDepth 100000 in
theorem k_Ar_shifted_25 (C : Cx cX0_shifted 3 (some .int) wsX0_shifted RX0 A D cA tb p s m args meth c) {mu nu : Mu} {x1 : Int32} {H : Heap} {locs : List Loc} {ls : Array Slot} (w : Wd A D cA ad s mu nu H locs) (hl : lv_has ls 3 [(0, .ref (ad 11)), (1, .int x1)]) : W p l e { frames := 2, cells := 0, slots := 0, locals := 43 } s m args below meth c H locs 0 0 (QI A D cA ad below args s (F_Ar_shifted_25 x1 mu).1 (F_Ar_shifted_25 x1 mu).2 nu) (F0 m 25 ls []) := by
  have hx := C.1
  have hb := C.2.1
  have hts := C.2.2.2.2.2.1
  have hown := C.2.2.2.2.1
  unfold F_Ar_shifted_25
  refine lv_aload_n hx hb dX0_shifted_25 rfl (lv_at hl 0 rfl) ?_
  refine gt_11_0 C (fun _ h => List.mem_cons_of_mem _ (List.mem_append_left _ (List.mem_append_right _ h))) (hts _ (List.mem_of_getElem? (i := 1) rfl)) w dX0_shifted_26 ?_
  refine lv_iconst (v := 2) hx hb dX0_shifted_29 (by decide) ?_
  refine lv_aload_n hx hb dX0_shifted_30 rfl (lv_at hl 0 rfl) ?_
  refine gt_11_0 C (fun _ h => List.mem_cons_of_mem _ (List.mem_append_left _ (List.mem_append_right _ h))) (hts _ (List.mem_of_getElem? (i := 1) rfl)) w dX0_shifted_31 ?_
  refine lv_bipush (v := 8) hx hb dX0_shifted_34 (by decide) ?_
  refine kcI (k := 10) (ci := 2) (As := [.int 8]) (rest := [.int 2, .ref (ad 10)]) C w rfl rfl (c_Fl_has l A D cA tb ad mu nu 8) (cwV 1 hts gX0_shifted_X2_has rfl rfl rfl (by decide +kernel) ⟨Nat.le_of_ble_eq_true rfl, Nat.le_of_ble_eq_true rfl⟩) rfl rfl hl.1 (Nat.le_of_ble_eq_true rfl) dX0_shifted_36 (fun H locs w => ?_)
  refine lv_aload_n hx hb dX0_shifted_39 rfl (lv_at hl 0 rfl) ?_
  refine gt_11_0 C (fun _ h => List.mem_cons_of_mem _ (List.mem_append_left _ (List.mem_append_right _ h))) (hts _ (List.mem_of_getElem? (i := 1) rfl)) w dX0_shifted_40 ?_
  refine lv_iconst (v := 1) hx hb dX0_shifted_43 (by decide) ?_
  refine kcI (k := 10) (ci := 2) (As := [.int 1]) (rest := [.int ((F_Fl_has 8 mu)), .int 2, .ref (ad 10)]) C w rfl rfl (c_Fl_has l A D cA tb ad mu nu 1) (cwV 1 hts gX0_shifted_X2_has rfl rfl rfl (by decide +kernel) ⟨Nat.le_of_ble_eq_true rfl, Nat.le_of_ble_eq_true rfl⟩) rfl rfl hl.1 (Nat.le_of_ble_eq_true rfl) dX0_shifted_44 (fun H locs w => ?_)
  refine lv_icmp_eq (tgt := 54) hx hb dX0_shifted_47 (by decide) (fun h47 => ?_) (fun h47 => ?_)
  · rw [if_pos h47]
    refine lv_iconst (v := 0) hx hb dX0_shifted_54 (by decide) ?_
    exact k_Ar_shifted_55 C w (lv_sub hl [1] rfl)
  · rw [if_neg h47]
    refine lv_iconst (v := 1) hx hb dX0_shifted_50 (by decide) ?_
    refine lv_goto (tgt := 55) hx hb dX0_shifted_51 (by decide) ?_
    exact k_Ar_shifted_55 C w (lv_sub hl [1] rfl)
def F_Ar_shifted_17 (x1 : Int32) (mu : Mu) : Int32 × Mu := F_Ar_shifted_25 x1 (F_Fl_tellSignAndZero x1 mu)
set_option maxHeartbeats 4000000 in
set_option maxRecDepth 100000 in
theorem k_Ar_shifted_17 (C : Cx cX0_shifted 3 (some .int) wsX0_shifted RX0 A D cA tb p s m args meth c) {mu nu : Mu} {x1 : Int32} {H : Heap} {locs : List Loc} {ls : Array Slot} (w : Wd A D cA ad s mu nu H locs) (hl : lv_has ls 3 [(0, .ref (ad 11)), (1, .int x1)]) : W p l e { frames := 2, cells := 0, slots := 0, locals := 43 } s m args below meth c H locs 0 0 (QI A D cA ad below args s (F_Ar_shifted_17 x1 mu).1 (F_Ar_shifted_17 x1 mu).2 nu) (F0 m 17 ls []) := by
  have hx := C.1
  have hb := C.2.1
  have hts := C.2.2.2.2.2.1
  have hown := C.2.2.2.2.1
  unfold F_Ar_shifted_17
  refine lv_aload_n hx hb dX0_shifted_17 rfl (lv_at hl 0 rfl) ?_
  refine gt_11_0 C (fun _ h => List.mem_cons_of_mem _ (List.mem_append_left _ (List.mem_append_right _ h))) (hts _ (List.mem_of_getElem? (i := 1) rfl)) w dX0_shifted_18 ?_
  refine lv_iload_n hx hb dX0_shifted_21 rfl (lv_at hl 1 rfl) ?_
  refine kcV (k := 10) (ci := 2) (As := [.int x1]) (rest := []) C w rfl rfl (c_Fl_tellSignAndZero l A D cA tb ad mu nu x1) (cwV 1 hts gX0_shifted_X2_tellSignAndZero rfl rfl rfl (by decide +kernel) ⟨Nat.le_of_ble_eq_true rfl, Nat.le_of_ble_eq_true rfl⟩) rfl rfl hl.1 (Nat.le_of_ble_eq_true rfl) dX0_shifted_22 (fun H locs w => ?_)
  exact k_Ar_shifted_25 C w (lv_sub hl [0, 1] rfl)
def F_Ar_shifted_14 (x1 : Int32) (y1 : Int32) (y2 : Int32) (mu : Mu) : Int32 × Mu := F_Ar_shifted_17 x1 (F_Fl_tell y1 y2 mu)
set_option maxHeartbeats 4000000 in
set_option maxRecDepth 100000 in
theorem k_Ar_shifted_14 (C : Cx cX0_shifted 3 (some .int) wsX0_shifted RX0 A D cA tb p s m args meth c) {mu nu : Mu} {x1 : Int32} {y1 : Int32} {y2 : Int32} {H : Heap} {locs : List Loc} {ls : Array Slot} (w : Wd A D cA ad s mu nu H locs) (hl : lv_has ls 3 [(0, .ref (ad 11)), (1, .int x1)]) : W p l e { frames := 2, cells := 0, slots := 0, locals := 43 } s m args below meth c H locs 0 0 (QI A D cA ad below args s (F_Ar_shifted_14 x1 y1 y2 mu).1 (F_Ar_shifted_14 x1 y1 y2 mu).2 nu) (F0 m 14 ls [.int y2, .int y1, .ref (ad 10)]) := by
  have hx := C.1
  have hb := C.2.1
  have hts := C.2.2.2.2.2.1
  have hown := C.2.2.2.2.1
  unfold F_Ar_shifted_14
  refine kcV (k := 10) (ci := 2) (As := [.int y1, .int y2]) (rest := []) C w rfl rfl (c_Fl_tell l A D cA tb ad mu nu y1 y2) (cwV 2 hts gX0_shifted_X2_tell rfl rfl rfl (by decide +kernel) ⟨Nat.le_of_ble_eq_true rfl, Nat.le_of_ble_eq_true rfl⟩) rfl rfl hl.1 (Nat.le_of_ble_eq_true rfl) dX0_shifted_14 (fun H locs w => ?_)
  exact k_Ar_shifted_17 C w (lv_sub hl [0, 1] rfl)
def F_Ar_shifted (x1 : Int32) (x2 : Int32) (mu : Mu) : Int32 × Mu := (if x2 = (0 : Int32) then F_Ar_shifted_14 x1 1 0 mu else F_Ar_shifted_14 x1 1 1 mu)
set_option maxHeartbeats 4000000 in
set_option maxRecDepth 100000 in
theorem k_Ar_shifted (C : Cx cX0_shifted 3 (some .int) wsX0_shifted RX0 A D cA tb p s m args meth c) {mu nu : Mu} {x1 : Int32} {x2 : Int32} {H : Heap} {locs : List Loc} {ls : Array Slot} (w : Wd A D cA ad s mu nu H locs) (hl : lv_has ls 3 [(0, .ref (ad 11)), (1, .int x1), (2, .int x2)]) : W p l e { frames := 2, cells := 0, slots := 0, locals := 43 } s m args below meth c H locs 0 0 (QI A D cA ad below args s (F_Ar_shifted x1 x2 mu).1 (F_Ar_shifted x1 x2 mu).2 nu) (F0 m 0 ls []) := by
  have hx := C.1
  have hb := C.2.1
  have hts := C.2.2.2.2.2.1
  have hown := C.2.2.2.2.1
  unfold F_Ar_shifted
  refine lv_aload_n hx hb dX0_shifted_0 rfl (lv_at hl 0 rfl) ?_
  refine gt_11_0 C (fun _ h => List.mem_cons_of_mem _ (List.mem_append_left _ (List.mem_append_right _ h))) (hts _ (List.mem_of_getElem? (i := 1) rfl)) w dX0_shifted_1 ?_
  refine lv_iconst (v := 1) hx hb dX0_shifted_4 (by decide) ?_
  refine lv_iload_n hx hb dX0_shifted_5 rfl (lv_at hl 2 rfl) ?_
  refine lv_if_eq (tgt := 13) hx hb dX0_shifted_6 (by decide) (fun h6 => ?_) (fun h6 => ?_)
  · rw [if_pos h6]
    refine lv_iconst (v := 0) hx hb dX0_shifted_13 (by decide) ?_
    exact k_Ar_shifted_14 C w (lv_sub hl [0, 1] rfl)
  · rw [if_neg h6]
    refine lv_iconst (v := 1) hx hb dX0_shifted_9 (by decide) ?_
    refine lv_goto (tgt := 14) hx hb dX0_shifted_10 (by decide) ?_
    exact k_Ar_shifted_14 C w (lv_sub hl [0, 1] rfl)
set_option maxHeartbeats 4000000 in
set_option maxRecDepth 100000 in
theorem c_Ar_shifted (l : Launch) (A : Nat → Prop) (D : va_G) (cA : Nat → ClassId) (tb : Nat) (ad : Nat → Nat) (mu nu : Mu) (x1 : Int32) (x2 : Int32) : Met l yX0_shifted wsX0_shifted ({ frames := 2, cells := 0, slots := 0, locals := 43 }) (va_Pc [.ref (ad 11), .int x1, .int x2] (Pw A D cA tb ad mu nu)) (va_Qi (fun (r : Int32) (u : Mu × Mu) => r = (F_Ar_shifted x1 x2 mu).1 ∧ u = ((F_Ar_shifted x1 x2 mu).2, nu)) (Bw A D cA ad) A) 0 0 A := by
  refine Met.ofW (cc := cX0_shifted) (maxL := 3) (ret := (some .int)) (by decide) rfl ?_
  intro p e s m args below meth c s₁ B hml hv
  obtain ⟨rfl, w0⟩ := hv
  have C : Cx cX0_shifted 3 (some .int) wsX0_shifted RX0 A D cA tb p s m _ meth c := ⟨B.exec, B.bytes, B.returns, hml, findClass_of_methodNamed B.named, atoms_spec (ws := wsX0_shifted) B.pre, B.notSynchronized, w0.2.1, w0.2.2.2.1, w0.2.2.2.2⟩
  have hl := lv_entry ([.ref (ad 11), .int x1, .int x2]) (n := 3) (Nat.le_of_ble_eq_true rfl)
  rw [lg_entry_eq]
  exact k_Ar_shifted C w0.wd hl
def F_Ar_negated_49 (x2 : Int32) (y1 : Int32) (y2 : Int32) (mu : Mu) : Int32 × Mu := (x2, (F_Fl_tell y1 y2 mu))
set_option maxHeartbeats 4000000 in
set_option maxRecDepth 100000 in
theorem k_Ar_negated_49 (C : Cx cX0_negated 3 (some .int) wsX0_negated RX0 A D cA tb p s m args meth c) {mu nu : Mu} {x2 : Int32} {y1 : Int32} {y2 : Int32} {H : Heap} {locs : List Loc} {ls : Array Slot} (w : Wd A D cA ad s mu nu H locs) (hl : lv_has ls 3 [(2, .int x2)]) : W p l e { frames := 2, cells := 0, slots := 0, locals := 43 } s m args below meth c H locs 0 0 (QI A D cA ad below args s (F_Ar_negated_49 x2 y1 y2 mu).1 (F_Ar_negated_49 x2 y1 y2 mu).2 nu) (F0 m 49 ls [.int y2, .int y1, .ref (ad 10)]) := by
  have hx := C.1
  have hb := C.2.1
  have hts := C.2.2.2.2.2.1
  have hown := C.2.2.2.2.1
  unfold F_Ar_negated_49
  refine kcV (k := 10) (ci := 2) (As := [.int y1, .int y2]) (rest := []) C w rfl rfl (c_Fl_tell l A D cA tb ad mu nu y1 y2) (cwV 2 hts gX0_negated_X2_tell rfl rfl rfl (by decide +kernel) ⟨Nat.le_of_ble_eq_true rfl, Nat.le_of_ble_eq_true rfl⟩) rfl rfl hl.1 (Nat.le_of_ble_eq_true rfl) dX0_negated_49 (fun H locs w => ?_)
  refine lv_iload_n hx hb dX0_negated_52 rfl (lv_at hl 0 rfl) ?_
  exact retI C w dX0_negated_53
def F_Ar_negated_35 (x2 : Int32) (mu : Mu) : Int32 × Mu := (if x2 = (0 : Int32) then F_Ar_negated_49 x2 1 0 mu else F_Ar_negated_49 x2 1 1 mu)
set_option maxHeartbeats 4000000 in
set_option maxRecDepth 100000 in
theorem k_Ar_negated_35 (C : Cx cX0_negated 3 (some .int) wsX0_negated RX0 A D cA tb p s m args meth c) {mu nu : Mu} {x2 : Int32} {H : Heap} {locs : List Loc} {ls : Array Slot} (w : Wd A D cA ad s mu nu H locs) (hl : lv_has ls 3 [(0, .ref (ad 11)), (2, .int x2)]) : W p l e { frames := 2, cells := 0, slots := 0, locals := 43 } s m args below meth c H locs 0 0 (QI A D cA ad below args s (F_Ar_negated_35 x2 mu).1 (F_Ar_negated_35 x2 mu).2 nu) (F0 m 35 ls []) := by
  have hx := C.1
  have hb := C.2.1
  have hts := C.2.2.2.2.2.1
  have hown := C.2.2.2.2.1
  unfold F_Ar_negated_35
  refine lv_aload_n hx hb dX0_negated_35 rfl (lv_at hl 0 rfl) ?_
  refine gt_11_0 C (fun _ h => List.mem_cons_of_mem _ (List.mem_append_left _ (List.mem_append_right _ h))) (hts _ (List.mem_of_getElem? (i := 1) rfl)) w dX0_negated_36 ?_
  refine lv_iconst (v := 1) hx hb dX0_negated_39 (by decide) ?_
  refine lv_iload_n hx hb dX0_negated_40 rfl (lv_at hl 1 rfl) ?_
  refine lv_if_eq (tgt := 48) hx hb dX0_negated_41 (by decide) (fun h41 => ?_) (fun h41 => ?_)
  · rw [if_pos h41]
    refine lv_iconst (v := 0) hx hb dX0_negated_48 (by decide) ?_
    exact k_Ar_negated_49 C w (lv_sub hl [1] rfl)
  · rw [if_neg h41]
    refine lv_iconst (v := 1) hx hb dX0_negated_44 (by decide) ?_
    refine lv_goto (tgt := 49) hx hb dX0_negated_45 (by decide) ?_
    exact k_Ar_negated_49 C w (lv_sub hl [1] rfl)
def F_Ar_negated_32 (x2 : Int32) (y1 : Int32) (y2 : Int32) (mu : Mu) : Int32 × Mu := F_Ar_negated_35 x2 (F_Fl_tell y1 y2 mu)
set_option maxHeartbeats 4000000 in
set_option maxRecDepth 100000 in
theorem k_Ar_negated_32 (C : Cx cX0_negated 3 (some .int) wsX0_negated RX0 A D cA tb p s m args meth c) {mu nu : Mu} {x2 : Int32} {y1 : Int32} {y2 : Int32} {H : Heap} {locs : List Loc} {ls : Array Slot} (w : Wd A D cA ad s mu nu H locs) (hl : lv_has ls 3 [(0, .ref (ad 11)), (2, .int x2)]) : W p l e { frames := 2, cells := 0, slots := 0, locals := 43 } s m args below meth c H locs 0 0 (QI A D cA ad below args s (F_Ar_negated_32 x2 y1 y2 mu).1 (F_Ar_negated_32 x2 y1 y2 mu).2 nu) (F0 m 32 ls [.int y2, .int y1, .ref (ad 10)]) := by
  have hx := C.1
  have hb := C.2.1
  have hts := C.2.2.2.2.2.1
  have hown := C.2.2.2.2.1
  unfold F_Ar_negated_32
  refine kcV (k := 10) (ci := 2) (As := [.int y1, .int y2]) (rest := []) C w rfl rfl (c_Fl_tell l A D cA tb ad mu nu y1 y2) (cwV 2 hts gX0_negated_X2_tell rfl rfl rfl (by decide +kernel) ⟨Nat.le_of_ble_eq_true rfl, Nat.le_of_ble_eq_true rfl⟩) rfl rfl hl.1 (Nat.le_of_ble_eq_true rfl) dX0_negated_32 (fun H locs w => ?_)
  exact k_Ar_negated_35 C w (lv_sub hl [0, 1] rfl)
def F_Ar_negated_15 (x2 : Int32) (mu : Mu) : Int32 × Mu := (if x2 = (128 : Int32) then F_Ar_negated_32 x2 2 1 mu else F_Ar_negated_32 x2 2 0 mu)
set_option maxHeartbeats 4000000 in
set_option maxRecDepth 100000 in
theorem k_Ar_negated_15 (C : Cx cX0_negated 3 (some .int) wsX0_negated RX0 A D cA tb p s m args meth c) {mu nu : Mu} {x2 : Int32} {H : Heap} {locs : List Loc} {ls : Array Slot} (w : Wd A D cA ad s mu nu H locs) (hl : lv_has ls 3 [(0, .ref (ad 11)), (2, .int x2)]) : W p l e { frames := 2, cells := 0, slots := 0, locals := 43 } s m args below meth c H locs 0 0 (QI A D cA ad below args s (F_Ar_negated_15 x2 mu).1 (F_Ar_negated_15 x2 mu).2 nu) (F0 m 15 ls []) := by
  have hx := C.1
  have hb := C.2.1
  have hts := C.2.2.2.2.2.1
  have hown := C.2.2.2.2.1
  unfold F_Ar_negated_15
  refine lv_aload_n hx hb dX0_negated_15 rfl (lv_at hl 0 rfl) ?_
  refine gt_11_0 C (fun _ h => List.mem_cons_of_mem _ (List.mem_append_left _ (List.mem_append_right _ h))) (hts _ (List.mem_of_getElem? (i := 1) rfl)) w dX0_negated_16 ?_
  refine lv_iconst (v := 2) hx hb dX0_negated_19 (by decide) ?_
  refine lv_iload_n hx hb dX0_negated_20 rfl (lv_at hl 1 rfl) ?_
  refine lv_sipush (v := 128) hx hb dX0_negated_21 (by decide) ?_
  refine lv_icmp_ne (tgt := 31) hx hb dX0_negated_24 (by decide) (fun h24 => ?_) (fun h24 => ?_)
  · rw [if_neg h24]
    refine lv_iconst (v := 0) hx hb dX0_negated_31 (by decide) ?_
    exact k_Ar_negated_32 C w (lv_sub hl [0, 1] rfl)
  · rw [if_pos h24]
    refine lv_iconst (v := 1) hx hb dX0_negated_27 (by decide) ?_
    refine lv_goto (tgt := 32) hx hb dX0_negated_28 (by decide) ?_
    exact k_Ar_negated_32 C w (lv_sub hl [0, 1] rfl)
def F_Ar_negated (x1 : Int32) (mu : Mu) : Int32 × Mu := F_Ar_negated_15 ((-x1) &&& 255) (F_Fl_tellSignAndZero ((-x1) &&& 255) mu)
set_option maxHeartbeats 4000000 in
set_option maxRecDepth 100000 in
theorem k_Ar_negated (C : Cx cX0_negated 3 (some .int) wsX0_negated RX0 A D cA tb p s m args meth c) {mu nu : Mu} {x1 : Int32} {H : Heap} {locs : List Loc} {ls : Array Slot} (w : Wd A D cA ad s mu nu H locs) (hl : lv_has ls 3 [(0, .ref (ad 11)), (1, .int x1)]) : W p l e { frames := 2, cells := 0, slots := 0, locals := 43 } s m args below meth c H locs 0 0 (QI A D cA ad below args s (F_Ar_negated x1 mu).1 (F_Ar_negated x1 mu).2 nu) (F0 m 0 ls []) := by
  have hx := C.1
  have hb := C.2.1
  have hts := C.2.2.2.2.2.1
  have hown := C.2.2.2.2.1
  unfold F_Ar_negated
  refine lv_iload_n hx hb dX0_negated_0 rfl (lv_at hl 1 rfl) ?_
  refine lv_ineg hx hb dX0_negated_1 ?_
  refine lv_sipush (v := 255) hx hb dX0_negated_2 (by decide) ?_
  refine lv_iand hx hb dX0_negated_5 ?_
  refine lv_istore_n (lv' := [(2, .int (((-x1) &&& 255))), (0, .ref (ad 11)), (1, .int x1)]) hx hb dX0_negated_6 rfl hl (by decide) rfl (fun ls hl => ?_)
  refine lv_aload_n hx hb dX0_negated_7 rfl (lv_at hl 1 rfl) ?_
  refine gt_11_0 C (fun _ h => List.mem_cons_of_mem _ (List.mem_append_left _ (List.mem_append_right _ h))) (hts _ (List.mem_of_getElem? (i := 1) rfl)) w dX0_negated_8 ?_
  refine lv_iload_n hx hb dX0_negated_11 rfl (lv_at hl 0 rfl) ?_
  refine kcV (k := 10) (ci := 2) (As := [.int (((-x1) &&& 255))]) (rest := []) C w rfl rfl (c_Fl_tellSignAndZero l A D cA tb ad mu nu ((-x1) &&& 255)) (cwV 1 hts gX0_negated_X2_tellSignAndZero rfl rfl rfl (by decide +kernel) ⟨Nat.le_of_ble_eq_true rfl, Nat.le_of_ble_eq_true rfl⟩) rfl rfl hl.1 (Nat.le_of_ble_eq_true rfl) dX0_negated_12 (fun H locs w => ?_)
  exact k_Ar_negated_15 C w (lv_sub hl [1, 0] rfl)
set_option maxHeartbeats 4000000 in
set_option maxRecDepth 100000 in
theorem c_Ar_negated (l : Launch) (A : Nat → Prop) (D : va_G) (cA : Nat → ClassId) (tb : Nat) (ad : Nat → Nat) (mu nu : Mu) (x1 : Int32) : Met l yX0_negated wsX0_negated ({ frames := 2, cells := 0, slots := 0, locals := 43 }) (va_Pc [.ref (ad 11), .int x1] (Pw A D cA tb ad mu nu)) (va_Qi (fun (r : Int32) (u : Mu × Mu) => r = (F_Ar_negated x1 mu).1 ∧ u = ((F_Ar_negated x1 mu).2, nu)) (Bw A D cA ad) A) 0 0 A := by
  refine Met.ofW (cc := cX0_negated) (maxL := 3) (ret := (some .int)) (by decide) rfl ?_
  intro p e s m args below meth c s₁ B hml hv
  obtain ⟨rfl, w0⟩ := hv
  have C : Cx cX0_negated 3 (some .int) wsX0_negated RX0 A D cA tb p s m _ meth c := ⟨B.exec, B.bytes, B.returns, hml, findClass_of_methodNamed B.named, atoms_spec (ws := wsX0_negated) B.pre, B.notSynchronized, w0.2.1, w0.2.2.2.1, w0.2.2.2.2⟩
  have hl := lv_entry ([.ref (ad 11), .int x1]) (n := 3) (Nat.le_of_ble_eq_true rfl)
  rw [lg_entry_eq]
  exact k_Ar_negated C w0.wd hl
def F_Ar_changed_95 (x2 : Int32) (mu : Mu) : Int32 × Mu := ((F_Ar_told (x2 ^^^ 255) mu).1, (F_Ar_told (x2 ^^^ 255) mu).2)
set_option maxHeartbeats 4000000 in
set_option maxRecDepth 100000 in
theorem k_Ar_changed_95 (C : Cx cX0_changed 3 (some .int) wsX0_changed RX0 A D cA tb p s m args meth c) {mu nu : Mu} {x2 : Int32} {H : Heap} {locs : List Loc} {ls : Array Slot} (w : Wd A D cA ad s mu nu H locs) (hl : lv_has ls 3 [(0, .ref (ad 11)), (2, .int x2)]) : W p l e { frames := 3, cells := 0, slots := 0, locals := 65 } s m args below meth c H locs 0 0 (QI A D cA ad below args s (F_Ar_changed_95 x2 mu).1 (F_Ar_changed_95 x2 mu).2 nu) (F0 m 95 ls []) := by
  have hx := C.1
  have hb := C.2.1
  have hts := C.2.2.2.2.2.1
  have hown := C.2.2.2.2.1
  unfold F_Ar_changed_95
  refine lv_aload_n hx hb dX0_changed_95 rfl (lv_at hl 0 rfl) ?_
  refine lv_iload_n hx hb dX0_changed_96 rfl (lv_at hl 1 rfl) ?_
  refine lv_sipush (v := 255) hx hb dX0_changed_97 (by decide) ?_
  refine lv_ixor hx hb dX0_changed_100 ?_
  refine kcI (k := 11) (ci := 0) (As := [.int ((x2 ^^^ 255))]) (rest := []) C w rfl rfl (c_Ar_told l A D cA tb ad mu nu (x2 ^^^ 255)) (cwV 1 hts gX0_changed_X0_told rfl rfl rfl (by decide +kernel) ⟨Nat.le_of_ble_eq_true rfl, Nat.le_of_ble_eq_true rfl⟩) rfl rfl hl.1 (Nat.le_of_ble_eq_true rfl) dX0_changed_101 (fun H locs w => ?_)
  exact retI C w dX0_changed_104
def F_Ar_changed_209 (y1 : Int32) (y2 : Int32) (mu : Mu) : Int32 × Mu := ((F_Ar_counted y1 y2 mu).1, (F_Ar_counted y1 y2 mu).2)
set_option maxHeartbeats 4000000 in
set_option maxRecDepth 100000 in
theorem k_Ar_changed_209 (C : Cx cX0_changed 3 (some .int) wsX0_changed RX0 A D cA tb p s m args meth c) {mu nu : Mu} {y1 : Int32} {y2 : Int32} {H : Heap} {locs : List Loc} {ls : Array Slot} (w : Wd A D cA ad s mu nu H locs) (hl : lv_has ls 3 []) : W p l e { frames := 3, cells := 0, slots := 0, locals := 65 } s m args below meth c H locs 0 0 (QI A D cA ad below args s (F_Ar_changed_209 y1 y2 mu).1 (F_Ar_changed_209 y1 y2 mu).2 nu) (F0 m 209 ls [.int y2, .int y1, .ref (ad 11)]) := by
  have hx := C.1
  have hb := C.2.1
  have hts := C.2.2.2.2.2.1
  have hown := C.2.2.2.2.1
  unfold F_Ar_changed_209
  refine kcI (k := 11) (ci := 0) (As := [.int y1, .int y2]) (rest := []) C w rfl rfl (c_Ar_counted l A D cA tb ad mu nu y1 y2) (cwV 2 hts gX0_changed_X0_counted rfl rfl rfl (by decide +kernel) ⟨Nat.le_of_ble_eq_true rfl, Nat.le_of_ble_eq_true rfl⟩) rfl rfl hl.1 (Nat.le_of_ble_eq_true rfl) dX0_changed_209 (fun H locs w => ?_)
  exact retI C w dX0_changed_212
def F_Ar_changed_232 (y1 : Int32) (y2 : Int32) (mu : Mu) : Int32 × Mu := ((F_Ar_counted y1 y2 mu).1, (F_Ar_counted y1 y2 mu).2)
set_option maxHeartbeats 4000000 in
set_option maxRecDepth 100000 in
theorem k_Ar_changed_232 (C : Cx cX0_changed 3 (some .int) wsX0_changed RX0 A D cA tb p s m args meth c) {mu nu : Mu} {y1 : Int32} {y2 : Int32} {H : Heap} {locs : List Loc} {ls : Array Slot} (w : Wd A D cA ad s mu nu H locs) (hl : lv_has ls 3 []) : W p l e { frames := 3, cells := 0, slots := 0, locals := 65 } s m args below meth c H locs 0 0 (QI A D cA ad below args s (F_Ar_changed_232 y1 y2 mu).1 (F_Ar_changed_232 y1 y2 mu).2 nu) (F0 m 232 ls [.int y2, .int y1, .ref (ad 11)]) := by
  have hx := C.1
  have hb := C.2.1
  have hts := C.2.2.2.2.2.1
  have hown := C.2.2.2.2.1
  unfold F_Ar_changed_232
  refine kcI (k := 11) (ci := 0) (As := [.int y1, .int y2]) (rest := []) C w rfl rfl (c_Ar_counted l A D cA tb ad mu nu y1 y2) (cwV 2 hts gX0_changed_X0_counted rfl rfl rfl (by decide +kernel) ⟨Nat.le_of_ble_eq_true rfl, Nat.le_of_ble_eq_true rfl⟩) rfl rfl hl.1 (Nat.le_of_ble_eq_true rfl) dX0_changed_232 (fun H locs w => ?_)
  exact retI C w dX0_changed_235
def F_Ar_changed_245 (x2 : Int32) (mu : Mu) : Int32 × Mu := ((F_Ar_told x2 mu).1, (F_Ar_told x2 mu).2)
set_option maxHeartbeats 4000000 in
set_option maxRecDepth 100000 in
theorem k_Ar_changed_245 (C : Cx cX0_changed 3 (some .int) wsX0_changed RX0 A D cA tb p s m args meth c) {mu nu : Mu} {x2 : Int32} {H : Heap} {locs : List Loc} {ls : Array Slot} (w : Wd A D cA ad s mu nu H locs) (hl : lv_has ls 3 [(0, .ref (ad 11)), (2, .int x2)]) : W p l e { frames := 3, cells := 0, slots := 0, locals := 65 } s m args below meth c H locs 0 0 (QI A D cA ad below args s (F_Ar_changed_245 x2 mu).1 (F_Ar_changed_245 x2 mu).2 nu) (F0 m 245 ls []) := by
  have hx := C.1
  have hb := C.2.1
  have hts := C.2.2.2.2.2.1
  have hown := C.2.2.2.2.1
  unfold F_Ar_changed_245
  refine lv_aload_n hx hb dX0_changed_245 rfl (lv_at hl 0 rfl) ?_
  refine lv_iload_n hx hb dX0_changed_246 rfl (lv_at hl 1 rfl) ?_
  refine kcI (k := 11) (ci := 0) (As := [.int x2]) (rest := []) C w rfl rfl (c_Ar_told l A D cA tb ad mu nu x2) (cwV 1 hts gX0_changed_X0_told rfl rfl rfl (by decide +kernel) ⟨Nat.le_of_ble_eq_true rfl, Nat.le_of_ble_eq_true rfl⟩) rfl rfl hl.1 (Nat.le_of_ble_eq_true rfl) dX0_changed_247 (fun H locs w => ?_)
  exact retI C w dX0_changed_250
def F_Ar_changed_260 (mu : Mu) : Int32 × Mu := ((F_Ar_told 0 mu).1, (F_Ar_told 0 mu).2)
set_option maxHeartbeats 4000000 in
set_option maxRecDepth 100000 in
theorem k_Ar_changed_260 (C : Cx cX0_changed 3 (some .int) wsX0_changed RX0 A D cA tb p s m args meth c) {mu nu : Mu} {H : Heap} {locs : List Loc} {ls : Array Slot} (w : Wd A D cA ad s mu nu H locs) (hl : lv_has ls 3 [(0, .ref (ad 11))]) : W p l e { frames := 3, cells := 0, slots := 0, locals := 65 } s m args below meth c H locs 0 0 (QI A D cA ad below args s (F_Ar_changed_260 mu).1 (F_Ar_changed_260 mu).2 nu) (F0 m 260 ls []) := by
  have hx := C.1
  have hb := C.2.1
  have hts := C.2.2.2.2.2.1
  have hown := C.2.2.2.2.1
  unfold F_Ar_changed_260
  refine lv_aload_n hx hb dX0_changed_260 rfl (lv_at hl 0 rfl) ?_
  refine lv_iconst (v := 0) hx hb dX0_changed_261 (by decide) ?_
  refine kcI (k := 11) (ci := 0) (As := [.int 0]) (rest := []) C w rfl rfl (c_Ar_told l A D cA tb ad mu nu 0) (cwV 1 hts gX0_changed_X0_told rfl rfl rfl (by decide +kernel) ⟨Nat.le_of_ble_eq_true rfl, Nat.le_of_ble_eq_true rfl⟩) rfl rfl hl.1 (Nat.le_of_ble_eq_true rfl) dX0_changed_262 (fun H locs w => ?_)
  exact retI C w dX0_changed_265
def F_Ar_changed (x1 : Int32) (x2 : Int32) (mu : Mu) : Int32 × Mu := (if x1 = 0 then ((F_Ar_negated x2 mu).1, (F_Ar_negated x2 mu).2) else (if x1 = 1 then (x2, mu) else (if x1 = 2 then (x2, mu) else (if x1 = 3 then F_Ar_changed_95 x2 (F_Fl_tell 1 1 mu) else (if x1 = 4 then ((F_Ar_shifted (x2 >>> (1 &&& 31)) (x2 &&& 1) mu).1, (F_Ar_shifted (x2 >>> (1 &&& 31)) (x2 &&& 1) mu).2) else (if x1 = 5 then (x2, mu) else (if x1 = 6 then ((F_Ar_shifted ((x2 >>> (1 &&& 31)) ||| ((F_Ar_carry mu) <<< (7 &&& 31))) (x2 &&& 1) mu).1, (F_Ar_shifted ((x2 >>> (1 &&& 31)) ||| ((F_Ar_carry mu) <<< (7 &&& 31))) (x2 &&& 1) mu).2) else (if x1 = 7 then ((F_Ar_shifted ((x2 >>> (1 &&& 31)) ||| (x2 &&& 128)) (x2 &&& 1) mu).1, (F_Ar_shifted ((x2 >>> (1 &&& 31)) ||| (x2 &&& 128)) (x2 &&& 1) mu).2) else (if x1 = 8 then ((F_Ar_shifted ((x2 <<< (1 &&& 31)) &&& 255) (x2 >>> (7 &&& 31)) mu).1, (F_Ar_shifted ((x2 <<< (1 &&& 31)) &&& 255) (x2 >>> (7 &&& 31)) mu).2) else (if x1 = 9 then ((F_Ar_shifted (((x2 <<< (1 &&& 31)) &&& 255) ||| (F_Ar_carry mu)) (x2 >>> (7 &&& 31)) mu).1, (F_Ar_shifted (((x2 <<< (1 &&& 31)) &&& 255) ||| (F_Ar_carry mu)) (x2 >>> (7 &&& 31)) mu).2) else (if x1 = 10 then (if x2 = (128 : Int32) then F_Ar_changed_209 ((x2 - 1) &&& 255) 1 mu else F_Ar_changed_209 ((x2 - 1) &&& 255) 0 mu) else (if x1 = 11 then (x2, mu) else (if x1 = 12 then (if x2 = (127 : Int32) then F_Ar_changed_232 ((x2 + 1) &&& 255) 1 mu else F_Ar_changed_232 ((x2 + 1) &&& 255) 0 mu) else (if x1 = 13 then F_Ar_changed_245 x2 (F_Fl_tell 1 0 mu) else (if x1 = 14 then (x2, mu) else (if x1 = 15 then F_Ar_changed_260 (F_Fl_tell 1 0 mu) else (x2, mu)))))))))))))))))
set_option maxHeartbeats 4000000 in
set_option maxRecDepth 100000 in
theorem k_Ar_changed (C : Cx cX0_changed 3 (some .int) wsX0_changed RX0 A D cA tb p s m args meth c) {mu nu : Mu} {x1 : Int32} {x2 : Int32} {H : Heap} {locs : List Loc} {ls : Array Slot} (w : Wd A D cA ad s mu nu H locs) (hl : lv_has ls 3 [(0, .ref (ad 11)), (1, .int x1), (2, .int x2)]) : W p l e { frames := 3, cells := 0, slots := 0, locals := 65 } s m args below meth c H locs 0 0 (QI A D cA ad below args s (F_Ar_changed x1 x2 mu).1 (F_Ar_changed x1 x2 mu).2 nu) (F0 m 0 ls []) := by
  have hx := C.1
  have hb := C.2.1
  have hts := C.2.2.2.2.2.1
  have hown := C.2.2.2.2.1
  unfold F_Ar_changed
  refine lv_iload_n hx hb dX0_changed_0 rfl (lv_at hl 1 rfl) ?_
  by_cases h1_0 : x1 = (0 : Int32)
  · rw [if_pos h1_0]
    refine lv_tableIn (off := 79) (tgt := 80) hx hb dX0_changed_1 (by rw [h1_0]; decide) (by rw [h1_0]; decide) (by rw [h1_0]; decide) (by decide) ?_
    refine lv_aload_n hx hb dX0_changed_80 rfl (lv_at hl 0 rfl) ?_
    refine lv_iload_n hx hb dX0_changed_81 rfl (lv_at hl 2 rfl) ?_
    refine kcI (k := 11) (ci := 0) (As := [.int x2]) (rest := []) C w rfl rfl (c_Ar_negated l A D cA tb ad mu nu x2) (cwV 1 hts gX0_changed_X0_negated rfl rfl rfl (by decide +kernel) ⟨Nat.le_of_ble_eq_true rfl, Nat.le_of_ble_eq_true rfl⟩) rfl rfl hl.1 (Nat.le_of_ble_eq_true rfl) dX0_changed_82 (fun H locs w => ?_)
    exact retI C w dX0_changed_85
  · rw [if_neg h1_0]
    by_cases h1_1 : x1 = (1 : Int32)
    · rw [if_pos h1_1]
      refine lv_tableIn (off := 265) (tgt := 266) hx hb dX0_changed_1 (by rw [h1_1]; decide) (by rw [h1_1]; decide) (by rw [h1_1]; decide) (by decide) ?_
      refine lv_iload_n hx hb dX0_changed_266 rfl (lv_at hl 2 rfl) ?_
      exact retI C w dX0_changed_267
    · rw [if_neg h1_1]
      by_cases h1_2 : x1 = (2 : Int32)
      · rw [if_pos h1_2]
        refine lv_tableIn (off := 265) (tgt := 266) hx hb dX0_changed_1 (by rw [h1_2]; decide) (by rw [h1_2]; decide) (by rw [h1_2]; decide) (by decide) ?_
        refine lv_iload_n hx hb dX0_changed_266 rfl (lv_at hl 2 rfl) ?_
        exact retI C w dX0_changed_267
      · rw [if_neg h1_2]
        by_cases h1_3 : x1 = (3 : Int32)
        · rw [if_pos h1_3]
          refine lv_tableIn (off := 85) (tgt := 86) hx hb dX0_changed_1 (by rw [h1_3]; decide) (by rw [h1_3]; decide) (by rw [h1_3]; decide) (by decide) ?_
          refine lv_aload_n hx hb dX0_changed_86 rfl (lv_at hl 0 rfl) ?_
          refine gt_11_0 C (fun _ h => List.mem_cons_of_mem _ (List.mem_append_left _ (List.mem_append_right _ h))) (hts _ (List.mem_of_getElem? (i := 1) rfl)) w dX0_changed_87 ?_
          refine lv_iconst (v := 1) hx hb dX0_changed_90 (by decide) ?_
          refine lv_iconst (v := 1) hx hb dX0_changed_91 (by decide) ?_
          refine kcV (k := 10) (ci := 2) (As := [.int 1, .int 1]) (rest := []) C w rfl rfl (c_Fl_tell l A D cA tb ad mu nu 1 1) (cwV 2 hts gX0_changed_X2_tell rfl rfl rfl (by decide +kernel) ⟨Nat.le_of_ble_eq_true rfl, Nat.le_of_ble_eq_true rfl⟩) rfl rfl hl.1 (Nat.le_of_ble_eq_true rfl) dX0_changed_92 (fun H locs w => ?_)
          exact k_Ar_changed_95 C w (lv_sub hl [0, 2] rfl)
        · rw [if_neg h1_3]
          by_cases h1_4 : x1 = (4 : Int32)
          · rw [if_pos h1_4]
            refine lv_tableIn (off := 104) (tgt := 105) hx hb dX0_changed_1 (by rw [h1_4]; decide) (by rw [h1_4]; decide) (by rw [h1_4]; decide) (by decide) ?_
            refine lv_aload_n hx hb dX0_changed_105 rfl (lv_at hl 0 rfl) ?_
            refine lv_iload_n hx hb dX0_changed_106 rfl (lv_at hl 2 rfl) ?_
            refine lv_iconst (v := 1) hx hb dX0_changed_107 (by decide) ?_
            refine lv_ishr hx hb dX0_changed_108 ?_
            refine lv_iload_n hx hb dX0_changed_109 rfl (lv_at hl 2 rfl) ?_
            refine lv_iconst (v := 1) hx hb dX0_changed_110 (by decide) ?_
            refine lv_iand hx hb dX0_changed_111 ?_
            refine kcI (k := 11) (ci := 0) (As := [.int ((x2 >>> (1 &&& 31))), .int ((x2 &&& 1))]) (rest := []) C w rfl rfl (c_Ar_shifted l A D cA tb ad mu nu (x2 >>> (1 &&& 31)) (x2 &&& 1)) (cwV 2 hts gX0_changed_X0_shifted rfl rfl rfl (by decide +kernel) ⟨Nat.le_of_ble_eq_true rfl, Nat.le_of_ble_eq_true rfl⟩) rfl rfl hl.1 (Nat.le_of_ble_eq_true rfl) dX0_changed_112 (fun H locs w => ?_)
            exact retI C w dX0_changed_115
          · rw [if_neg h1_4]
            by_cases h1_5 : x1 = (5 : Int32)
            · rw [if_pos h1_5]
              refine lv_tableIn (off := 265) (tgt := 266) hx hb dX0_changed_1 (by rw [h1_5]; decide) (by rw [h1_5]; decide) (by rw [h1_5]; decide) (by decide) ?_
              refine lv_iload_n hx hb dX0_changed_266 rfl (lv_at hl 2 rfl) ?_
              exact retI C w dX0_changed_267
            · rw [if_neg h1_5]
              by_cases h1_6 : x1 = (6 : Int32)
              · rw [if_pos h1_6]
                refine lv_tableIn (off := 115) (tgt := 116) hx hb dX0_changed_1 (by rw [h1_6]; decide) (by rw [h1_6]; decide) (by rw [h1_6]; decide) (by decide) ?_
                refine lv_aload_n hx hb dX0_changed_116 rfl (lv_at hl 0 rfl) ?_
                refine lv_iload_n hx hb dX0_changed_117 rfl (lv_at hl 2 rfl) ?_
                refine lv_iconst (v := 1) hx hb dX0_changed_118 (by decide) ?_
                refine lv_ishr hx hb dX0_changed_119 ?_
                refine lv_aload_n hx hb dX0_changed_120 rfl (lv_at hl 0 rfl) ?_
                refine kcI (k := 11) (ci := 0) (As := []) (rest := [.int ((x2 >>> (1 &&& 31))), .ref (ad 11)]) C w rfl rfl (c_Ar_carry l A D cA tb ad mu nu) (cwV 0 hts gX0_changed_X0_carry rfl rfl rfl (by decide +kernel) ⟨Nat.le_of_ble_eq_true rfl, Nat.le_of_ble_eq_true rfl⟩) rfl rfl hl.1 (Nat.le_of_ble_eq_true rfl) dX0_changed_121 (fun H locs w => ?_)
                refine lv_bipush (v := 7) hx hb dX0_changed_124 (by decide) ?_
                refine lv_ishl hx hb dX0_changed_126 ?_
                refine lv_ior hx hb dX0_changed_127 ?_
                refine lv_iload_n hx hb dX0_changed_128 rfl (lv_at hl 2 rfl) ?_
                refine lv_iconst (v := 1) hx hb dX0_changed_129 (by decide) ?_
                refine lv_iand hx hb dX0_changed_130 ?_
                refine kcI (k := 11) (ci := 0) (As := [.int (((x2 >>> (1 &&& 31)) ||| ((F_Ar_carry mu) <<< (7 &&& 31)))), .int ((x2 &&& 1))]) (rest := []) C w rfl rfl (c_Ar_shifted l A D cA tb ad mu nu ((x2 >>> (1 &&& 31)) ||| ((F_Ar_carry mu) <<< (7 &&& 31))) (x2 &&& 1)) (cwV 2 hts gX0_changed_X0_shifted rfl rfl rfl (by decide +kernel) ⟨Nat.le_of_ble_eq_true rfl, Nat.le_of_ble_eq_true rfl⟩) rfl rfl hl.1 (Nat.le_of_ble_eq_true rfl) dX0_changed_131 (fun H locs w => ?_)
                exact retI C w dX0_changed_134
              · rw [if_neg h1_6]
                by_cases h1_7 : x1 = (7 : Int32)
                · rw [if_pos h1_7]
                  refine lv_tableIn (off := 134) (tgt := 135) hx hb dX0_changed_1 (by rw [h1_7]; decide) (by rw [h1_7]; decide) (by rw [h1_7]; decide) (by decide) ?_
                  refine lv_aload_n hx hb dX0_changed_135 rfl (lv_at hl 0 rfl) ?_
                  refine lv_iload_n hx hb dX0_changed_136 rfl (lv_at hl 2 rfl) ?_
                  refine lv_iconst (v := 1) hx hb dX0_changed_137 (by decide) ?_
                  refine lv_ishr hx hb dX0_changed_138 ?_
                  refine lv_iload_n hx hb dX0_changed_139 rfl (lv_at hl 2 rfl) ?_
                  refine lv_sipush (v := 128) hx hb dX0_changed_140 (by decide) ?_
                  refine lv_iand hx hb dX0_changed_143 ?_
                  refine lv_ior hx hb dX0_changed_144 ?_
                  refine lv_iload_n hx hb dX0_changed_145 rfl (lv_at hl 2 rfl) ?_
                  refine lv_iconst (v := 1) hx hb dX0_changed_146 (by decide) ?_
                  refine lv_iand hx hb dX0_changed_147 ?_
                  refine kcI (k := 11) (ci := 0) (As := [.int (((x2 >>> (1 &&& 31)) ||| (x2 &&& 128))), .int ((x2 &&& 1))]) (rest := []) C w rfl rfl (c_Ar_shifted l A D cA tb ad mu nu ((x2 >>> (1 &&& 31)) ||| (x2 &&& 128)) (x2 &&& 1)) (cwV 2 hts gX0_changed_X0_shifted rfl rfl rfl (by decide +kernel) ⟨Nat.le_of_ble_eq_true rfl, Nat.le_of_ble_eq_true rfl⟩) rfl rfl hl.1 (Nat.le_of_ble_eq_true rfl) dX0_changed_148 (fun H locs w => ?_)
                  exact retI C w dX0_changed_151
                · rw [if_neg h1_7]
                  by_cases h1_8 : x1 = (8 : Int32)
                  · rw [if_pos h1_8]
                    refine lv_tableIn (off := 151) (tgt := 152) hx hb dX0_changed_1 (by rw [h1_8]; decide) (by rw [h1_8]; decide) (by rw [h1_8]; decide) (by decide) ?_
                    refine lv_aload_n hx hb dX0_changed_152 rfl (lv_at hl 0 rfl) ?_
                    refine lv_iload_n hx hb dX0_changed_153 rfl (lv_at hl 2 rfl) ?_
                    refine lv_iconst (v := 1) hx hb dX0_changed_154 (by decide) ?_
                    refine lv_ishl hx hb dX0_changed_155 ?_
                    refine lv_sipush (v := 255) hx hb dX0_changed_156 (by decide) ?_
                    refine lv_iand hx hb dX0_changed_159 ?_
                    refine lv_iload_n hx hb dX0_changed_160 rfl (lv_at hl 2 rfl) ?_
                    refine lv_bipush (v := 7) hx hb dX0_changed_161 (by decide) ?_
                    refine lv_ishr hx hb dX0_changed_163 ?_
                    refine kcI (k := 11) (ci := 0) (As := [.int (((x2 <<< (1 &&& 31)) &&& 255)), .int ((x2 >>> (7 &&& 31)))]) (rest := []) C w rfl rfl (c_Ar_shifted l A D cA tb ad mu nu ((x2 <<< (1 &&& 31)) &&& 255) (x2 >>> (7 &&& 31))) (cwV 2 hts gX0_changed_X0_shifted rfl rfl rfl (by decide +kernel) ⟨Nat.le_of_ble_eq_true rfl, Nat.le_of_ble_eq_true rfl⟩) rfl rfl hl.1 (Nat.le_of_ble_eq_true rfl) dX0_changed_164 (fun H locs w => ?_)
                    exact retI C w dX0_changed_167
                  · rw [if_neg h1_8]
                    by_cases h1_9 : x1 = (9 : Int32)
                    · rw [if_pos h1_9]
                      refine lv_tableIn (off := 167) (tgt := 168) hx hb dX0_changed_1 (by rw [h1_9]; decide) (by rw [h1_9]; decide) (by rw [h1_9]; decide) (by decide) ?_
                      refine lv_aload_n hx hb dX0_changed_168 rfl (lv_at hl 0 rfl) ?_
                      refine lv_iload_n hx hb dX0_changed_169 rfl (lv_at hl 2 rfl) ?_
                      refine lv_iconst (v := 1) hx hb dX0_changed_170 (by decide) ?_
                      refine lv_ishl hx hb dX0_changed_171 ?_
                      refine lv_sipush (v := 255) hx hb dX0_changed_172 (by decide) ?_
                      refine lv_iand hx hb dX0_changed_175 ?_
                      refine lv_aload_n hx hb dX0_changed_176 rfl (lv_at hl 0 rfl) ?_
                      refine kcI (k := 11) (ci := 0) (As := []) (rest := [.int (((x2 <<< (1 &&& 31)) &&& 255)), .ref (ad 11)]) C w rfl rfl (c_Ar_carry l A D cA tb ad mu nu) (cwV 0 hts gX0_changed_X0_carry rfl rfl rfl (by decide +kernel) ⟨Nat.le_of_ble_eq_true rfl, Nat.le_of_ble_eq_true rfl⟩) rfl rfl hl.1 (Nat.le_of_ble_eq_true rfl) dX0_changed_177 (fun H locs w => ?_)
                      refine lv_ior hx hb dX0_changed_180 ?_
                      refine lv_iload_n hx hb dX0_changed_181 rfl (lv_at hl 2 rfl) ?_
                      refine lv_bipush (v := 7) hx hb dX0_changed_182 (by decide) ?_
                      refine lv_ishr hx hb dX0_changed_184 ?_
                      refine kcI (k := 11) (ci := 0) (As := [.int ((((x2 <<< (1 &&& 31)) &&& 255) ||| (F_Ar_carry mu))), .int ((x2 >>> (7 &&& 31)))]) (rest := []) C w rfl rfl (c_Ar_shifted l A D cA tb ad mu nu (((x2 <<< (1 &&& 31)) &&& 255) ||| (F_Ar_carry mu)) (x2 >>> (7 &&& 31))) (cwV 2 hts gX0_changed_X0_shifted rfl rfl rfl (by decide +kernel) ⟨Nat.le_of_ble_eq_true rfl, Nat.le_of_ble_eq_true rfl⟩) rfl rfl hl.1 (Nat.le_of_ble_eq_true rfl) dX0_changed_185 (fun H locs w => ?_)
                      exact retI C w dX0_changed_188
                    · rw [if_neg h1_9]
                      by_cases h1_10 : x1 = (10 : Int32)
                      · rw [if_pos h1_10]
                        refine lv_tableIn (off := 188) (tgt := 189) hx hb dX0_changed_1 (by rw [h1_10]; decide) (by rw [h1_10]; decide) (by rw [h1_10]; decide) (by decide) ?_
                        refine lv_aload_n hx hb dX0_changed_189 rfl (lv_at hl 0 rfl) ?_
                        refine lv_iload_n hx hb dX0_changed_190 rfl (lv_at hl 2 rfl) ?_
                        refine lv_iconst (v := 1) hx hb dX0_changed_191 (by decide) ?_
                        refine lv_isub hx hb dX0_changed_192 ?_
                        refine lv_sipush (v := 255) hx hb dX0_changed_193 (by decide) ?_
                        refine lv_iand hx hb dX0_changed_196 ?_
                        refine lv_iload_n hx hb dX0_changed_197 rfl (lv_at hl 2 rfl) ?_
                        refine lv_sipush (v := 128) hx hb dX0_changed_198 (by decide) ?_
                        refine lv_icmp_ne (tgt := 208) hx hb dX0_changed_201 (by decide) (fun h201 => ?_) (fun h201 => ?_)
                        · rw [if_neg h201]
                          refine lv_iconst (v := 0) hx hb dX0_changed_208 (by decide) ?_
                          exact k_Ar_changed_209 C w (lv_sub hl [] rfl)
                        · rw [if_pos h201]
                          refine lv_iconst (v := 1) hx hb dX0_changed_204 (by decide) ?_
                          refine lv_goto (tgt := 209) hx hb dX0_changed_205 (by decide) ?_
                          exact k_Ar_changed_209 C w (lv_sub hl [] rfl)
                      · rw [if_neg h1_10]
                        by_cases h1_11 : x1 = (11 : Int32)
                        · rw [if_pos h1_11]
                          refine lv_tableIn (off := 265) (tgt := 266) hx hb dX0_changed_1 (by rw [h1_11]; decide) (by rw [h1_11]; decide) (by rw [h1_11]; decide) (by decide) ?_
                          refine lv_iload_n hx hb dX0_changed_266 rfl (lv_at hl 2 rfl) ?_
                          exact retI C w dX0_changed_267
                        · rw [if_neg h1_11]
                          by_cases h1_12 : x1 = (12 : Int32)
                          · rw [if_pos h1_12]
                            refine lv_tableIn (off := 212) (tgt := 213) hx hb dX0_changed_1 (by rw [h1_12]; decide) (by rw [h1_12]; decide) (by rw [h1_12]; decide) (by decide) ?_
                            refine lv_aload_n hx hb dX0_changed_213 rfl (lv_at hl 0 rfl) ?_
                            refine lv_iload_n hx hb dX0_changed_214 rfl (lv_at hl 2 rfl) ?_
                            refine lv_iconst (v := 1) hx hb dX0_changed_215 (by decide) ?_
                            refine lv_iadd hx hb dX0_changed_216 ?_
                            refine lv_sipush (v := 255) hx hb dX0_changed_217 (by decide) ?_
                            refine lv_iand hx hb dX0_changed_220 ?_
                            refine lv_iload_n hx hb dX0_changed_221 rfl (lv_at hl 2 rfl) ?_
                            refine lv_bipush (v := 127) hx hb dX0_changed_222 (by decide) ?_
                            refine lv_icmp_ne (tgt := 231) hx hb dX0_changed_224 (by decide) (fun h224 => ?_) (fun h224 => ?_)
                            · rw [if_neg h224]
                              refine lv_iconst (v := 0) hx hb dX0_changed_231 (by decide) ?_
                              exact k_Ar_changed_232 C w (lv_sub hl [] rfl)
                            · rw [if_pos h224]
                              refine lv_iconst (v := 1) hx hb dX0_changed_227 (by decide) ?_
                              refine lv_goto (tgt := 232) hx hb dX0_changed_228 (by decide) ?_
                              exact k_Ar_changed_232 C w (lv_sub hl [] rfl)
                          · rw [if_neg h1_12]
                            by_cases h1_13 : x1 = (13 : Int32)
                            · rw [if_pos h1_13]
                              refine lv_tableIn (off := 235) (tgt := 236) hx hb dX0_changed_1 (by rw [h1_13]; decide) (by rw [h1_13]; decide) (by rw [h1_13]; decide) (by decide) ?_
                              refine lv_aload_n hx hb dX0_changed_236 rfl (lv_at hl 0 rfl) ?_
                              refine gt_11_0 C (fun _ h => List.mem_cons_of_mem _ (List.mem_append_left _ (List.mem_append_right _ h))) (hts _ (List.mem_of_getElem? (i := 1) rfl)) w dX0_changed_237 ?_
                              refine lv_iconst (v := 1) hx hb dX0_changed_240 (by decide) ?_
                              refine lv_iconst (v := 0) hx hb dX0_changed_241 (by decide) ?_
                              refine kcV (k := 10) (ci := 2) (As := [.int 1, .int 0]) (rest := []) C w rfl rfl (c_Fl_tell l A D cA tb ad mu nu 1 0) (cwV 2 hts gX0_changed_X2_tell rfl rfl rfl (by decide +kernel) ⟨Nat.le_of_ble_eq_true rfl, Nat.le_of_ble_eq_true rfl⟩) rfl rfl hl.1 (Nat.le_of_ble_eq_true rfl) dX0_changed_242 (fun H locs w => ?_)
                              exact k_Ar_changed_245 C w (lv_sub hl [0, 2] rfl)
                            · rw [if_neg h1_13]
                              by_cases h1_14 : x1 = (14 : Int32)
                              · rw [if_pos h1_14]
                                refine lv_tableIn (off := 265) (tgt := 266) hx hb dX0_changed_1 (by rw [h1_14]; decide) (by rw [h1_14]; decide) (by rw [h1_14]; decide) (by decide) ?_
                                refine lv_iload_n hx hb dX0_changed_266 rfl (lv_at hl 2 rfl) ?_
                                exact retI C w dX0_changed_267
                              · rw [if_neg h1_14]
                                by_cases h1_15 : x1 = (15 : Int32)
                                · rw [if_pos h1_15]
                                  refine lv_tableIn (off := 250) (tgt := 251) hx hb dX0_changed_1 (by rw [h1_15]; decide) (by rw [h1_15]; decide) (by rw [h1_15]; decide) (by decide) ?_
                                  refine lv_aload_n hx hb dX0_changed_251 rfl (lv_at hl 0 rfl) ?_
                                  refine gt_11_0 C (fun _ h => List.mem_cons_of_mem _ (List.mem_append_left _ (List.mem_append_right _ h))) (hts _ (List.mem_of_getElem? (i := 1) rfl)) w dX0_changed_252 ?_
                                  refine lv_iconst (v := 1) hx hb dX0_changed_255 (by decide) ?_
                                  refine lv_iconst (v := 0) hx hb dX0_changed_256 (by decide) ?_
                                  refine kcV (k := 10) (ci := 2) (As := [.int 1, .int 0]) (rest := []) C w rfl rfl (c_Fl_tell l A D cA tb ad mu nu 1 0) (cwV 2 hts gX0_changed_X2_tell rfl rfl rfl (by decide +kernel) ⟨Nat.le_of_ble_eq_true rfl, Nat.le_of_ble_eq_true rfl⟩) rfl rfl hl.1 (Nat.le_of_ble_eq_true rfl) dX0_changed_257 (fun H locs w => ?_)
                                  exact k_Ar_changed_260 C w (lv_sub hl [0] rfl)
                                · rw [if_neg h1_15]
                                  refine lv_tableOut (tgt := 266) hx hb dX0_changed_1 (by have := lv_neT h1_0 (a := 0) rfl; have := lv_neT h1_1 (a := 1) rfl; have := lv_neT h1_2 (a := 2) rfl; have := lv_neT h1_3 (a := 3) rfl; have := lv_neT h1_4 (a := 4) rfl; have := lv_neT h1_5 (a := 5) rfl; have := lv_neT h1_6 (a := 6) rfl; have := lv_neT h1_7 (a := 7) rfl; have := lv_neT h1_8 (a := 8) rfl; have := lv_neT h1_9 (a := 9) rfl; have := lv_neT h1_10 (a := 10) rfl; have := lv_neT h1_11 (a := 11) rfl; have := lv_neT h1_12 (a := 12) rfl; have := lv_neT h1_13 (a := 13) rfl; have := lv_neT h1_14 (a := 14) rfl; have := lv_neT h1_15 (a := 15) rfl; omega) (by decide) ?_
                                  refine lv_iload_n hx hb dX0_changed_266 rfl (lv_at hl 2 rfl) ?_
                                  exact retI C w dX0_changed_267
set_option maxHeartbeats 4000000 in
set_option maxRecDepth 100000 in
theorem c_Ar_changed (l : Launch) (A : Nat → Prop) (D : va_G) (cA : Nat → ClassId) (tb : Nat) (ad : Nat → Nat) (mu nu : Mu) (x1 : Int32) (x2 : Int32) : Met l yX0_changed wsX0_changed ({ frames := 3, cells := 0, slots := 0, locals := 65 }) (va_Pc [.ref (ad 11), .int x1, .int x2] (Pw A D cA tb ad mu nu)) (va_Qi (fun (r : Int32) (u : Mu × Mu) => r = (F_Ar_changed x1 x2 mu).1 ∧ u = ((F_Ar_changed x1 x2 mu).2, nu)) (Bw A D cA ad) A) 0 0 A := by
  refine Met.ofW (cc := cX0_changed) (maxL := 3) (ret := (some .int)) (by decide) rfl ?_
  intro p e s m args below meth c s₁ B hml hv
  obtain ⟨rfl, w0⟩ := hv
  have C : Cx cX0_changed 3 (some .int) wsX0_changed RX0 A D cA tb p s m _ meth c := ⟨B.exec, B.bytes, B.returns, hml, findClass_of_methodNamed B.named, atoms_spec (ws := wsX0_changed) B.pre, B.notSynchronized, w0.2.1, w0.2.2.2.1, w0.2.2.2.2⟩
  have hl := lv_entry ([.ref (ad 11), .int x1, .int x2]) (n := 3) (Nat.le_of_ble_eq_true rfl)
  rw [lg_entry_eq]
  exact k_Ar_changed C w0.wd hl
def F_Ar_decimalAdjusted_86 (x5 : Int32) (mu : Mu) : Int32 × Mu := ((F_Ar_told (x5 &&& 255) mu).1, (F_Ar_told (x5 &&& 255) mu).2)
set_option maxHeartbeats 4000000 in
set_option maxRecDepth 100000 in
theorem k_Ar_decimalAdjusted_86 (C : Cx cX0_decimalAdjusted 6 (some .int) wsX0_decimalAdjusted RX0 A D cA tb p s m args meth c) {mu nu : Mu} {x5 : Int32} {H : Heap} {locs : List Loc} {ls : Array Slot} (w : Wd A D cA ad s mu nu H locs) (hl : lv_has ls 6 [(0, .ref (ad 11)), (5, .int x5)]) : W p l e { frames := 3, cells := 0, slots := 0, locals := 64 } s m args below meth c H locs 0 0 (QI A D cA ad below args s (F_Ar_decimalAdjusted_86 x5 mu).1 (F_Ar_decimalAdjusted_86 x5 mu).2 nu) (F0 m 86 ls []) := by
  have hx := C.1
  have hb := C.2.1
  have hts := C.2.2.2.2.2.1
  have hown := C.2.2.2.2.1
  unfold F_Ar_decimalAdjusted_86
  refine lv_aload_n hx hb dX0_decimalAdjusted_86 rfl (lv_at hl 0 rfl) ?_
  refine lv_iload hx hb dX0_decimalAdjusted_87 (lv_at hl 1 rfl) ?_
  refine lv_sipush (v := 255) hx hb dX0_decimalAdjusted_89 (by decide) ?_
  refine lv_iand hx hb dX0_decimalAdjusted_92 ?_
  refine kcI (k := 11) (ci := 0) (As := [.int ((x5 &&& 255))]) (rest := []) C w rfl rfl (c_Ar_told l A D cA tb ad mu nu (x5 &&& 255)) (cwV 1 hts gX0_decimalAdjusted_X0_told rfl rfl rfl (by decide +kernel) ⟨Nat.le_of_ble_eq_true rfl, Nat.le_of_ble_eq_true rfl⟩) rfl rfl hl.1 (Nat.le_of_ble_eq_true rfl) dX0_decimalAdjusted_93 (fun H locs w => ?_)
  exact retI C w dX0_decimalAdjusted_96
def F_Ar_decimalAdjusted_69 (x4 : Int32) (x5 : Int32) (mu : Mu) : Int32 × Mu := (if x4 = (0 : Int32) then F_Ar_decimalAdjusted_86 x5 mu else F_Ar_decimalAdjusted_86 (x5 + 96) (F_Fl_tell 1 1 mu))
set_option maxHeartbeats 4000000 in
set_option maxRecDepth 100000 in
theorem k_Ar_decimalAdjusted_69 (C : Cx cX0_decimalAdjusted 6 (some .int) wsX0_decimalAdjusted RX0 A D cA tb p s m args meth c) {mu nu : Mu} {x4 : Int32} {x5 : Int32} {H : Heap} {locs : List Loc} {ls : Array Slot} (w : Wd A D cA ad s mu nu H locs) (hl : lv_has ls 6 [(0, .ref (ad 11)), (4, .int x4), (5, .int x5)]) : W p l e { frames := 3, cells := 0, slots := 0, locals := 64 } s m args below meth c H locs 0 0 (QI A D cA ad below args s (F_Ar_decimalAdjusted_69 x4 x5 mu).1 (F_Ar_decimalAdjusted_69 x4 x5 mu).2 nu) (F0 m 69 ls []) := by
  have hx := C.1
  have hb := C.2.1
  have hts := C.2.2.2.2.2.1
  have hown := C.2.2.2.2.1
  unfold F_Ar_decimalAdjusted_69
  refine lv_iload hx hb dX0_decimalAdjusted_69 (lv_at hl 1 rfl) ?_
  refine lv_if_eq (tgt := 86) hx hb dX0_decimalAdjusted_71 (by decide) (fun h71 => ?_) (fun h71 => ?_)
  · rw [if_pos h71]
    exact k_Ar_decimalAdjusted_86 C w (lv_sub hl [0, 2] rfl)
  · rw [if_neg h71]
    refine lv_iinc (v := (x5 + 96)) (lv' := [(5, .int ((x5 + 96))), (0, .ref (ad 11)), (4, .int x4)]) hx hb dX0_decimalAdjusted_74 hl (k := 2) rfl (by first | rfl | decide) (by decide) rfl (fun ls hl => ?_)
    refine lv_aload_n hx hb dX0_decimalAdjusted_77 rfl (lv_at hl 1 rfl) ?_
    refine gt_11_0 C (fun _ h => List.mem_cons_of_mem _ (List.mem_append_left _ (List.mem_append_right _ h))) (hts _ (List.mem_of_getElem? (i := 1) rfl)) w dX0_decimalAdjusted_78 ?_
    refine lv_iconst (v := 1) hx hb dX0_decimalAdjusted_81 (by decide) ?_
    refine lv_iconst (v := 1) hx hb dX0_decimalAdjusted_82 (by decide) ?_
    refine kcV (k := 10) (ci := 2) (As := [.int 1, .int 1]) (rest := []) C w rfl rfl (c_Fl_tell l A D cA tb ad mu nu 1 1) (cwV 2 hts gX0_decimalAdjusted_X2_tell rfl rfl rfl (by decide +kernel) ⟨Nat.le_of_ble_eq_true rfl, Nat.le_of_ble_eq_true rfl⟩) rfl rfl hl.1 (Nat.le_of_ble_eq_true rfl) dX0_decimalAdjusted_83 (fun H locs w => ?_)
    exact k_Ar_decimalAdjusted_86 C w (lv_sub hl [1, 0] rfl)
def F_Ar_decimalAdjusted_66 (x4 : Int32) (x5 : Int32) (mu : Mu) : Int32 × Mu := F_Ar_decimalAdjusted_69 x4 (x5 + 6) mu
set_option maxHeartbeats 4000000 in
set_option maxRecDepth 100000 in
theorem k_Ar_decimalAdjusted_66 (C : Cx cX0_decimalAdjusted 6 (some .int) wsX0_decimalAdjusted RX0 A D cA tb p s m args meth c) {mu nu : Mu} {x4 : Int32} {x5 : Int32} {H : Heap} {locs : List Loc} {ls : Array Slot} (w : Wd A D cA ad s mu nu H locs) (hl : lv_has ls 6 [(0, .ref (ad 11)), (4, .int x4), (5, .int x5)]) : W p l e { frames := 3, cells := 0, slots := 0, locals := 64 } s m args below meth c H locs 0 0 (QI A D cA ad below args s (F_Ar_decimalAdjusted_66 x4 x5 mu).1 (F_Ar_decimalAdjusted_66 x4 x5 mu).2 nu) (F0 m 66 ls []) := by
  have hx := C.1
  have hb := C.2.1
  have hts := C.2.2.2.2.2.1
  have hown := C.2.2.2.2.1
  unfold F_Ar_decimalAdjusted_66
  refine lv_iinc (v := (x5 + 6)) (lv' := [(5, .int ((x5 + 6))), (0, .ref (ad 11)), (4, .int x4)]) hx hb dX0_decimalAdjusted_66 hl (k := 2) rfl (by first | rfl | decide) (by decide) rfl (fun ls hl => ?_)
  exact k_Ar_decimalAdjusted_69 C w (lv_sub hl [1, 2, 0] rfl)
def F_Ar_decimalAdjusted_43 (x1 : Int32) (x3 : Int32) (y0 : Int32) (mu : Mu) : Int32 × Mu := (if (9 : Int32) < x3 then F_Ar_decimalAdjusted_66 y0 x1 mu else (if (F_Fl_has 32 mu) = (0 : Int32) then F_Ar_decimalAdjusted_69 y0 x1 mu else F_Ar_decimalAdjusted_66 y0 x1 mu))
set_option maxHeartbeats 4000000 in
set_option maxRecDepth 100000 in
theorem k_Ar_decimalAdjusted_43 (C : Cx cX0_decimalAdjusted 6 (some .int) wsX0_decimalAdjusted RX0 A D cA tb p s m args meth c) {mu nu : Mu} {x1 : Int32} {x3 : Int32} {y0 : Int32} {H : Heap} {locs : List Loc} {ls : Array Slot} (w : Wd A D cA ad s mu nu H locs) (hl : lv_has ls 6 [(0, .ref (ad 11)), (1, .int x1), (3, .int x3)]) : W p l e { frames := 3, cells := 0, slots := 0, locals := 64 } s m args below meth c H locs 0 0 (QI A D cA ad below args s (F_Ar_decimalAdjusted_43 x1 x3 y0 mu).1 (F_Ar_decimalAdjusted_43 x1 x3 y0 mu).2 nu) (F0 m 43 ls [.int y0]) := by
  have hx := C.1
  have hb := C.2.1
  have hts := C.2.2.2.2.2.1
  have hown := C.2.2.2.2.1
  unfold F_Ar_decimalAdjusted_43
  refine lv_istore (lv' := [(4, .int y0), (0, .ref (ad 11)), (1, .int x1), (3, .int x3)]) hx hb dX0_decimalAdjusted_43 hl (by decide) rfl (fun ls hl => ?_)
  refine lv_iload_n hx hb dX0_decimalAdjusted_45 rfl (lv_at hl 2 rfl) ?_
  refine lv_istore (lv' := [(5, .int x1), (4, .int y0), (0, .ref (ad 11)), (1, .int x1), (3, .int x3)]) hx hb dX0_decimalAdjusted_46 hl (by decide) rfl (fun ls hl => ?_)
  refine lv_iload_n hx hb dX0_decimalAdjusted_48 rfl (lv_at hl 4 rfl) ?_
  refine lv_bipush (v := 9) hx hb dX0_decimalAdjusted_49 (by decide) ?_
  refine lv_icmp_gt (tgt := 66) hx hb dX0_decimalAdjusted_51 (by decide) (fun h51 => ?_) (fun h51 => ?_)
  · rw [if_pos h51]
    exact k_Ar_decimalAdjusted_66 C w (lv_sub hl [2, 1, 0] rfl)
  · rw [if_neg h51]
    refine lv_aload_n hx hb dX0_decimalAdjusted_54 rfl (lv_at hl 2 rfl) ?_
    refine gt_11_0 C (fun _ h => List.mem_cons_of_mem _ (List.mem_append_left _ (List.mem_append_right _ h))) (hts _ (List.mem_of_getElem? (i := 1) rfl)) w dX0_decimalAdjusted_55 ?_
    refine lv_bipush (v := 32) hx hb dX0_decimalAdjusted_58 (by decide) ?_
    refine kcI (k := 10) (ci := 2) (As := [.int 32]) (rest := []) C w rfl rfl (c_Fl_has l A D cA tb ad mu nu 32) (cwV 1 hts gX0_decimalAdjusted_X2_has rfl rfl rfl (by decide +kernel) ⟨Nat.le_of_ble_eq_true rfl, Nat.le_of_ble_eq_true rfl⟩) rfl rfl hl.1 (Nat.le_of_ble_eq_true rfl) dX0_decimalAdjusted_60 (fun H locs w => ?_)
    refine lv_if_eq (tgt := 69) hx hb dX0_decimalAdjusted_63 (by decide) (fun h63 => ?_) (fun h63 => ?_)
    · rw [if_pos h63]
      exact k_Ar_decimalAdjusted_69 C w (lv_sub hl [2, 1, 0] rfl)
    · rw [if_neg h63]
      exact k_Ar_decimalAdjusted_66 C w (lv_sub hl [2, 1, 0] rfl)
def F_Ar_decimalAdjusted_38 (x1 : Int32) (x3 : Int32) (mu : Mu) : Int32 × Mu := F_Ar_decimalAdjusted_43 x1 x3 1 mu
set_option maxHeartbeats 4000000 in
set_option maxRecDepth 100000 in
theorem k_Ar_decimalAdjusted_38 (C : Cx cX0_decimalAdjusted 6 (some .int) wsX0_decimalAdjusted RX0 A D cA tb p s m args meth c) {mu nu : Mu} {x1 : Int32} {x3 : Int32} {H : Heap} {locs : List Loc} {ls : Array Slot} (w : Wd A D cA ad s mu nu H locs) (hl : lv_has ls 6 [(0, .ref (ad 11)), (1, .int x1), (3, .int x3)]) : W p l e { frames := 3, cells := 0, slots := 0, locals := 64 } s m args below meth c H locs 0 0 (QI A D cA ad below args s (F_Ar_decimalAdjusted_38 x1 x3 mu).1 (F_Ar_decimalAdjusted_38 x1 x3 mu).2 nu) (F0 m 38 ls []) := by
  have hx := C.1
  have hb := C.2.1
  have hts := C.2.2.2.2.2.1
  have hown := C.2.2.2.2.1
  unfold F_Ar_decimalAdjusted_38
  refine lv_iconst (v := 1) hx hb dX0_decimalAdjusted_38 (by decide) ?_
  refine lv_goto (tgt := 43) hx hb dX0_decimalAdjusted_39 (by decide) ?_
  exact k_Ar_decimalAdjusted_43 C w (lv_sub hl [0, 1, 2] rfl)
def F_Ar_decimalAdjusted_42 (x1 : Int32) (x3 : Int32) (mu : Mu) : Int32 × Mu := F_Ar_decimalAdjusted_43 x1 x3 0 mu
set_option maxHeartbeats 4000000 in
set_option maxRecDepth 100000 in
theorem k_Ar_decimalAdjusted_42 (C : Cx cX0_decimalAdjusted 6 (some .int) wsX0_decimalAdjusted RX0 A D cA tb p s m args meth c) {mu nu : Mu} {x1 : Int32} {x3 : Int32} {H : Heap} {locs : List Loc} {ls : Array Slot} (w : Wd A D cA ad s mu nu H locs) (hl : lv_has ls 6 [(0, .ref (ad 11)), (1, .int x1), (3, .int x3)]) : W p l e { frames := 3, cells := 0, slots := 0, locals := 64 } s m args below meth c H locs 0 0 (QI A D cA ad below args s (F_Ar_decimalAdjusted_42 x1 x3 mu).1 (F_Ar_decimalAdjusted_42 x1 x3 mu).2 nu) (F0 m 42 ls []) := by
  have hx := C.1
  have hb := C.2.1
  have hts := C.2.2.2.2.2.1
  have hown := C.2.2.2.2.1
  unfold F_Ar_decimalAdjusted_42
  refine lv_iconst (v := 0) hx hb dX0_decimalAdjusted_42 (by decide) ?_
  exact k_Ar_decimalAdjusted_43 C w (lv_sub hl [0, 1, 2] rfl)
def F_Ar_decimalAdjusted (x1 : Int32) (mu : Mu) : Int32 × Mu := (if (9 : Int32) < (x1 >>> (4 &&& 31)) then F_Ar_decimalAdjusted_38 x1 (x1 &&& 15) mu else (if (F_Fl_has 1 mu) = (0 : Int32) then (if (x1 >>> (4 &&& 31)) = (9 : Int32) then (if (x1 &&& 15) ≤ (9 : Int32) then F_Ar_decimalAdjusted_42 x1 (x1 &&& 15) mu else F_Ar_decimalAdjusted_38 x1 (x1 &&& 15) mu) else F_Ar_decimalAdjusted_42 x1 (x1 &&& 15) mu) else F_Ar_decimalAdjusted_38 x1 (x1 &&& 15) mu))
set_option maxHeartbeats 4000000 in
set_option maxRecDepth 100000 in
theorem k_Ar_decimalAdjusted (C : Cx cX0_decimalAdjusted 6 (some .int) wsX0_decimalAdjusted RX0 A D cA tb p s m args meth c) {mu nu : Mu} {x1 : Int32} {H : Heap} {locs : List Loc} {ls : Array Slot} (w : Wd A D cA ad s mu nu H locs) (hl : lv_has ls 6 [(0, .ref (ad 11)), (1, .int x1)]) : W p l e { frames := 3, cells := 0, slots := 0, locals := 64 } s m args below meth c H locs 0 0 (QI A D cA ad below args s (F_Ar_decimalAdjusted x1 mu).1 (F_Ar_decimalAdjusted x1 mu).2 nu) (F0 m 0 ls []) := by
  have hx := C.1
  have hb := C.2.1
  have hts := C.2.2.2.2.2.1
  have hown := C.2.2.2.2.1
  unfold F_Ar_decimalAdjusted
  refine lv_iload_n hx hb dX0_decimalAdjusted_0 rfl (lv_at hl 1 rfl) ?_
  refine lv_iconst (v := 4) hx hb dX0_decimalAdjusted_1 (by decide) ?_
  refine lv_ishr hx hb dX0_decimalAdjusted_2 ?_
  refine lv_istore_n (lv' := [(2, .int ((x1 >>> (4 &&& 31)))), (0, .ref (ad 11)), (1, .int x1)]) hx hb dX0_decimalAdjusted_3 rfl hl (by decide) rfl (fun ls hl => ?_)
  refine lv_iload_n hx hb dX0_decimalAdjusted_4 rfl (lv_at hl 2 rfl) ?_
  refine lv_bipush (v := 15) hx hb dX0_decimalAdjusted_5 (by decide) ?_
  refine lv_iand hx hb dX0_decimalAdjusted_7 ?_
  refine lv_istore_n (lv' := [(3, .int ((x1 &&& 15))), (2, .int ((x1 >>> (4 &&& 31)))), (0, .ref (ad 11)), (1, .int x1)]) hx hb dX0_decimalAdjusted_8 rfl hl (by decide) rfl (fun ls hl => ?_)
  refine lv_iload_n hx hb dX0_decimalAdjusted_9 rfl (lv_at hl 1 rfl) ?_
  refine lv_bipush (v := 9) hx hb dX0_decimalAdjusted_10 (by decide) ?_
  refine lv_icmp_gt (tgt := 38) hx hb dX0_decimalAdjusted_12 (by decide) (fun h12 => ?_) (fun h12 => ?_)
  · rw [if_pos h12]
    exact k_Ar_decimalAdjusted_38 C w (lv_sub hl [2, 3, 0] rfl)
  · rw [if_neg h12]
    refine lv_aload_n hx hb dX0_decimalAdjusted_15 rfl (lv_at hl 2 rfl) ?_
    refine gt_11_0 C (fun _ h => List.mem_cons_of_mem _ (List.mem_append_left _ (List.mem_append_right _ h))) (hts _ (List.mem_of_getElem? (i := 1) rfl)) w dX0_decimalAdjusted_16 ?_
    refine lv_iconst (v := 1) hx hb dX0_decimalAdjusted_19 (by decide) ?_
    refine kcI (k := 10) (ci := 2) (As := [.int 1]) (rest := []) C w rfl rfl (c_Fl_has l A D cA tb ad mu nu 1) (cwV 1 hts gX0_decimalAdjusted_X2_has rfl rfl rfl (by decide +kernel) ⟨Nat.le_of_ble_eq_true rfl, Nat.le_of_ble_eq_true rfl⟩) rfl rfl hl.1 (Nat.le_of_ble_eq_true rfl) dX0_decimalAdjusted_20 (fun H locs w => ?_)
    refine lv_if_ne (tgt := 38) hx hb dX0_decimalAdjusted_23 (by decide) (fun h23 => ?_) (fun h23 => ?_)
    · rw [if_neg h23]
      exact k_Ar_decimalAdjusted_38 C w (lv_sub hl [2, 3, 0] rfl)
    · rw [if_pos h23]
      refine lv_iload_n hx hb dX0_decimalAdjusted_26 rfl (lv_at hl 1 rfl) ?_
      refine lv_bipush (v := 9) hx hb dX0_decimalAdjusted_27 (by decide) ?_
      refine lv_icmp_ne (tgt := 42) hx hb dX0_decimalAdjusted_29 (by decide) (fun h29 => ?_) (fun h29 => ?_)
      · rw [if_neg h29]
        exact k_Ar_decimalAdjusted_42 C w (lv_sub hl [2, 3, 0] rfl)
      · rw [if_pos h29]
        refine lv_iload_n hx hb dX0_decimalAdjusted_32 rfl (lv_at hl 0 rfl) ?_
        refine lv_bipush (v := 9) hx hb dX0_decimalAdjusted_33 (by decide) ?_
        refine lv_icmp_le (tgt := 42) hx hb dX0_decimalAdjusted_35 (by decide) (fun h35 => ?_) (fun h35 => ?_)
        · rw [if_pos h35]
          exact k_Ar_decimalAdjusted_42 C w (lv_sub hl [2, 3, 0] rfl)
        · rw [if_neg h35]
          exact k_Ar_decimalAdjusted_38 C w (lv_sub hl [2, 3, 0] rfl)
set_option maxHeartbeats 4000000 in
set_option maxRecDepth 100000 in
theorem c_Ar_decimalAdjusted (l : Launch) (A : Nat → Prop) (D : va_G) (cA : Nat → ClassId) (tb : Nat) (ad : Nat → Nat) (mu nu : Mu) (x1 : Int32) : Met l yX0_decimalAdjusted wsX0_decimalAdjusted ({ frames := 3, cells := 0, slots := 0, locals := 64 }) (va_Pc [.ref (ad 11), .int x1] (Pw A D cA tb ad mu nu)) (va_Qi (fun (r : Int32) (u : Mu × Mu) => r = (F_Ar_decimalAdjusted x1 mu).1 ∧ u = ((F_Ar_decimalAdjusted x1 mu).2, nu)) (Bw A D cA ad) A) 0 0 A := by
  refine Met.ofW (cc := cX0_decimalAdjusted) (maxL := 6) (ret := (some .int)) (by decide) rfl ?_
  intro p e s m args below meth c s₁ B hml hv
  obtain ⟨rfl, w0⟩ := hv
  have C : Cx cX0_decimalAdjusted 6 (some .int) wsX0_decimalAdjusted RX0 A D cA tb p s m _ meth c := ⟨B.exec, B.bytes, B.returns, hml, findClass_of_methodNamed B.named, atoms_spec (ws := wsX0_decimalAdjusted) B.pre, B.notSynchronized, w0.2.1, w0.2.2.2.1, w0.2.2.2.2⟩
  have hl := lv_entry ([.ref (ad 11), .int x1]) (n := 6) (Nat.le_of_ble_eq_true rfl)
  rw [lg_entry_eq]
  exact k_Ar_decimalAdjusted C w0.wd hl
end
