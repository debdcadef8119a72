section
variable {p : Program} {l : Launch} {e : Env} {s : State} {m : MethodId} {args : Array Value} {below : List Frame} {meth : Method} {c : Code} 
variable {A : Nat → Prop} {D : va_G} {cA : Nat → ClassId} {tb : Nat} {ad : Nat → Nat}
def F_Md_write_92 (x2 : Int32) (x3 : Int32) (mu : Mu) : Mu := (if x3 = (8449 : Int32) then (if (mu 12 25) = (0 : Int32) then (ps (ps mu 12 18 x2) 12 28 1) else mu) else mu)
set_option maxHeartbeats 4000000 in
set_option maxRecDepth 100000 in
theorem k_Md_write_92 (C : Cx cX7_write 4 none wsX7_write RX7 A D cA tb p s m args meth c) {mu nu : Mu} {x2 : Int32} {x3 : Int32} {H : Heap} {locs : List Loc} {ls : Array Slot} (w : Wd A D cA ad s nu mu H locs) (hl : lv_has ls 4 [(0, .ref (ad 12)), (2, .int x2), (3, .int x3)]) : W p l e { frames := 2, cells := 0, slots := 0, locals := 43 } s m args below meth c H locs 0 0 (QV A D cA ad below args s nu (F_Md_write_92 x2 x3 mu)) (F0 m 92 ls []) := by
  have hx := C.1
  have hb := C.2.1
  have hts := C.2.2.2.2.2.1
  have hown := C.2.2.2.2.1
  unfold F_Md_write_92
  refine lv_iload_n hx hb dX7_write_92 rfl (lv_at hl 2 rfl) ?_
  refine lv_sipush (v := 8449) hx hb dX7_write_93 (by decide) ?_
  refine lv_icmp_ne (tgt := 116) hx hb dX7_write_96 (by decide) (fun h96 => ?_) (fun h96 => ?_)
  · rw [if_neg h96]
    exact retV C w dX7_write_116
  · rw [if_pos h96]
    refine lv_aload_n hx hb dX7_write_99 rfl (lv_at hl 0 rfl) ?_
    refine gt_12_25 C (fun _ h => List.mem_cons_of_mem _ (List.mem_append_right _ h)) (hts _ (List.mem_of_getElem? (i := 3) rfl)) w (v := (mu 12 25)) rfl dX7_write_100 ?_
    refine lv_if_ne (tgt := 116) hx hb dX7_write_103 (by decide) (fun h103 => ?_) (fun h103 => ?_)
    · rw [if_neg h103]
      exact retV C w dX7_write_116
    · rw [if_pos h103]
      refine lv_aload_n hx hb dX7_write_106 rfl (lv_at hl 0 rfl) ?_
      refine lv_iload_n hx hb dX7_write_107 rfl (lv_at hl 1 rfl) ?_
      refine pt_12_18 C (fun _ h => List.mem_cons_of_mem _ (List.mem_append_right _ h)) (hts _ (List.mem_of_getElem? (i := 4) rfl)) w dX7_write_108 (fun H locs w => ?_)
      refine lv_aload_n hx hb dX7_write_111 rfl (lv_at hl 0 rfl) ?_
      refine lv_iconst (v := 1) hx hb dX7_write_112 (by decide) ?_
      refine pt_12_28 C (fun _ h => List.mem_cons_of_mem _ (List.mem_append_right _ h)) (hts _ (List.mem_of_getElem? (i := 5) rfl)) w (Or.inr rfl) dX7_write_113 (fun H locs w => ?_)
      exact retV C w dX7_write_116
def F_Md_write_80 (x2 : Int32) (x3 : Int32) (mu : Mu) : Mu := (if x3 = (8448 : Int32) then F_Md_write_92 x2 x3 (F_Md_writeSerialControl x2 mu) else F_Md_write_92 x2 x3 mu)
set_option maxHeartbeats 4000000 in
set_option maxRecDepth 100000 in
theorem k_Md_write_80 (C : Cx cX7_write 4 none wsX7_write RX7 A D cA tb p s m args meth c) {mu nu : Mu} {x2 : Int32} {x3 : Int32} {H : Heap} {locs : List Loc} {ls : Array Slot} (w : Wd A D cA ad s nu mu H locs) (hl : lv_has ls 4 [(0, .ref (ad 12)), (2, .int x2), (3, .int x3)]) : W p l e { frames := 2, cells := 0, slots := 0, locals := 43 } s m args below meth c H locs 0 0 (QV A D cA ad below args s nu (F_Md_write_80 x2 x3 mu)) (F0 m 80 ls []) := by
  have hx := C.1
  have hb := C.2.1
  have hts := C.2.2.2.2.2.1
  have hown := C.2.2.2.2.1
  unfold F_Md_write_80
  refine lv_iload_n hx hb dX7_write_80 rfl (lv_at hl 2 rfl) ?_
  refine lv_sipush (v := 8448) hx hb dX7_write_81 (by decide) ?_
  refine lv_icmp_ne (tgt := 92) hx hb dX7_write_84 (by decide) (fun h84 => ?_) (fun h84 => ?_)
  · rw [if_neg h84]
    exact k_Md_write_92 C w (lv_sub hl [0, 1, 2] rfl)
  · rw [if_pos h84]
    refine lv_aload_n hx hb dX7_write_87 rfl (lv_at hl 0 rfl) ?_
    refine lv_iload_n hx hb dX7_write_88 rfl (lv_at hl 1 rfl) ?_
    refine kcV (k := 12) (ci := 7) (As := [.int x2]) (rest := []) C w rfl rfl (c_Md_writeSerialControl l A D cA tb ad mu nu x2) (cwV 1 hts gX7_write_X7_writeSerialControl rfl rfl rfl (by decide +kernel) ⟨Nat.le_of_ble_eq_true rfl, Nat.le_of_ble_eq_true rfl⟩) rfl rfl hl.1 (Nat.le_of_ble_eq_true rfl) dX7_write_89 (fun H locs w => ?_)
    exact k_Md_write_92 C w (lv_sub hl [0, 1, 2] rfl)
def F_Md_write_49 (x2 : Int32) (x3 : Int32) (mu : Mu) : Mu := (if x3 < (8192 : Int32) then F_Md_write_80 x2 x3 mu else (if (8196 : Int32) ≤ x3 then F_Md_write_80 x2 x3 mu else (if (x3 &&& 1) = (1 : Int32) then F_Md_write_80 x2 x3 (F_Md_writeSideControl ((x3 >>> (1 &&& 31)) &&& 1) x2 mu) else F_Md_write_80 x2 x3 mu)))
set_option maxHeartbeats 4000000 in
set_option maxRecDepth 100000 in
theorem k_Md_write_49 (C : Cx cX7_write 4 none wsX7_write RX7 A D cA tb p s m args meth c) {mu nu : Mu} {x2 : Int32} {x3 : Int32} {H : Heap} {locs : List Loc} {ls : Array Slot} (w : Wd A D cA ad s nu mu H locs) (hl : lv_has ls 4 [(0, .ref (ad 12)), (2, .int x2), (3, .int x3)]) : W p l e { frames := 2, cells := 0, slots := 0, locals := 43 } s m args below meth c H locs 0 0 (QV A D cA ad below args s nu (F_Md_write_49 x2 x3 mu)) (F0 m 49 ls []) := by
  have hx := C.1
  have hb := C.2.1
  have hts := C.2.2.2.2.2.1
  have hown := C.2.2.2.2.1
  unfold F_Md_write_49
  refine lv_iload_n hx hb dX7_write_49 rfl (lv_at hl 2 rfl) ?_
  refine lv_sipush (v := 8192) hx hb dX7_write_50 (by decide) ?_
  refine lv_icmp_lt (tgt := 80) hx hb dX7_write_53 (by decide) (fun h53 => ?_) (fun h53 => ?_)
  · rw [if_pos h53]
    exact k_Md_write_80 C w (lv_sub hl [0, 1, 2] rfl)
  · rw [if_neg h53]
    refine lv_iload_n hx hb dX7_write_56 rfl (lv_at hl 2 rfl) ?_
    refine lv_sipush (v := 8196) hx hb dX7_write_57 (by decide) ?_
    refine lv_icmp_ge (tgt := 80) hx hb dX7_write_60 (by decide) (fun h60 => ?_) (fun h60 => ?_)
    · rw [if_pos h60]
      exact k_Md_write_80 C w (lv_sub hl [0, 1, 2] rfl)
    · rw [if_neg h60]
      refine lv_iload_n hx hb dX7_write_63 rfl (lv_at hl 2 rfl) ?_
      refine lv_iconst (v := 1) hx hb dX7_write_64 (by decide) ?_
      refine lv_iand hx hb dX7_write_65 ?_
      refine lv_iconst (v := 1) hx hb dX7_write_66 (by decide) ?_
      refine lv_icmp_ne (tgt := 80) hx hb dX7_write_67 (by decide) (fun h67 => ?_) (fun h67 => ?_)
      · rw [if_neg h67]
        exact k_Md_write_80 C w (lv_sub hl [0, 1, 2] rfl)
      · rw [if_pos h67]
        refine lv_aload_n hx hb dX7_write_70 rfl (lv_at hl 0 rfl) ?_
        refine lv_iload_n hx hb dX7_write_71 rfl (lv_at hl 2 rfl) ?_
        refine lv_iconst (v := 1) hx hb dX7_write_72 (by decide) ?_
        refine lv_ishr hx hb dX7_write_73 ?_
        refine lv_iconst (v := 1) hx hb dX7_write_74 (by decide) ?_
        refine lv_iand hx hb dX7_write_75 ?_
        refine lv_iload_n hx hb dX7_write_76 rfl (lv_at hl 1 rfl) ?_
        refine kcV (k := 12) (ci := 7) (As := [.int (((x3 >>> (1 &&& 31)) &&& 1)), .int x2]) (rest := []) C w rfl rfl (c_Md_writeSideControl l A D cA tb ad mu nu ((x3 >>> (1 &&& 31)) &&& 1) x2 (i_and1 _)) (cwV 2 hts gX7_write_X7_writeSideControl rfl rfl rfl (by decide +kernel) ⟨Nat.le_of_ble_eq_true rfl, Nat.le_of_ble_eq_true rfl⟩) rfl rfl hl.1 (Nat.le_of_ble_eq_true rfl) dX7_write_77 (fun H locs w => ?_)
        exact k_Md_write_80 C w (lv_sub hl [0, 1, 2] rfl)
def F_Md_write_19 (x2 : Int32) (x3 : Int32) (mu : Mu) : Mu := (if x3 < (8192 : Int32) then F_Md_write_49 x2 x3 mu else (if (8196 : Int32) ≤ x3 then F_Md_write_49 x2 x3 mu else (if (x3 &&& 1) = (0 : Int32) then F_Md_write_49 x2 x3 (F_Md_writeSide ((x3 >>> (1 &&& 31)) &&& 1) x2 mu) else F_Md_write_49 x2 x3 mu)))
set_option maxHeartbeats 4000000 in
set_option maxRecDepth 100000 in
theorem k_Md_write_19 (C : Cx cX7_write 4 none wsX7_write RX7 A D cA tb p s m args meth c) {mu nu : Mu} {x2 : Int32} {x3 : Int32} {H : Heap} {locs : List Loc} {ls : Array Slot} (w : Wd A D cA ad s nu mu H locs) (hl : lv_has ls 4 [(0, .ref (ad 12)), (2, .int x2), (3, .int x3)]) : W p l e { frames := 2, cells := 0, slots := 0, locals := 43 } s m args below meth c H locs 0 0 (QV A D cA ad below args s nu (F_Md_write_19 x2 x3 mu)) (F0 m 19 ls []) := by
  have hx := C.1
  have hb := C.2.1
  have hts := C.2.2.2.2.2.1
  have hown := C.2.2.2.2.1
  unfold F_Md_write_19
  refine lv_iload_n hx hb dX7_write_19 rfl (lv_at hl 2 rfl) ?_
  refine lv_sipush (v := 8192) hx hb dX7_write_20 (by decide) ?_
  refine lv_icmp_lt (tgt := 49) hx hb dX7_write_23 (by decide) (fun h23 => ?_) (fun h23 => ?_)
  · rw [if_pos h23]
    exact k_Md_write_49 C w (lv_sub hl [0, 1, 2] rfl)
  · rw [if_neg h23]
    refine lv_iload_n hx hb dX7_write_26 rfl (lv_at hl 2 rfl) ?_
    refine lv_sipush (v := 8196) hx hb dX7_write_27 (by decide) ?_
    refine lv_icmp_ge (tgt := 49) hx hb dX7_write_30 (by decide) (fun h30 => ?_) (fun h30 => ?_)
    · rw [if_pos h30]
      exact k_Md_write_49 C w (lv_sub hl [0, 1, 2] rfl)
    · rw [if_neg h30]
      refine lv_iload_n hx hb dX7_write_33 rfl (lv_at hl 2 rfl) ?_
      refine lv_iconst (v := 1) hx hb dX7_write_34 (by decide) ?_
      refine lv_iand hx hb dX7_write_35 ?_
      refine lv_if_ne (tgt := 49) hx hb dX7_write_36 (by decide) (fun h36 => ?_) (fun h36 => ?_)
      · rw [if_neg h36]
        exact k_Md_write_49 C w (lv_sub hl [0, 1, 2] rfl)
      · rw [if_pos h36]
        refine lv_aload_n hx hb dX7_write_39 rfl (lv_at hl 0 rfl) ?_
        refine lv_iload_n hx hb dX7_write_40 rfl (lv_at hl 2 rfl) ?_
        refine lv_iconst (v := 1) hx hb dX7_write_41 (by decide) ?_
        refine lv_ishr hx hb dX7_write_42 ?_
        refine lv_iconst (v := 1) hx hb dX7_write_43 (by decide) ?_
        refine lv_iand hx hb dX7_write_44 ?_
        refine lv_iload_n hx hb dX7_write_45 rfl (lv_at hl 1 rfl) ?_
        refine kcV (k := 12) (ci := 7) (As := [.int (((x3 >>> (1 &&& 31)) &&& 1)), .int x2]) (rest := []) C w rfl rfl (c_Md_writeSide l A D cA tb ad mu nu ((x3 >>> (1 &&& 31)) &&& 1) x2 (i_and1 _)) (cwV 2 hts gX7_write_X7_writeSide rfl rfl rfl (by decide +kernel) ⟨Nat.le_of_ble_eq_true rfl, Nat.le_of_ble_eq_true rfl⟩) rfl rfl hl.1 (Nat.le_of_ble_eq_true rfl) dX7_write_46 (fun H locs w => ?_)
        exact k_Md_write_49 C w (lv_sub hl [0, 1, 2] rfl)
def F_Md_write (x1 : Int32) (x2 : Int32) (mu : Mu) : Mu := (if (1024 : Int32) ≤ (x1 &&& 65535) then F_Md_write_19 x2 (x1 &&& 65535) mu else F_Md_write_19 x2 (x1 &&& 65535) (ps mu 13 (x1 &&& 65535).toNatClampNeg x2))
set_option maxHeartbeats 4000000 in
set_option maxRecDepth 100000 in
theorem k_Md_write (C : Cx cX7_write 4 none wsX7_write RX7 A D cA tb p s m args meth c) {mu nu : Mu} {x1 : Int32} {x2 : Int32} {H : Heap} {locs : List Loc} {ls : Array Slot} (w : Wd A D cA ad s nu mu H locs) (hl : lv_has ls 4 [(0, .ref (ad 12)), (1, .int x1), (2, .int x2)]) : W p l e { frames := 2, cells := 0, slots := 0, locals := 43 } s m args below meth c H locs 0 0 (QV A D cA ad below args s nu (F_Md_write x1 x2 mu)) (F0 m 0 ls []) := by
  have hx := C.1
  have hb := C.2.1
  have hts := C.2.2.2.2.2.1
  have hown := C.2.2.2.2.1
  unfold F_Md_write
  refine lv_iload_n hx hb dX7_write_0 rfl (lv_at hl 1 rfl) ?_
  refine lv_ldc (v := 65535) hx hb hown (hts _ (List.mem_of_getElem? (i := 1) rfl)) dX7_write_1 ?_
  refine lv_iand hx hb dX7_write_3 ?_
  refine lv_istore_n (lv' := [(3, .int ((x1 &&& 65535))), (0, .ref (ad 12)), (1, .int x1), (2, .int x2)]) hx hb dX7_write_4 rfl hl (by decide) rfl (fun ls hl => ?_)
  refine lv_iload_n hx hb dX7_write_5 rfl (lv_at hl 0 rfl) ?_
  refine lv_sipush (v := 1024) hx hb dX7_write_6 (by decide) ?_
  refine lv_icmp_ge (tgt := 19) hx hb dX7_write_9 (by decide) (fun h9 => ?_) (fun h9 => ?_)
  · rw [if_pos h9]
    exact k_Md_write_19 C w (lv_sub hl [1, 3, 0] rfl)
  · rw [if_neg h9]
    refine lv_aload_n hx hb dX7_write_12 rfl (lv_at hl 1 rfl) ?_
    refine gt_12_0 C (fun _ h => List.mem_cons_of_mem _ (List.mem_append_right _ h)) (hts _ (List.mem_of_getElem? (i := 2) rfl)) w dX7_write_13 ?_
    refine lv_iload_n hx hb dX7_write_16 rfl (lv_at hl 0 rfl) ?_
    refine lv_iload_n hx hb dX7_write_17 rfl (lv_at hl 3 rfl) ?_
    refine is_13 C w (lo_in (i_and16 _).1 h9) dX7_write_18 (fun H locs w => ?_)
    exact k_Md_write_19 C w (lv_sub hl [1, 3, 0] rfl)
set_option maxHeartbeats 4000000 in
set_option maxRecDepth 100000 in
theorem c_Md_write (l : Launch) (A : Nat → Prop) (D : va_G) (cA : Nat → ClassId) (tb : Nat) (ad : Nat → Nat) (mu nu : Mu) (x1 : Int32) (x2 : Int32) : Met l yX7_write wsX7_write ({ frames := 2, cells := 0, slots := 0, locals := 43 }) (va_Pc [.ref (ad 12), .int x1, .int x2] (Pw A D cA tb ad nu mu)) (va_Qv (fun (u : Mu × Mu) => u = (nu, F_Md_write x1 x2 mu)) (Bw A D cA ad) A) 0 0 A := by
  refine Met.ofW (cc := cX7_write) (maxL := 4) (ret := none) (by decide) rfl ?_
  intro p e s m args below meth c s₁ B hml hv
  obtain ⟨rfl, w0⟩ := hv
  have C : Cx cX7_write 4 none wsX7_write RX7 A D cA tb p s m _ meth c := ⟨B.exec, B.bytes, B.returns, hml, findClass_of_methodNamed B.named, atoms_spec (ws := wsX7_write) B.pre, B.notSynchronized, w0.2.1, w0.2.2.2.1, w0.2.2.2.2⟩
  have hl := lv_entry ([.ref (ad 12), .int x1, .int x2]) (n := 4) (Nat.le_of_ble_eq_true rfl)
  rw [lg_entry_eq]
  exact k_Md_write C w0.wd hl
def F_Md_push_13 (mu : Mu) : Mu := (ps mu 12 5 (((mu 12 5) - 1) &&& 65535))
set_option maxHeartbeats 4000000 in
set_option maxRecDepth 100000 in
theorem k_Md_push_13 (C : Cx cX7_push 2 none wsX7_push RX7 A D cA tb p s m args meth c) {mu nu : Mu} {H : Heap} {locs : List Loc} {ls : Array Slot} (w : Wd A D cA ad s nu mu H locs) (hl : lv_has ls 2 [(0, .ref (ad 12))]) : W p l e { frames := 3, cells := 0, slots := 0, locals := 66 } s m args below meth c H locs 0 0 (QV A D cA ad below args s nu (F_Md_push_13 mu)) (F0 m 13 ls []) := by
  have hx := C.1
  have hb := C.2.1
  have hts := C.2.2.2.2.2.1
  have hown := C.2.2.2.2.1
  unfold F_Md_push_13
  refine lv_aload_n hx hb dX7_push_13 rfl (lv_at hl 0 rfl) ?_
  refine lv_aload_n hx hb dX7_push_14 rfl (lv_at hl 0 rfl) ?_
  refine gt_12_5 C (fun _ h => List.mem_cons_of_mem _ (List.mem_append_right _ h)) (hts _ (List.mem_of_getElem? (i := 1) rfl)) w (v := (mu 12 5)) rfl dX7_push_15 ?_
  refine lv_iconst (v := 1) hx hb dX7_push_18 (by decide) ?_
  refine lv_isub hx hb dX7_push_19 ?_
  refine lv_ldc (v := 65535) hx hb hown (hts _ (List.mem_of_getElem? (i := 2) rfl)) dX7_push_20 ?_
  refine lv_iand hx hb dX7_push_22 ?_
  refine pt_12_5 C (fun _ h => List.mem_cons_of_mem _ (List.mem_append_right _ h)) (hts _ (List.mem_of_getElem? (i := 1) rfl)) w dX7_push_23 (fun H locs w => ?_)
  exact retV C w dX7_push_26
def F_Md_push (x1 : Int32) (mu : Mu) : Mu := F_Md_push_13 (F_Md_write (mu 12 5) (x1 &&& 255) mu)
set_option maxHeartbeats 4000000 in
set_option maxRecDepth 100000 in
theorem k_Md_push (C : Cx cX7_push 2 none wsX7_push RX7 A D cA tb p s m args meth c) {mu nu : Mu} {x1 : Int32} {H : Heap} {locs : List Loc} {ls : Array Slot} (w : Wd A D cA ad s nu mu H locs) (hl : lv_has ls 2 [(0, .ref (ad 12)), (1, .int x1)]) : W p l e { frames := 3, cells := 0, slots := 0, locals := 66 } s m args below meth c H locs 0 0 (QV A D cA ad below args s nu (F_Md_push x1 mu)) (F0 m 0 ls []) := by
  have hx := C.1
  have hb := C.2.1
  have hts := C.2.2.2.2.2.1
  have hown := C.2.2.2.2.1
  unfold F_Md_push
  refine lv_aload_n hx hb dX7_push_0 rfl (lv_at hl 0 rfl) ?_
  refine lv_aload_n hx hb dX7_push_1 rfl (lv_at hl 0 rfl) ?_
  refine gt_12_5 C (fun _ h => List.mem_cons_of_mem _ (List.mem_append_right _ h)) (hts _ (List.mem_of_getElem? (i := 1) rfl)) w (v := (mu 12 5)) rfl dX7_push_2 ?_
  refine lv_iload_n hx hb dX7_push_5 rfl (lv_at hl 1 rfl) ?_
  refine lv_sipush (v := 255) hx hb dX7_push_6 (by decide) ?_
  refine lv_iand hx hb dX7_push_9 ?_
  refine kcV (k := 12) (ci := 7) (As := [.int ((mu 12 5)), .int ((x1 &&& 255))]) (rest := []) C w rfl rfl (c_Md_write l A D cA tb ad mu nu (mu 12 5) (x1 &&& 255)) (cwV 2 hts gX7_push_X7_write rfl rfl rfl (by decide +kernel) ⟨Nat.le_of_ble_eq_true rfl, Nat.le_of_ble_eq_true rfl⟩) rfl rfl hl.1 (Nat.le_of_ble_eq_true rfl) dX7_push_10 (fun H locs w => ?_)
  exact k_Md_push_13 C w (lv_sub hl [0] rfl)
set_option maxHeartbeats 4000000 in
set_option maxRecDepth 100000 in
theorem c_Md_push (l : Launch) (A : Nat → Prop) (D : va_G) (cA : Nat → ClassId) (tb : Nat) (ad : Nat → Nat) (mu nu : Mu) (x1 : Int32) : Met l yX7_push wsX7_push ({ frames := 3, cells := 0, slots := 0, locals := 66 }) (va_Pc [.ref (ad 12), .int x1] (Pw A D cA tb ad nu mu)) (va_Qv (fun (u : Mu × Mu) => u = (nu, F_Md_push x1 mu)) (Bw A D cA ad) A) 0 0 A := by
  refine Met.ofW (cc := cX7_push) (maxL := 2) (ret := none) (by decide) rfl ?_
  intro p e s m args below meth c s₁ B hml hv
  obtain ⟨rfl, w0⟩ := hv
  have C : Cx cX7_push 2 none wsX7_push RX7 A D cA tb p s m _ meth c := ⟨B.exec, B.bytes, B.returns, hml, findClass_of_methodNamed B.named, atoms_spec (ws := wsX7_push) B.pre, B.notSynchronized, w0.2.1, w0.2.2.2.1, w0.2.2.2.2⟩
  have hl := lv_entry ([.ref (ad 12), .int x1]) (n := 2) (Nat.le_of_ble_eq_true rfl)
  rw [lg_entry_eq]
  exact k_Md_push C w0.wd hl
def F_Md_pushWord_5 (x1 : Int32) (mu : Mu) : Mu := (F_Md_push (x1 >>> (8 &&& 31)) mu)
set_option maxHeartbeats 4000000 in
set_option maxRecDepth 100000 in
theorem k_Md_pushWord_5 (C : Cx cX7_pushWord 2 none wsX7_pushWord RX7 A D cA tb p s m args meth c) {mu nu : Mu} {x1 : Int32} {H : Heap} {locs : List Loc} {ls : Array Slot} (w : Wd A D cA ad s nu mu H locs) (hl : lv_has ls 2 [(0, .ref (ad 12)), (1, .int x1)]) : W p l e { frames := 4, cells := 0, slots := 0, locals := 87 } s m args below meth c H locs 0 0 (QV A D cA ad below args s nu (F_Md_pushWord_5 x1 mu)) (F0 m 5 ls []) := by
  have hx := C.1
  have hb := C.2.1
  have hts := C.2.2.2.2.2.1
  have hown := C.2.2.2.2.1
  unfold F_Md_pushWord_5
  refine lv_aload_n hx hb dX7_pushWord_5 rfl (lv_at hl 0 rfl) ?_
  refine lv_iload_n hx hb dX7_pushWord_6 rfl (lv_at hl 1 rfl) ?_
  refine lv_bipush (v := 8) hx hb dX7_pushWord_7 (by decide) ?_
  refine lv_ishr hx hb dX7_pushWord_9 ?_
  refine kcV (k := 12) (ci := 7) (As := [.int ((x1 >>> (8 &&& 31)))]) (rest := []) C w rfl rfl (c_Md_push l A D cA tb ad mu nu (x1 >>> (8 &&& 31))) (cwV 1 hts gX7_pushWord_X7_push rfl rfl rfl (by decide +kernel) ⟨Nat.le_of_ble_eq_true rfl, Nat.le_of_ble_eq_true rfl⟩) rfl rfl hl.1 (Nat.le_of_ble_eq_true rfl) dX7_pushWord_10 (fun H locs w => ?_)
  exact retV C w dX7_pushWord_13
def F_Md_pushWord (x1 : Int32) (mu : Mu) : Mu := F_Md_pushWord_5 x1 (F_Md_push x1 mu)
set_option maxHeartbeats 4000000 in
set_option maxRecDepth 100000 in
theorem k_Md_pushWord (C : Cx cX7_pushWord 2 none wsX7_pushWord RX7 A D cA tb p s m args meth c) {mu nu : Mu} {x1 : Int32} {H : Heap} {locs : List Loc} {ls : Array Slot} (w : Wd A D cA ad s nu mu H locs) (hl : lv_has ls 2 [(0, .ref (ad 12)), (1, .int x1)]) : W p l e { frames := 4, cells := 0, slots := 0, locals := 87 } s m args below meth c H locs 0 0 (QV A D cA ad below args s nu (F_Md_pushWord x1 mu)) (F0 m 0 ls []) := by
  have hx := C.1
  have hb := C.2.1
  have hts := C.2.2.2.2.2.1
  have hown := C.2.2.2.2.1
  unfold F_Md_pushWord
  refine lv_aload_n hx hb dX7_pushWord_0 rfl (lv_at hl 0 rfl) ?_
  refine lv_iload_n hx hb dX7_pushWord_1 rfl (lv_at hl 1 rfl) ?_
  refine kcV (k := 12) (ci := 7) (As := [.int x1]) (rest := []) C w rfl rfl (c_Md_push l A D cA tb ad mu nu x1) (cwV 1 hts gX7_pushWord_X7_push rfl rfl rfl (by decide +kernel) ⟨Nat.le_of_ble_eq_true rfl, Nat.le_of_ble_eq_true rfl⟩) rfl rfl hl.1 (Nat.le_of_ble_eq_true rfl) dX7_pushWord_2 (fun H locs w => ?_)
  exact k_Md_pushWord_5 C w (lv_sub hl [0, 1] rfl)
set_option maxHeartbeats 4000000 in
set_option maxRecDepth 100000 in
theorem c_Md_pushWord (l : Launch) (A : Nat → Prop) (D : va_G) (cA : Nat → ClassId) (tb : Nat) (ad : Nat → Nat) (mu nu : Mu) (x1 : Int32) : Met l yX7_pushWord wsX7_pushWord ({ frames := 4, cells := 0, slots := 0, locals := 87 }) (va_Pc [.ref (ad 12), .int x1] (Pw A D cA tb ad nu mu)) (va_Qv (fun (u : Mu × Mu) => u = (nu, F_Md_pushWord x1 mu)) (Bw A D cA ad) A) 0 0 A := by
  refine Met.ofW (cc := cX7_pushWord) (maxL := 2) (ret := none) (by decide) rfl ?_
  intro p e s m args below meth c s₁ B hml hv
  obtain ⟨rfl, w0⟩ := hv
  have C : Cx cX7_pushWord 2 none wsX7_pushWord RX7 A D cA tb p s m _ meth c := ⟨B.exec, B.bytes, B.returns, hml, findClass_of_methodNamed B.named, atoms_spec (ws := wsX7_pushWord) B.pre, B.notSynchronized, w0.2.1, w0.2.2.2.1, w0.2.2.2.2⟩
  have hl := lv_entry ([.ref (ad 12), .int x1]) (n := 2) (Nat.le_of_ble_eq_true rfl)
  rw [lg_entry_eq]
  exact k_Md_pushWord C w0.wd hl
def F_Md_pushAll_32 (mu : Mu) : Mu := (F_Md_push ((mu 12 7) ||| 192) mu)
set_option maxHeartbeats 4000000 in
set_option maxRecDepth 100000 in
theorem k_Md_pushAll_32 (C : Cx cX7_pushAll 1 none wsX7_pushAll RX7 A D cA tb p s m args meth c) {mu nu : Mu} {H : Heap} {locs : List Loc} {ls : Array Slot} (w : Wd A D cA ad s nu mu H locs) (hl : lv_has ls 1 [(0, .ref (ad 12))]) : W p l e { frames := 5, cells := 0, slots := 0, locals := 108 } s m args below meth c H locs 0 0 (QV A D cA ad below args s nu (F_Md_pushAll_32 mu)) (F0 m 32 ls []) := by
  have hx := C.1
  have hb := C.2.1
  have hts := C.2.2.2.2.2.1
  have hown := C.2.2.2.2.1
  unfold F_Md_pushAll_32
  refine lv_aload_n hx hb dX7_pushAll_32 rfl (lv_at hl 0 rfl) ?_
  refine lv_aload_n hx hb dX7_pushAll_33 rfl (lv_at hl 0 rfl) ?_
  refine gt_12_7 C (fun _ h => List.mem_cons_of_mem _ (List.mem_append_right _ h)) (hts _ (List.mem_of_getElem? (i := 5) rfl)) w (v := (mu 12 7)) rfl dX7_pushAll_34 ?_
  refine lv_sipush (v := 192) hx hb dX7_pushAll_37 (by decide) ?_
  refine lv_ior hx hb dX7_pushAll_40 ?_
  refine kcV (k := 12) (ci := 7) (As := [.int (((mu 12 7) ||| 192))]) (rest := []) C w rfl rfl (c_Md_push l A D cA tb ad mu nu ((mu 12 7) ||| 192)) (cwV 1 hts gX7_pushAll_X7_push rfl rfl rfl (by decide +kernel) ⟨Nat.le_of_ble_eq_true rfl, Nat.le_of_ble_eq_true rfl⟩) rfl rfl hl.1 (Nat.le_of_ble_eq_true rfl) dX7_pushAll_41 (fun H locs w => ?_)
  exact retV C w dX7_pushAll_44
def F_Md_pushAll_24 (mu : Mu) : Mu := F_Md_pushAll_32 (F_Md_push (mu 12 3) mu)
set_option maxHeartbeats 4000000 in
set_option maxRecDepth 100000 in
theorem k_Md_pushAll_24 (C : Cx cX7_pushAll 1 none wsX7_pushAll RX7 A D cA tb p s m args meth c) {mu nu : Mu} {H : Heap} {locs : List Loc} {ls : Array Slot} (w : Wd A D cA ad s nu mu H locs) (hl : lv_has ls 1 [(0, .ref (ad 12))]) : W p l e { frames := 5, cells := 0, slots := 0, locals := 108 } s m args below meth c H locs 0 0 (QV A D cA ad below args s nu (F_Md_pushAll_24 mu)) (F0 m 24 ls []) := by
  have hx := C.1
  have hb := C.2.1
  have hts := C.2.2.2.2.2.1
  have hown := C.2.2.2.2.1
  unfold F_Md_pushAll_24
  refine lv_aload_n hx hb dX7_pushAll_24 rfl (lv_at hl 0 rfl) ?_
  refine lv_aload_n hx hb dX7_pushAll_25 rfl (lv_at hl 0 rfl) ?_
  refine gt_12_3 C (fun _ h => List.mem_cons_of_mem _ (List.mem_append_right _ h)) (hts _ (List.mem_of_getElem? (i := 4) rfl)) w (v := (mu 12 3)) rfl dX7_pushAll_26 ?_
  refine kcV (k := 12) (ci := 7) (As := [.int ((mu 12 3))]) (rest := []) C w rfl rfl (c_Md_push l A D cA tb ad mu nu (mu 12 3)) (cwV 1 hts gX7_pushAll_X7_push rfl rfl rfl (by decide +kernel) ⟨Nat.le_of_ble_eq_true rfl, Nat.le_of_ble_eq_true rfl⟩) rfl rfl hl.1 (Nat.le_of_ble_eq_true rfl) dX7_pushAll_29 (fun H locs w => ?_)
  exact k_Md_pushAll_32 C w (lv_sub hl [0] rfl)
def F_Md_pushAll_16 (mu : Mu) : Mu := F_Md_pushAll_24 (F_Md_push (mu 12 2) mu)
set_option maxHeartbeats 4000000 in
set_option maxRecDepth 100000 in
theorem k_Md_pushAll_16 (C : Cx cX7_pushAll 1 none wsX7_pushAll RX7 A D cA tb p s m args meth c) {mu nu : Mu} {H : Heap} {locs : List Loc} {ls : Array Slot} (w : Wd A D cA ad s nu mu H locs) (hl : lv_has ls 1 [(0, .ref (ad 12))]) : W p l e { frames := 5, cells := 0, slots := 0, locals := 108 } s m args below meth c H locs 0 0 (QV A D cA ad below args s nu (F_Md_pushAll_16 mu)) (F0 m 16 ls []) := by
  have hx := C.1
  have hb := C.2.1
  have hts := C.2.2.2.2.2.1
  have hown := C.2.2.2.2.1
  unfold F_Md_pushAll_16
  refine lv_aload_n hx hb dX7_pushAll_16 rfl (lv_at hl 0 rfl) ?_
  refine lv_aload_n hx hb dX7_pushAll_17 rfl (lv_at hl 0 rfl) ?_
  refine gt_12_2 C (fun _ h => List.mem_cons_of_mem _ (List.mem_append_right _ h)) (hts _ (List.mem_of_getElem? (i := 3) rfl)) w (v := (mu 12 2)) rfl dX7_pushAll_18 ?_
  refine kcV (k := 12) (ci := 7) (As := [.int ((mu 12 2))]) (rest := []) C w rfl rfl (c_Md_push l A D cA tb ad mu nu (mu 12 2)) (cwV 1 hts gX7_pushAll_X7_push rfl rfl rfl (by decide +kernel) ⟨Nat.le_of_ble_eq_true rfl, Nat.le_of_ble_eq_true rfl⟩) rfl rfl hl.1 (Nat.le_of_ble_eq_true rfl) dX7_pushAll_21 (fun H locs w => ?_)
  exact k_Md_pushAll_24 C w (lv_sub hl [0] rfl)
def F_Md_pushAll_8 (mu : Mu) : Mu := F_Md_pushAll_16 (F_Md_pushWord (mu 12 4) mu)
set_option maxHeartbeats 4000000 in
set_option maxRecDepth 100000 in
theorem k_Md_pushAll_8 (C : Cx cX7_pushAll 1 none wsX7_pushAll RX7 A D cA tb p s m args meth c) {mu nu : Mu} {H : Heap} {locs : List Loc} {ls : Array Slot} (w : Wd A D cA ad s nu mu H locs) (hl : lv_has ls 1 [(0, .ref (ad 12))]) : W p l e { frames := 5, cells := 0, slots := 0, locals := 108 } s m args below meth c H locs 0 0 (QV A D cA ad below args s nu (F_Md_pushAll_8 mu)) (F0 m 8 ls []) := by
  have hx := C.1
  have hb := C.2.1
  have hts := C.2.2.2.2.2.1
  have hown := C.2.2.2.2.1
  unfold F_Md_pushAll_8
  refine lv_aload_n hx hb dX7_pushAll_8 rfl (lv_at hl 0 rfl) ?_
  refine lv_aload_n hx hb dX7_pushAll_9 rfl (lv_at hl 0 rfl) ?_
  refine gt_12_4 C (fun _ h => List.mem_cons_of_mem _ (List.mem_append_right _ h)) (hts _ (List.mem_of_getElem? (i := 2) rfl)) w (v := (mu 12 4)) rfl dX7_pushAll_10 ?_
  refine kcV (k := 12) (ci := 7) (As := [.int ((mu 12 4))]) (rest := []) C w rfl rfl (c_Md_pushWord l A D cA tb ad mu nu (mu 12 4)) (cwV 1 hts gX7_pushAll_X7_pushWord rfl rfl rfl (by decide +kernel) ⟨Nat.le_of_ble_eq_true rfl, Nat.le_of_ble_eq_true rfl⟩) rfl rfl hl.1 (Nat.le_of_ble_eq_true rfl) dX7_pushAll_13 (fun H locs w => ?_)
  exact k_Md_pushAll_16 C w (lv_sub hl [0] rfl)
def F_Md_pushAll (mu : Mu) : Mu := F_Md_pushAll_8 (F_Md_pushWord (mu 12 6) mu)
set_option maxHeartbeats 4000000 in
set_option maxRecDepth 100000 in
theorem k_Md_pushAll (C : Cx cX7_pushAll 1 none wsX7_pushAll RX7 A D cA tb p s m args meth c) {mu nu : Mu} {H : Heap} {locs : List Loc} {ls : Array Slot} (w : Wd A D cA ad s nu mu H locs) (hl : lv_has ls 1 [(0, .ref (ad 12))]) : W p l e { frames := 5, cells := 0, slots := 0, locals := 108 } s m args below meth c H locs 0 0 (QV A D cA ad below args s nu (F_Md_pushAll mu)) (F0 m 0 ls []) := by
  have hx := C.1
  have hb := C.2.1
  have hts := C.2.2.2.2.2.1
  have hown := C.2.2.2.2.1
  unfold F_Md_pushAll
  refine lv_aload_n hx hb dX7_pushAll_0 rfl (lv_at hl 0 rfl) ?_
  refine lv_aload_n hx hb dX7_pushAll_1 rfl (lv_at hl 0 rfl) ?_
  refine gt_12_6 C (fun _ h => List.mem_cons_of_mem _ (List.mem_append_right _ h)) (hts _ (List.mem_of_getElem? (i := 1) rfl)) w (v := (mu 12 6)) rfl dX7_pushAll_2 ?_
  refine kcV (k := 12) (ci := 7) (As := [.int ((mu 12 6))]) (rest := []) C w rfl rfl (c_Md_pushWord l A D cA tb ad mu nu (mu 12 6)) (cwV 1 hts gX7_pushAll_X7_pushWord rfl rfl rfl (by decide +kernel) ⟨Nat.le_of_ble_eq_true rfl, Nat.le_of_ble_eq_true rfl⟩) rfl rfl hl.1 (Nat.le_of_ble_eq_true rfl) dX7_pushAll_5 (fun H locs w => ?_)
  exact k_Md_pushAll_8 C w (lv_sub hl [0] rfl)
set_option maxHeartbeats 4000000 in
set_option maxRecDepth 100000 in
theorem c_Md_pushAll (l : Launch) (A : Nat → Prop) (D : va_G) (cA : Nat → ClassId) (tb : Nat) (ad : Nat → Nat) (mu nu : Mu) : Met l yX7_pushAll wsX7_pushAll ({ frames := 5, cells := 0, slots := 0, locals := 108 }) (va_Pc [.ref (ad 12)] (Pw A D cA tb ad nu mu)) (va_Qv (fun (u : Mu × Mu) => u = (nu, F_Md_pushAll mu)) (Bw A D cA ad) A) 0 0 A := by
  refine Met.ofW (cc := cX7_pushAll) (maxL := 1) (ret := none) (by decide) rfl ?_
  intro p e s m args below meth c s₁ B hml hv
  obtain ⟨rfl, w0⟩ := hv
  have C : Cx cX7_pushAll 1 none wsX7_pushAll RX7 A D cA tb p s m _ meth c := ⟨B.exec, B.bytes, B.returns, hml, findClass_of_methodNamed B.named, atoms_spec (ws := wsX7_pushAll) B.pre, B.notSynchronized, w0.2.1, w0.2.2.2.1, w0.2.2.2.2⟩
  have hl := lv_entry ([.ref (ad 12)]) (n := 1) (Nat.le_of_ble_eq_true rfl)
  rw [lg_entry_eq]
  exact k_Md_pushAll C w0.wd hl
def F_Md_endPulses_34b (mu : Mu) : Mu := mu
set_option maxHeartbeats 4000000 in
set_option maxRecDepth 100000 in
theorem k_Md_endPulses_34b (C : Cx cX7_endPulses 2 none wsX7_endPulses RX7 A D cA tb p s m args meth c) {mu nu : Mu} {H : Heap} {locs : List Loc} {ls : Array Slot} (w : Wd A D cA ad s nu mu H locs) (hl : lv_has ls 2 [(0, .ref (ad 12)), (1, .int (1 : Int32))]) : W p l e { frames := 1, cells := 0, slots := 0, locals := 21 } s m args below meth c H locs 0 0 (QV A D cA ad below args s nu (F_Md_endPulses_34b mu)) (F0 m 34 ls []) := by
  have hx := C.1
  have hb := C.2.1
  have hts := C.2.2.2.2.2.1
  have hown := C.2.2.2.2.1
  unfold F_Md_endPulses_34b
  refine lv_iinc (v := (2 : Int32)) (lv' := [(1, .int (2 : Int32)), (0, .ref (ad 12))]) hx hb dX7_endPulses_34 hl (k := 1) rfl (by first | rfl | decide) (by decide) rfl (fun ls hl => ?_)
  refine lv_goto (tgt := 2) hx hb dX7_endPulses_37 (by decide) ?_
  refine lv_iload_n hx hb dX7_endPulses_2 rfl (lv_at hl 0 rfl) ?_
  refine lv_iconst (v := 2) hx hb dX7_endPulses_3 (by decide) ?_
  refine lv_icmp_ge (tgt := 40) hx hb dX7_endPulses_4 (by decide) (fun h4 => ?_) (fun h4 => ?_)
  · exact retV C w dX7_endPulses_40
  · exact absurd h4 (by decide)
def F_Md_endPulses_34a (mu : Mu) : Mu := (if (F_Md_answers (1 : Int32) mu) = (0 : Int32) then F_Md_endPulses_34b mu else (if ((mu 17 (1 : Int32).toNatClampNeg) &&& (8 : Int32)) = (0 : Int32) then F_Md_endPulses_34b mu else F_Md_endPulses_34b (ps mu 20 (1 : Int32).toNatClampNeg (1 : Int32))))
set_option maxHeartbeats 4000000 in
set_option maxRecDepth 100000 in
theorem k_Md_endPulses_34a (C : Cx cX7_endPulses 2 none wsX7_endPulses RX7 A D cA tb p s m args meth c) {mu nu : Mu} {H : Heap} {locs : List Loc} {ls : Array Slot} (w : Wd A D cA ad s nu mu H locs) (hl : lv_has ls 2 [(0, .ref (ad 12)), (1, .int (0 : Int32))]) : W p l e { frames := 1, cells := 0, slots := 0, locals := 21 } s m args below meth c H locs 0 0 (QV A D cA ad below args s nu (F_Md_endPulses_34a mu)) (F0 m 34 ls []) := by
  have hx := C.1
  have hb := C.2.1
  have hts := C.2.2.2.2.2.1
  have hown := C.2.2.2.2.1
  unfold F_Md_endPulses_34a
  refine lv_iinc (v := (1 : Int32)) (lv' := [(1, .int (1 : Int32)), (0, .ref (ad 12))]) hx hb dX7_endPulses_34 hl (k := 1) rfl (by first | rfl | decide) (by decide) rfl (fun ls hl => ?_)
  refine lv_goto (tgt := 2) hx hb dX7_endPulses_37 (by decide) ?_
  refine lv_iload_n hx hb dX7_endPulses_2 rfl (lv_at hl 0 rfl) ?_
  refine lv_iconst (v := 2) hx hb dX7_endPulses_3 (by decide) ?_
  refine lv_icmp_ge (tgt := 40) hx hb dX7_endPulses_4 (by decide) (fun h4 => ?_) (fun h4 => ?_)
  · exact absurd h4 (by decide)
  · refine lv_aload_n hx hb dX7_endPulses_7 rfl (lv_at hl 1 rfl) ?_
    refine lv_iload_n hx hb dX7_endPulses_8 rfl (lv_at hl 0 rfl) ?_
    refine kcI (k := 12) (ci := 7) (As := [.int (1 : Int32)]) (rest := []) C w rfl rfl (c_Md_answers l A D cA tb ad mu nu (1 : Int32) (by first | exact Or.inl rfl | exact Or.inr rfl)) (cwV 1 hts gX7_endPulses_X7_answers rfl rfl rfl (by decide +kernel) ⟨Nat.le_of_ble_eq_true rfl, Nat.le_of_ble_eq_true rfl⟩) rfl rfl hl.1 (Nat.le_of_ble_eq_true rfl) dX7_endPulses_9 (fun H locs w => ?_)
    refine lv_if_eq (tgt := 34) hx hb dX7_endPulses_12 (by decide) (fun h12 => ?_) (fun h12 => ?_)
    · rw [if_pos h12]
      exact k_Md_endPulses_34b C w (lv_sub hl [1, 0] rfl)
    · rw [if_neg h12]
      refine lv_aload_n hx hb dX7_endPulses_15 rfl (lv_at hl 1 rfl) ?_
      refine gt_12_12 C (fun _ h => List.mem_cons_of_mem _ (List.mem_append_right _ h)) (hts _ (List.mem_of_getElem? (i := 1) rfl)) w dX7_endPulses_16 ?_
      refine lv_iload_n hx hb dX7_endPulses_19 rfl (lv_at hl 0 rfl) ?_
      refine ia_17 C w (v_side (by first | exact Or.inl rfl | exact Or.inr rfl)) (v := (mu 17 (1 : Int32).toNatClampNeg)) rfl dX7_endPulses_20 ?_
      refine lv_bipush (v := 8) hx hb dX7_endPulses_21 (by decide) ?_
      refine lv_iand hx hb dX7_endPulses_23 ?_
      refine lv_if_eq (tgt := 34) hx hb dX7_endPulses_24 (by decide) (fun h24 => ?_) (fun h24 => ?_)
      · rw [if_pos h24]
        exact k_Md_endPulses_34b C w (lv_sub hl [1, 0] rfl)
      · rw [if_neg h24]
        refine lv_aload_n hx hb dX7_endPulses_27 rfl (lv_at hl 1 rfl) ?_
        refine gt_12_15 C (fun _ h => List.mem_cons_of_mem _ (List.mem_append_right _ h)) (hts _ (List.mem_of_getElem? (i := 2) rfl)) w dX7_endPulses_28 ?_
        refine lv_iload_n hx hb dX7_endPulses_31 rfl (lv_at hl 0 rfl) ?_
        refine lv_iconst (v := 1) hx hb dX7_endPulses_32 (by decide) ?_
        refine is_20 C w (v_side (by first | exact Or.inl rfl | exact Or.inr rfl)) dX7_endPulses_33 (fun H locs w => ?_)
        exact k_Md_endPulses_34b C w (lv_sub hl [1, 0] rfl)
def F_Md_endPulses (mu : Mu) : Mu := (if (F_Md_answers (0 : Int32) mu) = (0 : Int32) then F_Md_endPulses_34a mu else (if ((mu 17 (0 : Int32).toNatClampNeg) &&& (8 : Int32)) = (0 : Int32) then F_Md_endPulses_34a mu else F_Md_endPulses_34a (ps mu 20 (0 : Int32).toNatClampNeg (1 : Int32))))
set_option maxHeartbeats 4000000 in
set_option maxRecDepth 100000 in
theorem k_Md_endPulses (C : Cx cX7_endPulses 2 none wsX7_endPulses RX7 A D cA tb p s m args meth c) {mu nu : Mu} {H : Heap} {locs : List Loc} {ls : Array Slot} (w : Wd A D cA ad s nu mu H locs) (hl : lv_has ls 2 [(0, .ref (ad 12))]) : W p l e { frames := 1, cells := 0, slots := 0, locals := 21 } s m args below meth c H locs 0 0 (QV A D cA ad below args s nu (F_Md_endPulses mu)) (F0 m 0 ls []) := by
  have hx := C.1
  have hb := C.2.1
  have hts := C.2.2.2.2.2.1
  have hown := C.2.2.2.2.1
  unfold F_Md_endPulses
  refine lv_iconst (v := 0) hx hb dX7_endPulses_0 (by decide) ?_
  refine lv_istore_n (lv' := [(1, .int (0 : Int32)), (0, .ref (ad 12))]) hx hb dX7_endPulses_1 rfl hl (by decide) rfl (fun ls hl => ?_)
  refine lv_iload_n hx hb dX7_endPulses_2 rfl (lv_at hl 0 rfl) ?_
  refine lv_iconst (v := 2) hx hb dX7_endPulses_3 (by decide) ?_
  refine lv_icmp_ge (tgt := 40) hx hb dX7_endPulses_4 (by decide) (fun h4 => ?_) (fun h4 => ?_)
  · exact absurd h4 (by decide)
  · refine lv_aload_n hx hb dX7_endPulses_7 rfl (lv_at hl 1 rfl) ?_
    refine lv_iload_n hx hb dX7_endPulses_8 rfl (lv_at hl 0 rfl) ?_
    refine kcI (k := 12) (ci := 7) (As := [.int (0 : Int32)]) (rest := []) C w rfl rfl (c_Md_answers l A D cA tb ad mu nu (0 : Int32) (by first | exact Or.inl rfl | exact Or.inr rfl)) (cwV 1 hts gX7_endPulses_X7_answers rfl rfl rfl (by decide +kernel) ⟨Nat.le_of_ble_eq_true rfl, Nat.le_of_ble_eq_true rfl⟩) rfl rfl hl.1 (Nat.le_of_ble_eq_true rfl) dX7_endPulses_9 (fun H locs w => ?_)
    refine lv_if_eq (tgt := 34) hx hb dX7_endPulses_12 (by decide) (fun h12 => ?_) (fun h12 => ?_)
    · rw [if_pos h12]
      exact k_Md_endPulses_34a C w (lv_sub hl [1, 0] rfl)
    · rw [if_neg h12]
      refine lv_aload_n hx hb dX7_endPulses_15 rfl (lv_at hl 1 rfl) ?_
      refine gt_12_12 C (fun _ h => List.mem_cons_of_mem _ (List.mem_append_right _ h)) (hts _ (List.mem_of_getElem? (i := 1) rfl)) w dX7_endPulses_16 ?_
      refine lv_iload_n hx hb dX7_endPulses_19 rfl (lv_at hl 0 rfl) ?_
      refine ia_17 C w (v_side (by first | exact Or.inl rfl | exact Or.inr rfl)) (v := (mu 17 (0 : Int32).toNatClampNeg)) rfl dX7_endPulses_20 ?_
      refine lv_bipush (v := 8) hx hb dX7_endPulses_21 (by decide) ?_
      refine lv_iand hx hb dX7_endPulses_23 ?_
      refine lv_if_eq (tgt := 34) hx hb dX7_endPulses_24 (by decide) (fun h24 => ?_) (fun h24 => ?_)
      · rw [if_pos h24]
        exact k_Md_endPulses_34a C w (lv_sub hl [1, 0] rfl)
      · rw [if_neg h24]
        refine lv_aload_n hx hb dX7_endPulses_27 rfl (lv_at hl 1 rfl) ?_
        refine gt_12_15 C (fun _ h => List.mem_cons_of_mem _ (List.mem_append_right _ h)) (hts _ (List.mem_of_getElem? (i := 2) rfl)) w dX7_endPulses_28 ?_
        refine lv_iload_n hx hb dX7_endPulses_31 rfl (lv_at hl 0 rfl) ?_
        refine lv_iconst (v := 1) hx hb dX7_endPulses_32 (by decide) ?_
        refine is_20 C w (v_side (by first | exact Or.inl rfl | exact Or.inr rfl)) dX7_endPulses_33 (fun H locs w => ?_)
        exact k_Md_endPulses_34a C w (lv_sub hl [1, 0] rfl)
set_option maxHeartbeats 4000000 in
set_option maxRecDepth 100000 in
theorem c_Md_endPulses (l : Launch) (A : Nat → Prop) (D : va_G) (cA : Nat → ClassId) (tb : Nat) (ad : Nat → Nat) (mu nu : Mu) : Met l yX7_endPulses wsX7_endPulses ({ frames := 1, cells := 0, slots := 0, locals := 21 }) (va_Pc [.ref (ad 12)] (Pw A D cA tb ad nu mu)) (va_Qv (fun (u : Mu × Mu) => u = (nu, F_Md_endPulses mu)) (Bw A D cA ad) A) 0 0 A := by
  refine Met.ofW (cc := cX7_endPulses) (maxL := 2) (ret := none) (by decide) rfl ?_
  intro p e s m args below meth c s₁ B hml hv
  obtain ⟨rfl, w0⟩ := hv
  have C : Cx cX7_endPulses 2 none wsX7_endPulses RX7 A D cA tb p s m _ meth c := ⟨B.exec, B.bytes, B.returns, hml, findClass_of_methodNamed B.named, atoms_spec (ws := wsX7_endPulses) B.pre, B.notSynchronized, w0.2.1, w0.2.2.2.1, w0.2.2.2.2⟩
  have hl := lv_entry ([.ref (ad 12)]) (n := 2) (Nat.le_of_ble_eq_true rfl)
  rw [lg_entry_eq]
  exact k_Md_endPulses C w0.wd hl
def F_Md_next_8 (y0 : Int32) (mu : Mu) : Int32 × Mu := (y0, (ps mu 12 6 (((mu 12 6) + 1) &&& 65535)))
set_option maxHeartbeats 4000000 in
set_option maxRecDepth 100000 in
theorem k_Md_next_8 (C : Cx cX7_next 2 (some .int) wsX7_next RX7 A D cA tb p s m args meth c) {mu nu : Mu} {y0 : Int32} {H : Heap} {locs : List Loc} {ls : Array Slot} (w : Wd A D cA ad s nu mu H locs) (hl : lv_has ls 2 [(0, .ref (ad 12))]) : W p l e { frames := 3, cells := 0, slots := 0, locals := 64 } s m args below meth c H locs 0 0 (QI A D cA ad below args s (F_Md_next_8 y0 mu).1 nu (F_Md_next_8 y0 mu).2) (F0 m 8 ls [.int y0]) := by
  have hx := C.1
  have hb := C.2.1
  have hts := C.2.2.2.2.2.1
  have hown := C.2.2.2.2.1
  unfold F_Md_next_8
  refine lv_istore_n (lv' := [(1, .int y0), (0, .ref (ad 12))]) hx hb dX7_next_8 rfl hl (by decide) rfl (fun ls hl => ?_)
  refine lv_aload_n hx hb dX7_next_9 rfl (lv_at hl 1 rfl) ?_
  refine lv_aload_n hx hb dX7_next_10 rfl (lv_at hl 1 rfl) ?_
  refine gt_12_6 C (fun _ h => List.mem_cons_of_mem _ (List.mem_append_right _ h)) (hts _ (List.mem_of_getElem? (i := 1) rfl)) w (v := (mu 12 6)) rfl dX7_next_11 ?_
  refine lv_iconst (v := 1) hx hb dX7_next_14 (by decide) ?_
  refine lv_iadd hx hb dX7_next_15 ?_
  refine lv_ldc (v := 65535) hx hb hown (hts _ (List.mem_of_getElem? (i := 2) rfl)) dX7_next_16 ?_
  refine lv_iand hx hb dX7_next_18 ?_
  refine pt_12_6 C (fun _ h => List.mem_cons_of_mem _ (List.mem_append_right _ h)) (hts _ (List.mem_of_getElem? (i := 1) rfl)) w dX7_next_19 (fun H locs w => ?_)
  refine lv_iload_n hx hb dX7_next_22 rfl (lv_at hl 0 rfl) ?_
  exact retI C w dX7_next_23
def F_Md_next (mu : Mu) : Int32 × Mu := F_Md_next_8 ((F_Md_read (mu 12 6) mu).1) ((F_Md_read (mu 12 6) mu).2)
set_option maxHeartbeats 4000000 in
set_option maxRecDepth 100000 in
theorem k_Md_next (C : Cx cX7_next 2 (some .int) wsX7_next RX7 A D cA tb p s m args meth c) {mu nu : Mu} {H : Heap} {locs : List Loc} {ls : Array Slot} (w : Wd A D cA ad s nu mu H locs) (hl : lv_has ls 2 [(0, .ref (ad 12))]) : W p l e { frames := 3, cells := 0, slots := 0, locals := 64 } s m args below meth c H locs 0 0 (QI A D cA ad below args s (F_Md_next mu).1 nu (F_Md_next mu).2) (F0 m 0 ls []) := by
  have hx := C.1
  have hb := C.2.1
  have hts := C.2.2.2.2.2.1
  have hown := C.2.2.2.2.1
  unfold F_Md_next
  refine lv_aload_n hx hb dX7_next_0 rfl (lv_at hl 0 rfl) ?_
  refine lv_aload_n hx hb dX7_next_1 rfl (lv_at hl 0 rfl) ?_
  refine gt_12_6 C (fun _ h => List.mem_cons_of_mem _ (List.mem_append_right _ h)) (hts _ (List.mem_of_getElem? (i := 1) rfl)) w (v := (mu 12 6)) rfl dX7_next_2 ?_
  refine kcI (k := 12) (ci := 7) (As := [.int ((mu 12 6))]) (rest := []) C w rfl rfl (c_Md_read l A D cA tb ad mu nu (mu 12 6)) (cwV 1 hts gX7_next_X7_read rfl rfl rfl (by decide +kernel) ⟨Nat.le_of_ble_eq_true rfl, Nat.le_of_ble_eq_true rfl⟩) rfl rfl hl.1 (Nat.le_of_ble_eq_true rfl) dX7_next_5 (fun H locs w => ?_)
  exact k_Md_next_8 C w (lv_sub hl [0] rfl)
set_option maxHeartbeats 4000000 in
set_option maxRecDepth 100000 in
theorem c_Md_next (l : Launch) (A : Nat → Prop) (D : va_G) (cA : Nat → ClassId) (tb : Nat) (ad : Nat → Nat) (mu nu : Mu) : Met l yX7_next wsX7_next ({ frames := 3, cells := 0, slots := 0, locals := 64 }) (va_Pc [.ref (ad 12)] (Pw A D cA tb ad nu mu)) (va_Qi (fun (r : Int32) (u : Mu × Mu) => r = (F_Md_next mu).1 ∧ u = (nu, (F_Md_next mu).2)) (Bw A D cA ad) A) 0 0 A := by
  refine Met.ofW (cc := cX7_next) (maxL := 2) (ret := (some .int)) (by decide) rfl ?_
  intro p e s m args below meth c s₁ B hml hv
  obtain ⟨rfl, w0⟩ := hv
  have C : Cx cX7_next 2 (some .int) wsX7_next RX7 A D cA tb p s m _ meth c := ⟨B.exec, B.bytes, B.returns, hml, findClass_of_methodNamed B.named, atoms_spec (ws := wsX7_next) B.pre, B.notSynchronized, w0.2.1, w0.2.2.2.1, w0.2.2.2.2⟩
  have hl := lv_entry ([.ref (ad 12)]) (n := 2) (Nat.le_of_ble_eq_true rfl)
  rw [lg_entry_eq]
  exact k_Md_next C w0.wd hl
def F_Md_signed (x0 : Int32) (mu : Mu) : Int32 := (if x0 ≤ (127 : Int32) then x0 else (x0 - 256))
set_option maxHeartbeats 4000000 in
set_option maxRecDepth 100000 in
theorem k_Md_signed (C : Cx cX7_signed 1 (some .int) wsX7_signed RX7 A D cA tb p s m args meth c) {mu nu : Mu} {x0 : Int32} {H : Heap} {locs : List Loc} {ls : Array Slot} (w : Wd A D cA ad s nu mu H locs) (hl : lv_has ls 1 [(0, .int x0)]) : W p l e { frames := 0, cells := 0, slots := 0, locals := 0 } s m args below meth c H locs 0 0 (QI A D cA ad below args s (F_Md_signed x0 mu) nu mu) (F0 m 0 ls []) := by
  have hx := C.1
  have hb := C.2.1
  have hts := C.2.2.2.2.2.1
  have hown := C.2.2.2.2.1
  unfold F_Md_signed
  refine lv_iload_n hx hb dX7_signed_0 rfl (lv_at hl 0 rfl) ?_
  refine lv_bipush (v := 127) hx hb dX7_signed_1 (by decide) ?_
  refine lv_icmp_le (tgt := 14) hx hb dX7_signed_3 (by decide) (fun h3 => ?_) (fun h3 => ?_)
  · rw [if_pos h3]
    refine lv_iload_n hx hb dX7_signed_14 rfl (lv_at hl 0 rfl) ?_
    exact retI C w dX7_signed_15
  · rw [if_neg h3]
    refine lv_iload_n hx hb dX7_signed_6 rfl (lv_at hl 0 rfl) ?_
    refine lv_sipush (v := 256) hx hb dX7_signed_7 (by decide) ?_
    refine lv_isub hx hb dX7_signed_10 ?_
    refine lv_goto (tgt := 15) hx hb dX7_signed_11 (by decide) ?_
    exact retI C w dX7_signed_15
set_option maxHeartbeats 4000000 in
set_option maxRecDepth 100000 in
theorem c_Md_signed (l : Launch) (A : Nat → Prop) (D : va_G) (cA : Nat → ClassId) (tb : Nat) (ad : Nat → Nat) (mu nu : Mu) (x0 : Int32) : Met l yX7_signed wsX7_signed ({ frames := 0, cells := 0, slots := 0, locals := 0 }) (va_Pc [.int x0] (Pw A D cA tb ad nu mu)) (va_Qi (fun (r : Int32) (u : Mu × Mu) => r = F_Md_signed x0 mu ∧ u = (nu, mu)) (Bw A D cA ad) A) 0 0 A := by
  refine Met.ofW (cc := cX7_signed) (maxL := 1) (ret := (some .int)) (by decide) rfl ?_
  intro p e s m args below meth c s₁ B hml hv
  obtain ⟨rfl, w0⟩ := hv
  have C : Cx cX7_signed 1 (some .int) wsX7_signed RX7 A D cA tb p s m _ meth c := ⟨B.exec, B.bytes, B.returns, hml, findClass_of_methodNamed B.named, atoms_spec (ws := wsX7_signed) B.pre, B.notSynchronized, w0.2.1, w0.2.2.2.1, w0.2.2.2.2⟩
  have hl := lv_entry ([.int x0]) (n := 1) (Nat.le_of_ble_eq_true rfl)
  rw [lg_entry_eq]
  exact k_Md_signed C w0.wd hl
def F_Md_nz_34 (x1 : Int32) (y1 : Int32) (y2 : Int32) (mu : Mu) : Int32 × Mu := ((x1 &&& 255), (F_Md_tell y1 y2 mu))
set_option maxHeartbeats 4000000 in
set_option maxRecDepth 100000 in
theorem k_Md_nz_34 (C : Cx cX7_nz 2 (some .int) wsX7_nz RX7 A D cA tb p s m args meth c) {mu nu : Mu} {x1 : Int32} {y1 : Int32} {y2 : Int32} {H : Heap} {locs : List Loc} {ls : Array Slot} (w : Wd A D cA ad s nu mu H locs) (hl : lv_has ls 2 [(1, .int x1)]) : W p l e { frames := 1, cells := 0, slots := 0, locals := 22 } s m args below meth c H locs 0 0 (QI A D cA ad below args s (F_Md_nz_34 x1 y1 y2 mu).1 nu (F_Md_nz_34 x1 y1 y2 mu).2) (F0 m 34 ls [.int y2, .int y1, .ref (ad 12)]) := by
  have hx := C.1
  have hb := C.2.1
  have hts := C.2.2.2.2.2.1
  have hown := C.2.2.2.2.1
  unfold F_Md_nz_34
  refine kcV (k := 12) (ci := 7) (As := [.int y1, .int y2]) (rest := []) C w rfl rfl (c_Md_tell l A D cA tb ad mu nu y1 y2) (cwV 2 hts gX7_nz_X7_tell rfl rfl rfl (by decide +kernel) ⟨Nat.le_of_ble_eq_true rfl, Nat.le_of_ble_eq_true rfl⟩) rfl rfl hl.1 (Nat.le_of_ble_eq_true rfl) dX7_nz_34 (fun H locs w => ?_)
  refine lv_iload_n hx hb dX7_nz_37 rfl (lv_at hl 0 rfl) ?_
  refine lv_sipush (v := 255) hx hb dX7_nz_38 (by decide) ?_
  refine lv_iand hx hb dX7_nz_41 ?_
  exact retI C w dX7_nz_42
def F_Md_nz_19 (x1 : Int32) (mu : Mu) : Int32 × Mu := (if (x1 &&& 255) = (0 : Int32) then F_Md_nz_34 x1 4 1 mu else F_Md_nz_34 x1 4 0 mu)
set_option maxHeartbeats 4000000 in
set_option maxRecDepth 100000 in
theorem k_Md_nz_19 (C : Cx cX7_nz 2 (some .int) wsX7_nz RX7 A D cA tb p s m args meth c) {mu nu : Mu} {x1 : Int32} {H : Heap} {locs : List Loc} {ls : Array Slot} (w : Wd A D cA ad s nu mu H locs) (hl : lv_has ls 2 [(0, .ref (ad 12)), (1, .int x1)]) : W p l e { frames := 1, cells := 0, slots := 0, locals := 22 } s m args below meth c H locs 0 0 (QI A D cA ad below args s (F_Md_nz_19 x1 mu).1 nu (F_Md_nz_19 x1 mu).2) (F0 m 19 ls []) := by
  have hx := C.1
  have hb := C.2.1
  have hts := C.2.2.2.2.2.1
  have hown := C.2.2.2.2.1
  unfold F_Md_nz_19
  refine lv_aload_n hx hb dX7_nz_19 rfl (lv_at hl 0 rfl) ?_
  refine lv_iconst (v := 4) hx hb dX7_nz_20 (by decide) ?_
  refine lv_iload_n hx hb dX7_nz_21 rfl (lv_at hl 1 rfl) ?_
  refine lv_sipush (v := 255) hx hb dX7_nz_22 (by decide) ?_
  refine lv_iand hx hb dX7_nz_25 ?_
  refine lv_if_ne (tgt := 33) hx hb dX7_nz_26 (by decide) (fun h26 => ?_) (fun h26 => ?_)
  · rw [if_neg h26]
    refine lv_iconst (v := 0) hx hb dX7_nz_33 (by decide) ?_
    exact k_Md_nz_34 C w (lv_sub hl [1] rfl)
  · rw [if_pos h26]
    refine lv_iconst (v := 1) hx hb dX7_nz_29 (by decide) ?_
    refine lv_goto (tgt := 34) hx hb dX7_nz_30 (by decide) ?_
    exact k_Md_nz_34 C w (lv_sub hl [1] rfl)
def F_Md_nz_16 (x1 : Int32) (y1 : Int32) (y2 : Int32) (mu : Mu) : Int32 × Mu := F_Md_nz_19 x1 (F_Md_tell y1 y2 mu)
set_option maxHeartbeats 4000000 in
set_option maxRecDepth 100000 in
theorem k_Md_nz_16 (C : Cx cX7_nz 2 (some .int) wsX7_nz RX7 A D cA tb p s m args meth c) {mu nu : Mu} {x1 : Int32} {y1 : Int32} {y2 : Int32} {H : Heap} {locs : List Loc} {ls : Array Slot} (w : Wd A D cA ad s nu mu H locs) (hl : lv_has ls 2 [(0, .ref (ad 12)), (1, .int x1)]) : W p l e { frames := 1, cells := 0, slots := 0, locals := 22 } s m args below meth c H locs 0 0 (QI A D cA ad below args s (F_Md_nz_16 x1 y1 y2 mu).1 nu (F_Md_nz_16 x1 y1 y2 mu).2) (F0 m 16 ls [.int y2, .int y1, .ref (ad 12)]) := by
  have hx := C.1
  have hb := C.2.1
  have hts := C.2.2.2.2.2.1
  have hown := C.2.2.2.2.1
  unfold F_Md_nz_16
  refine kcV (k := 12) (ci := 7) (As := [.int y1, .int y2]) (rest := []) C w rfl rfl (c_Md_tell l A D cA tb ad mu nu y1 y2) (cwV 2 hts gX7_nz_X7_tell rfl rfl rfl (by decide +kernel) ⟨Nat.le_of_ble_eq_true rfl, Nat.le_of_ble_eq_true rfl⟩) rfl rfl hl.1 (Nat.le_of_ble_eq_true rfl) dX7_nz_16 (fun H locs w => ?_)
  exact k_Md_nz_19 C w (lv_sub hl [0, 1] rfl)
def F_Md_nz (x1 : Int32) (mu : Mu) : Int32 × Mu := (if (x1 &&& 128) = (0 : Int32) then F_Md_nz_16 x1 8 0 mu else F_Md_nz_16 x1 8 1 mu)
set_option maxHeartbeats 4000000 in
set_option maxRecDepth 100000 in
theorem k_Md_nz (C : Cx cX7_nz 2 (some .int) wsX7_nz RX7 A D cA tb p s m args meth c) {mu nu : Mu} {x1 : Int32} {H : Heap} {locs : List Loc} {ls : Array Slot} (w : Wd A D cA ad s nu mu H locs) (hl : lv_has ls 2 [(0, .ref (ad 12)), (1, .int x1)]) : W p l e { frames := 1, cells := 0, slots := 0, locals := 22 } s m args below meth c H locs 0 0 (QI A D cA ad below args s (F_Md_nz x1 mu).1 nu (F_Md_nz x1 mu).2) (F0 m 0 ls []) := by
  have hx := C.1
  have hb := C.2.1
  have hts := C.2.2.2.2.2.1
  have hown := C.2.2.2.2.1
  unfold F_Md_nz
  refine lv_aload_n hx hb dX7_nz_0 rfl (lv_at hl 0 rfl) ?_
  refine lv_bipush (v := 8) hx hb dX7_nz_1 (by decide) ?_
  refine lv_iload_n hx hb dX7_nz_3 rfl (lv_at hl 1 rfl) ?_
  refine lv_sipush (v := 128) hx hb dX7_nz_4 (by decide) ?_
  refine lv_iand hx hb dX7_nz_7 ?_
  refine lv_if_eq (tgt := 15) hx hb dX7_nz_8 (by decide) (fun h8 => ?_) (fun h8 => ?_)
  · rw [if_pos h8]
    refine lv_iconst (v := 0) hx hb dX7_nz_15 (by decide) ?_
    exact k_Md_nz_16 C w (lv_sub hl [0, 1] rfl)
  · rw [if_neg h8]
    refine lv_iconst (v := 1) hx hb dX7_nz_11 (by decide) ?_
    refine lv_goto (tgt := 16) hx hb dX7_nz_12 (by decide) ?_
    exact k_Md_nz_16 C w (lv_sub hl [0, 1] rfl)
set_option maxHeartbeats 4000000 in
set_option maxRecDepth 100000 in
theorem c_Md_nz (l : Launch) (A : Nat → Prop) (D : va_G) (cA : Nat → ClassId) (tb : Nat) (ad : Nat → Nat) (mu nu : Mu) (x1 : Int32) : Met l yX7_nz wsX7_nz ({ frames := 1, cells := 0, slots := 0, locals := 22 }) (va_Pc [.ref (ad 12), .int x1] (Pw A D cA tb ad nu mu)) (va_Qi (fun (r : Int32) (u : Mu × Mu) => r = (F_Md_nz x1 mu).1 ∧ u = (nu, (F_Md_nz x1 mu).2)) (Bw A D cA ad) A) 0 0 A := by
  refine Met.ofW (cc := cX7_nz) (maxL := 2) (ret := (some .int)) (by decide) rfl ?_
  intro p e s m args below meth c s₁ B hml hv
  obtain ⟨rfl, w0⟩ := hv
  have C : Cx cX7_nz 2 (some .int) wsX7_nz RX7 A D cA tb p s m _ meth c := ⟨B.exec, B.bytes, B.returns, hml, findClass_of_methodNamed B.named, atoms_spec (ws := wsX7_nz) B.pre, B.notSynchronized, w0.2.1, w0.2.2.2.1, w0.2.2.2.2⟩
  have hl := lv_entry ([.ref (ad 12), .int x1]) (n := 2) (Nat.le_of_ble_eq_true rfl)
  rw [lg_entry_eq]
  exact k_Md_nz C w0.wd hl
def F_Md_plus_85 (x1 : Int32) (x2 : Int32) (x3 : Int32) (mu : Mu) : Int32 × Mu := ((F_Md_nz ((x1 + x2) + x3) mu).1, (F_Md_nz ((x1 + x2) + x3) mu).2)
set_option maxHeartbeats 4000000 in
set_option maxRecDepth 100000 in
theorem k_Md_plus_85 (C : Cx cX7_plus 5 (some .int) wsX7_plus RX7 A D cA tb p s m args meth c) {mu nu : Mu} {x1 : Int32} {x2 : Int32} {x3 : Int32} {H : Heap} {locs : List Loc} {ls : Array Slot} (w : Wd A D cA ad s nu mu H locs) (hl : lv_has ls 5 [(0, .ref (ad 12)), (1, .int x1), (2, .int x2), (3, .int x3)]) : W p l e { frames := 2, cells := 0, slots := 0, locals := 43 } s m args below meth c H locs 0 0 (QI A D cA ad below args s (F_Md_plus_85 x1 x2 x3 mu).1 nu (F_Md_plus_85 x1 x2 x3 mu).2) (F0 m 85 ls []) := by
  have hx := C.1
  have hb := C.2.1
  have hts := C.2.2.2.2.2.1
  have hown := C.2.2.2.2.1
  unfold F_Md_plus_85
  refine lv_aload_n hx hb dX7_plus_85 rfl (lv_at hl 0 rfl) ?_
  refine lv_iload_n hx hb dX7_plus_86 rfl (lv_at hl 1 rfl) ?_
  refine lv_iload_n hx hb dX7_plus_87 rfl (lv_at hl 2 rfl) ?_
  refine lv_iadd hx hb dX7_plus_88 ?_
  refine lv_iload_n hx hb dX7_plus_89 rfl (lv_at hl 3 rfl) ?_
  refine lv_iadd hx hb dX7_plus_90 ?_
  refine kcI (k := 12) (ci := 7) (As := [.int (((x1 + x2) + x3))]) (rest := []) C w rfl rfl (c_Md_nz l A D cA tb ad mu nu ((x1 + x2) + x3)) (cwV 1 hts gX7_plus_X7_nz rfl rfl rfl (by decide +kernel) ⟨Nat.le_of_ble_eq_true rfl, Nat.le_of_ble_eq_true rfl⟩) rfl rfl hl.1 (Nat.le_of_ble_eq_true rfl) dX7_plus_91 (fun H locs w => ?_)
  exact retI C w dX7_plus_94
def F_Md_plus_82 (x1 : Int32) (x2 : Int32) (x3 : Int32) (y1 : Int32) (y2 : Int32) (mu : Mu) : Int32 × Mu := F_Md_plus_85 x1 x2 x3 (F_Md_tell y1 y2 mu)
set_option maxHeartbeats 4000000 in
set_option maxRecDepth 100000 in
theorem k_Md_plus_82 (C : Cx cX7_plus 5 (some .int) wsX7_plus RX7 A D cA tb p s m args meth c) {mu nu : Mu} {x1 : Int32} {x2 : Int32} {x3 : Int32} {y1 : Int32} {y2 : Int32} {H : Heap} {locs : List Loc} {ls : Array Slot} (w : Wd A D cA ad s nu mu H locs) (hl : lv_has ls 5 [(0, .ref (ad 12)), (1, .int x1), (2, .int x2), (3, .int x3)]) : W p l e { frames := 2, cells := 0, slots := 0, locals := 43 } s m args below meth c H locs 0 0 (QI A D cA ad below args s (F_Md_plus_82 x1 x2 x3 y1 y2 mu).1 nu (F_Md_plus_82 x1 x2 x3 y1 y2 mu).2) (F0 m 82 ls [.int y2, .int y1, .ref (ad 12)]) := by
  have hx := C.1
  have hb := C.2.1
  have hts := C.2.2.2.2.2.1
  have hown := C.2.2.2.2.1
  unfold F_Md_plus_82
  refine kcV (k := 12) (ci := 7) (As := [.int y1, .int y2]) (rest := []) C w rfl rfl (c_Md_tell l A D cA tb ad mu nu y1 y2) (cwV 2 hts gX7_plus_X7_tell rfl rfl rfl (by decide +kernel) ⟨Nat.le_of_ble_eq_true rfl, Nat.le_of_ble_eq_true rfl⟩) rfl rfl hl.1 (Nat.le_of_ble_eq_true rfl) dX7_plus_82 (fun H locs w => ?_)
  exact k_Md_plus_85 C w (lv_sub hl [0, 1, 2, 3] rfl)
def F_Md_plus_64 (x1 : Int32) (x2 : Int32) (x3 : Int32) (mu : Mu) : Int32 × Mu := (if ((x1 + x2) + x3) ≤ (255 : Int32) then F_Md_plus_82 x1 x2 x3 1 0 mu else F_Md_plus_82 x1 x2 x3 1 1 mu)
set_option maxHeartbeats 4000000 in
set_option maxRecDepth 100000 in
theorem k_Md_plus_64 (C : Cx cX7_plus 5 (some .int) wsX7_plus RX7 A D cA tb p s m args meth c) {mu nu : Mu} {x1 : Int32} {x2 : Int32} {x3 : Int32} {H : Heap} {locs : List Loc} {ls : Array Slot} (w : Wd A D cA ad s nu mu H locs) (hl : lv_has ls 5 [(0, .ref (ad 12)), (1, .int x1), (2, .int x2), (3, .int x3)]) : W p l e { frames := 2, cells := 0, slots := 0, locals := 43 } s m args below meth c H locs 0 0 (QI A D cA ad below args s (F_Md_plus_64 x1 x2 x3 mu).1 nu (F_Md_plus_64 x1 x2 x3 mu).2) (F0 m 64 ls []) := by
  have hx := C.1
  have hb := C.2.1
  have hts := C.2.2.2.2.2.1
  have hown := C.2.2.2.2.1
  unfold F_Md_plus_64
  refine lv_aload_n hx hb dX7_plus_64 rfl (lv_at hl 0 rfl) ?_
  refine lv_iconst (v := 1) hx hb dX7_plus_65 (by decide) ?_
  refine lv_iload_n hx hb dX7_plus_66 rfl (lv_at hl 1 rfl) ?_
  refine lv_iload_n hx hb dX7_plus_67 rfl (lv_at hl 2 rfl) ?_
  refine lv_iadd hx hb dX7_plus_68 ?_
  refine lv_iload_n hx hb dX7_plus_69 rfl (lv_at hl 3 rfl) ?_
  refine lv_iadd hx hb dX7_plus_70 ?_
  refine lv_sipush (v := 255) hx hb dX7_plus_71 (by decide) ?_
  refine lv_icmp_le (tgt := 81) hx hb dX7_plus_74 (by decide) (fun h74 => ?_) (fun h74 => ?_)
  · rw [if_pos h74]
    refine lv_iconst (v := 0) hx hb dX7_plus_81 (by decide) ?_
    exact k_Md_plus_82 C w (lv_sub hl [0, 1, 2, 3] rfl)
  · rw [if_neg h74]
    refine lv_iconst (v := 1) hx hb dX7_plus_77 (by decide) ?_
    refine lv_goto (tgt := 82) hx hb dX7_plus_78 (by decide) ?_
    exact k_Md_plus_82 C w (lv_sub hl [0, 1, 2, 3] rfl)
def F_Md_plus_61 (x1 : Int32) (x2 : Int32) (x3 : Int32) (y1 : Int32) (y2 : Int32) (mu : Mu) : Int32 × Mu := F_Md_plus_64 x1 x2 x3 (F_Md_tell y1 y2 mu)
set_option maxHeartbeats 4000000 in
set_option maxRecDepth 100000 in
theorem k_Md_plus_61 (C : Cx cX7_plus 5 (some .int) wsX7_plus RX7 A D cA tb p s m args meth c) {mu nu : Mu} {x1 : Int32} {x2 : Int32} {x3 : Int32} {y1 : Int32} {y2 : Int32} {H : Heap} {locs : List Loc} {ls : Array Slot} (w : Wd A D cA ad s nu mu H locs) (hl : lv_has ls 5 [(0, .ref (ad 12)), (1, .int x1), (2, .int x2), (3, .int x3)]) : W p l e { frames := 2, cells := 0, slots := 0, locals := 43 } s m args below meth c H locs 0 0 (QI A D cA ad below args s (F_Md_plus_61 x1 x2 x3 y1 y2 mu).1 nu (F_Md_plus_61 x1 x2 x3 y1 y2 mu).2) (F0 m 61 ls [.int y2, .int y1, .ref (ad 12)]) := by
  have hx := C.1
  have hb := C.2.1
  have hts := C.2.2.2.2.2.1
  have hown := C.2.2.2.2.1
  unfold F_Md_plus_61
  refine kcV (k := 12) (ci := 7) (As := [.int y1, .int y2]) (rest := []) C w rfl rfl (c_Md_tell l A D cA tb ad mu nu y1 y2) (cwV 2 hts gX7_plus_X7_tell rfl rfl rfl (by decide +kernel) ⟨Nat.le_of_ble_eq_true rfl, Nat.le_of_ble_eq_true rfl⟩) rfl rfl hl.1 (Nat.le_of_ble_eq_true rfl) dX7_plus_61 (fun H locs w => ?_)
  exact k_Md_plus_64 C w (lv_sub hl [0, 1, 2, 3] rfl)
def F_Md_plus_56 (x1 : Int32) (x2 : Int32) (x3 : Int32) (y1 : Int32) (mu : Mu) : Int32 × Mu := F_Md_plus_61 x1 x2 x3 y1 1 mu
set_option maxHeartbeats 4000000 in
set_option maxRecDepth 100000 in
theorem k_Md_plus_56 (C : Cx cX7_plus 5 (some .int) wsX7_plus RX7 A D cA tb p s m args meth c) {mu nu : Mu} {x1 : Int32} {x2 : Int32} {x3 : Int32} {y1 : Int32} {H : Heap} {locs : List Loc} {ls : Array Slot} (w : Wd A D cA ad s nu mu H locs) (hl : lv_has ls 5 [(0, .ref (ad 12)), (1, .int x1), (2, .int x2), (3, .int x3)]) : W p l e { frames := 2, cells := 0, slots := 0, locals := 43 } s m args below meth c H locs 0 0 (QI A D cA ad below args s (F_Md_plus_56 x1 x2 x3 y1 mu).1 nu (F_Md_plus_56 x1 x2 x3 y1 mu).2) (F0 m 56 ls [.int y1, .ref (ad 12)]) := by
  have hx := C.1
  have hb := C.2.1
  have hts := C.2.2.2.2.2.1
  have hown := C.2.2.2.2.1
  unfold F_Md_plus_56
  refine lv_iconst (v := 1) hx hb dX7_plus_56 (by decide) ?_
  refine lv_goto (tgt := 61) hx hb dX7_plus_57 (by decide) ?_
  exact k_Md_plus_61 C w (lv_sub hl [0, 1, 2, 3] rfl)
def F_Md_plus_40 (x1 : Int32) (x2 : Int32) (x3 : Int32) (x4 : Int32) (mu : Mu) : Int32 × Mu := (if x4 < (-128 : Int32) then F_Md_plus_56 x1 x2 x3 2 mu else (if x4 ≤ (127 : Int32) then F_Md_plus_61 x1 x2 x3 2 0 mu else F_Md_plus_56 x1 x2 x3 2 mu))
set_option maxHeartbeats 4000000 in
set_option maxRecDepth 100000 in
theorem k_Md_plus_40 (C : Cx cX7_plus 5 (some .int) wsX7_plus RX7 A D cA tb p s m args meth c) {mu nu : Mu} {x1 : Int32} {x2 : Int32} {x3 : Int32} {x4 : Int32} {H : Heap} {locs : List Loc} {ls : Array Slot} (w : Wd A D cA ad s nu mu H locs) (hl : lv_has ls 5 [(0, .ref (ad 12)), (1, .int x1), (2, .int x2), (3, .int x3), (4, .int x4)]) : W p l e { frames := 2, cells := 0, slots := 0, locals := 43 } s m args below meth c H locs 0 0 (QI A D cA ad below args s (F_Md_plus_40 x1 x2 x3 x4 mu).1 nu (F_Md_plus_40 x1 x2 x3 x4 mu).2) (F0 m 40 ls []) := by
  have hx := C.1
  have hb := C.2.1
  have hts := C.2.2.2.2.2.1
  have hown := C.2.2.2.2.1
  unfold F_Md_plus_40
  refine lv_aload_n hx hb dX7_plus_40 rfl (lv_at hl 0 rfl) ?_
  refine lv_iconst (v := 2) hx hb dX7_plus_41 (by decide) ?_
  refine lv_iload hx hb dX7_plus_42 (lv_at hl 4 rfl) ?_
  refine lv_bipush (v := (-128 : Int32)) hx hb dX7_plus_44 (by decide) ?_
  refine lv_icmp_lt (tgt := 56) hx hb dX7_plus_46 (by decide) (fun h46 => ?_) (fun h46 => ?_)
  · rw [if_pos h46]
    exact k_Md_plus_56 C w (lv_sub hl [0, 1, 2, 3] rfl)
  · rw [if_neg h46]
    refine lv_iload hx hb dX7_plus_49 (lv_at hl 4 rfl) ?_
    refine lv_bipush (v := 127) hx hb dX7_plus_51 (by decide) ?_
    refine lv_icmp_le (tgt := 60) hx hb dX7_plus_53 (by decide) (fun h53 => ?_) (fun h53 => ?_)
    · rw [if_pos h53]
      refine lv_iconst (v := 0) hx hb dX7_plus_60 (by decide) ?_
      exact k_Md_plus_61 C w (lv_sub hl [0, 1, 2, 3] rfl)
    · rw [if_neg h53]
      exact k_Md_plus_56 C w (lv_sub hl [0, 1, 2, 3] rfl)
def F_Md_plus_37 (x1 : Int32) (x2 : Int32) (x3 : Int32) (x4 : Int32) (y1 : Int32) (y2 : Int32) (mu : Mu) : Int32 × Mu := F_Md_plus_40 x1 x2 x3 x4 (F_Md_tell y1 y2 mu)
set_option maxHeartbeats 4000000 in
set_option maxRecDepth 100000 in
theorem k_Md_plus_37 (C : Cx cX7_plus 5 (some .int) wsX7_plus RX7 A D cA tb p s m args meth c) {mu nu : Mu} {x1 : Int32} {x2 : Int32} {x3 : Int32} {x4 : Int32} {y1 : Int32} {y2 : Int32} {H : Heap} {locs : List Loc} {ls : Array Slot} (w : Wd A D cA ad s nu mu H locs) (hl : lv_has ls 5 [(0, .ref (ad 12)), (1, .int x1), (2, .int x2), (3, .int x3), (4, .int x4)]) : W p l e { frames := 2, cells := 0, slots := 0, locals := 43 } s m args below meth c H locs 0 0 (QI A D cA ad below args s (F_Md_plus_37 x1 x2 x3 x4 y1 y2 mu).1 nu (F_Md_plus_37 x1 x2 x3 x4 y1 y2 mu).2) (F0 m 37 ls [.int y2, .int y1, .ref (ad 12)]) := by
  have hx := C.1
  have hb := C.2.1
  have hts := C.2.2.2.2.2.1
  have hown := C.2.2.2.2.1
  unfold F_Md_plus_37
  refine kcV (k := 12) (ci := 7) (As := [.int y1, .int y2]) (rest := []) C w rfl rfl (c_Md_tell l A D cA tb ad mu nu y1 y2) (cwV 2 hts gX7_plus_X7_tell rfl rfl rfl (by decide +kernel) ⟨Nat.le_of_ble_eq_true rfl, Nat.le_of_ble_eq_true rfl⟩) rfl rfl hl.1 (Nat.le_of_ble_eq_true rfl) dX7_plus_37 (fun H locs w => ?_)
  exact k_Md_plus_40 C w (lv_sub hl [0, 1, 2, 3, 4] rfl)
def F_Md_plus (x1 : Int32) (x2 : Int32) (x3 : Int32) (mu : Mu) : Int32 × Mu := (if (((x1 &&& 15) + (x2 &&& 15)) + x3) ≤ (15 : Int32) then F_Md_plus_37 x1 x2 x3 (((F_Md_signed x1 mu) + (F_Md_signed x2 mu)) + x3) 32 0 mu else F_Md_plus_37 x1 x2 x3 (((F_Md_signed x1 mu) + (F_Md_signed x2 mu)) + x3) 32 1 mu)
set_option maxHeartbeats 4000000 in
set_option maxRecDepth 100000 in
theorem k_Md_plus (C : Cx cX7_plus 5 (some .int) wsX7_plus RX7 A D cA tb p s m args meth c) {mu nu : Mu} {x1 : Int32} {x2 : Int32} {x3 : Int32} {H : Heap} {locs : List Loc} {ls : Array Slot} (w : Wd A D cA ad s nu mu H locs) (hl : lv_has ls 5 [(0, .ref (ad 12)), (1, .int x1), (2, .int x2), (3, .int x3)]) : W p l e { frames := 2, cells := 0, slots := 0, locals := 43 } s m args below meth c H locs 0 0 (QI A D cA ad below args s (F_Md_plus x1 x2 x3 mu).1 nu (F_Md_plus x1 x2 x3 mu).2) (F0 m 0 ls []) := by
  have hx := C.1
  have hb := C.2.1
  have hts := C.2.2.2.2.2.1
  have hown := C.2.2.2.2.1
  unfold F_Md_plus
  refine lv_iload_n hx hb dX7_plus_0 rfl (lv_at hl 1 rfl) ?_
  refine kcIS (As := [.int x1]) (rest := []) C w (c_Md_signed l A D cA tb ad mu nu x1) (va_cwS 1 hts gX7_plus_X7_signed rfl rfl rfl (by decide +kernel) ⟨Nat.le_of_ble_eq_true rfl, Nat.le_of_ble_eq_true rfl⟩) rfl rfl hl.1 (Nat.le_of_ble_eq_true rfl) dX7_plus_1 (fun H locs w => ?_)
  refine lv_iload_n hx hb dX7_plus_4 rfl (lv_at hl 2 rfl) ?_
  refine kcIS (As := [.int x2]) (rest := [.int ((F_Md_signed x1 mu))]) C w (c_Md_signed l A D cA tb ad mu nu x2) (va_cwS 1 hts gX7_plus_X7_signed rfl rfl rfl (by decide +kernel) ⟨Nat.le_of_ble_eq_true rfl, Nat.le_of_ble_eq_true rfl⟩) rfl rfl hl.1 (Nat.le_of_ble_eq_true rfl) dX7_plus_5 (fun H locs w => ?_)
  refine lv_iadd hx hb dX7_plus_8 ?_
  refine lv_iload_n hx hb dX7_plus_9 rfl (lv_at hl 3 rfl) ?_
  refine lv_iadd hx hb dX7_plus_10 ?_
  refine lv_istore (lv' := [(4, .int ((((F_Md_signed x1 mu) + (F_Md_signed x2 mu)) + x3))), (0, .ref (ad 12)), (1, .int x1), (2, .int x2), (3, .int x3)]) hx hb dX7_plus_11 hl (by decide) rfl (fun ls hl => ?_)
  refine lv_aload_n hx hb dX7_plus_13 rfl (lv_at hl 1 rfl) ?_
  refine lv_bipush (v := 32) hx hb dX7_plus_14 (by decide) ?_
  refine lv_iload_n hx hb dX7_plus_16 rfl (lv_at hl 2 rfl) ?_
  refine lv_bipush (v := 15) hx hb dX7_plus_17 (by decide) ?_
  refine lv_iand hx hb dX7_plus_19 ?_
  refine lv_iload_n hx hb dX7_plus_20 rfl (lv_at hl 3 rfl) ?_
  refine lv_bipush (v := 15) hx hb dX7_plus_21 (by decide) ?_
  refine lv_iand hx hb dX7_plus_23 ?_
  refine lv_iadd hx hb dX7_plus_24 ?_
  refine lv_iload_n hx hb dX7_plus_25 rfl (lv_at hl 4 rfl) ?_
  refine lv_iadd hx hb dX7_plus_26 ?_
  refine lv_bipush (v := 15) hx hb dX7_plus_27 (by decide) ?_
  refine lv_icmp_le (tgt := 36) hx hb dX7_plus_29 (by decide) (fun h29 => ?_) (fun h29 => ?_)
  · rw [if_pos h29]
    refine lv_iconst (v := 0) hx hb dX7_plus_36 (by decide) ?_
    exact k_Md_plus_37 C w (lv_sub hl [1, 2, 3, 4, 0] rfl)
  · rw [if_neg h29]
    refine lv_iconst (v := 1) hx hb dX7_plus_32 (by decide) ?_
    refine lv_goto (tgt := 37) hx hb dX7_plus_33 (by decide) ?_
    exact k_Md_plus_37 C w (lv_sub hl [1, 2, 3, 4, 0] rfl)
set_option maxHeartbeats 4000000 in
set_option maxRecDepth 100000 in
theorem c_Md_plus (l : Launch) (A : Nat → Prop) (D : va_G) (cA : Nat → ClassId) (tb : Nat) (ad : Nat → Nat) (mu nu : Mu) (x1 : Int32) (x2 : Int32) (x3 : Int32) : Met l yX7_plus wsX7_plus ({ frames := 2, cells := 0, slots := 0, locals := 43 }) (va_Pc [.ref (ad 12), .int x1, .int x2, .int x3] (Pw A D cA tb ad nu mu)) (va_Qi (fun (r : Int32) (u : Mu × Mu) => r = (F_Md_plus x1 x2 x3 mu).1 ∧ u = (nu, (F_Md_plus x1 x2 x3 mu).2)) (Bw A D cA ad) A) 0 0 A := by
  refine Met.ofW (cc := cX7_plus) (maxL := 5) (ret := (some .int)) (by decide) rfl ?_
  intro p e s m args below meth c s₁ B hml hv
  obtain ⟨rfl, w0⟩ := hv
  have C : Cx cX7_plus 5 (some .int) wsX7_plus RX7 A D cA tb p s m _ meth c := ⟨B.exec, B.bytes, B.returns, hml, findClass_of_methodNamed B.named, atoms_spec (ws := wsX7_plus) B.pre, B.notSynchronized, w0.2.1, w0.2.2.2.1, w0.2.2.2.2⟩
  have hl := lv_entry ([.ref (ad 12), .int x1, .int x2, .int x3]) (n := 5) (Nat.le_of_ble_eq_true rfl)
  rw [lg_entry_eq]
  exact k_Md_plus C w0.wd hl
def F_Md_nzv_6 (x1 : Int32) (mu : Mu) : Int32 × Mu := ((F_Md_nz x1 mu).1, (F_Md_nz x1 mu).2)
set_option maxHeartbeats 4000000 in
set_option maxRecDepth 100000 in
theorem k_Md_nzv_6 (C : Cx cX7_nzv 2 (some .int) wsX7_nzv RX7 A D cA tb p s m args meth c) {mu nu : Mu} {x1 : Int32} {H : Heap} {locs : List Loc} {ls : Array Slot} (w : Wd A D cA ad s nu mu H locs) (hl : lv_has ls 2 [(0, .ref (ad 12)), (1, .int x1)]) : W p l e { frames := 2, cells := 0, slots := 0, locals := 43 } s m args below meth c H locs 0 0 (QI A D cA ad below args s (F_Md_nzv_6 x1 mu).1 nu (F_Md_nzv_6 x1 mu).2) (F0 m 6 ls []) := by
  have hx := C.1
  have hb := C.2.1
  have hts := C.2.2.2.2.2.1
  have hown := C.2.2.2.2.1
  unfold F_Md_nzv_6
  refine lv_aload_n hx hb dX7_nzv_6 rfl (lv_at hl 0 rfl) ?_
  refine lv_iload_n hx hb dX7_nzv_7 rfl (lv_at hl 1 rfl) ?_
  refine kcI (k := 12) (ci := 7) (As := [.int x1]) (rest := []) C w rfl rfl (c_Md_nz l A D cA tb ad mu nu x1) (cwV 1 hts gX7_nzv_X7_nz rfl rfl rfl (by decide +kernel) ⟨Nat.le_of_ble_eq_true rfl, Nat.le_of_ble_eq_true rfl⟩) rfl rfl hl.1 (Nat.le_of_ble_eq_true rfl) dX7_nzv_8 (fun H locs w => ?_)
  exact retI C w dX7_nzv_11
def F_Md_nzv (x1 : Int32) (mu : Mu) : Int32 × Mu := F_Md_nzv_6 x1 (F_Md_tell 2 0 mu)
set_option maxHeartbeats 4000000 in
set_option maxRecDepth 100000 in
theorem k_Md_nzv (C : Cx cX7_nzv 2 (some .int) wsX7_nzv RX7 A D cA tb p s m args meth c) {mu nu : Mu} {x1 : Int32} {H : Heap} {locs : List Loc} {ls : Array Slot} (w : Wd A D cA ad s nu mu H locs) (hl : lv_has ls 2 [(0, .ref (ad 12)), (1, .int x1)]) : W p l e { frames := 2, cells := 0, slots := 0, locals := 43 } s m args below meth c H locs 0 0 (QI A D cA ad below args s (F_Md_nzv x1 mu).1 nu (F_Md_nzv x1 mu).2) (F0 m 0 ls []) := by
  have hx := C.1
  have hb := C.2.1
  have hts := C.2.2.2.2.2.1
  have hown := C.2.2.2.2.1
  unfold F_Md_nzv
  refine lv_aload_n hx hb dX7_nzv_0 rfl (lv_at hl 0 rfl) ?_
  refine lv_iconst (v := 2) hx hb dX7_nzv_1 (by decide) ?_
  refine lv_iconst (v := 0) hx hb dX7_nzv_2 (by decide) ?_
  refine kcV (k := 12) (ci := 7) (As := [.int 2, .int 0]) (rest := []) C w rfl rfl (c_Md_tell l A D cA tb ad mu nu 2 0) (cwV 2 hts gX7_nzv_X7_tell rfl rfl rfl (by decide +kernel) ⟨Nat.le_of_ble_eq_true rfl, Nat.le_of_ble_eq_true rfl⟩) rfl rfl hl.1 (Nat.le_of_ble_eq_true rfl) dX7_nzv_3 (fun H locs w => ?_)
  exact k_Md_nzv_6 C w (lv_sub hl [0, 1] rfl)
set_option maxHeartbeats 4000000 in
set_option maxRecDepth 100000 in
theorem c_Md_nzv (l : Launch) (A : Nat → Prop) (D : va_G) (cA : Nat → ClassId) (tb : Nat) (ad : Nat → Nat) (mu nu : Mu) (x1 : Int32) : Met l yX7_nzv wsX7_nzv ({ frames := 2, cells := 0, slots := 0, locals := 43 }) (va_Pc [.ref (ad 12), .int x1] (Pw A D cA tb ad nu mu)) (va_Qi (fun (r : Int32) (u : Mu × Mu) => r = (F_Md_nzv x1 mu).1 ∧ u = (nu, (F_Md_nzv x1 mu).2)) (Bw A D cA ad) A) 0 0 A := by
  refine Met.ofW (cc := cX7_nzv) (maxL := 2) (ret := (some .int)) (by decide) rfl ?_
  intro p e s m args below meth c s₁ B hml hv
  obtain ⟨rfl, w0⟩ := hv
  have C : Cx cX7_nzv 2 (some .int) wsX7_nzv RX7 A D cA tb p s m _ meth c := ⟨B.exec, B.bytes, B.returns, hml, findClass_of_methodNamed B.named, atoms_spec (ws := wsX7_nzv) B.pre, B.notSynchronized, w0.2.1, w0.2.2.2.1, w0.2.2.2.2⟩
  have hl := lv_entry ([.ref (ad 12), .int x1]) (n := 2) (Nat.le_of_ble_eq_true rfl)
  rw [lg_entry_eq]
  exact k_Md_nzv C w0.wd hl
def F_Md_adjust_101 (x4 : Int32) (y1 : Int32) (mu : Mu) : Mu := (if x4 = (0 : Int32) then (ps mu 12 2 y1) else (F_Md_tell 1 1 (ps mu 12 2 y1)))
set_option maxHeartbeats 4000000 in
set_option maxRecDepth 100000 in
theorem k_Md_adjust_101 (C : Cx cX7_adjust 5 none wsX7_adjust RX7 A D cA tb p s m args meth c) {mu nu : Mu} {x4 : Int32} {y1 : Int32} {H : Heap} {locs : List Loc} {ls : Array Slot} (w : Wd A D cA ad s nu mu H locs) (hl : lv_has ls 5 [(0, .ref (ad 12)), (4, .int x4)]) : W p l e { frames := 3, cells := 0, slots := 0, locals := 64 } s m args below meth c H locs 0 0 (QV A D cA ad below args s nu (F_Md_adjust_101 x4 y1 mu)) (F0 m 101 ls [.int y1, .ref (ad 12)]) := by
  have hx := C.1
  have hb := C.2.1
  have hts := C.2.2.2.2.2.1
  have hown := C.2.2.2.2.1
  unfold F_Md_adjust_101
  refine pt_12_2 C (fun _ h => List.mem_cons_of_mem _ (List.mem_append_right _ h)) (hts _ (List.mem_of_getElem? (i := 1) rfl)) w dX7_adjust_101 (fun H locs w => ?_)
  refine lv_iload hx hb dX7_adjust_104 (lv_at hl 1 rfl) ?_
  refine lv_if_eq (tgt := 115) hx hb dX7_adjust_106 (by decide) (fun h106 => ?_) (fun h106 => ?_)
  · rw [if_pos h106]
    exact retV C w dX7_adjust_115
  · rw [if_neg h106]
    refine lv_aload_n hx hb dX7_adjust_109 rfl (lv_at hl 0 rfl) ?_
    refine lv_iconst (v := 1) hx hb dX7_adjust_110 (by decide) ?_
    refine lv_iconst (v := 1) hx hb dX7_adjust_111 (by decide) ?_
    refine kcV (k := 12) (ci := 7) (As := [.int 1, .int 1]) (rest := []) C w rfl rfl (c_Md_tell l A D cA tb ad (ps mu 12 2 y1) nu 1 1) (cwV 2 hts gX7_adjust_X7_tell rfl rfl rfl (by decide +kernel) ⟨Nat.le_of_ble_eq_true rfl, Nat.le_of_ble_eq_true rfl⟩) rfl rfl hl.1 (Nat.le_of_ble_eq_true rfl) dX7_adjust_112 (fun H locs w => ?_)
    exact retV C w dX7_adjust_115
def F_Md_adjust_97 (x4 : Int32) (y2 : Int32) (y3 : Int32) (mu : Mu) : Mu := F_Md_adjust_101 x4 ((F_Md_nzv (y2 + y3) mu).1) ((F_Md_nzv (y2 + y3) mu).2)
set_option maxHeartbeats 4000000 in
set_option maxRecDepth 100000 in
theorem k_Md_adjust_97 (C : Cx cX7_adjust 5 none wsX7_adjust RX7 A D cA tb p s m args meth c) {mu nu : Mu} {x4 : Int32} {y2 : Int32} {y3 : Int32} {H : Heap} {locs : List Loc} {ls : Array Slot} (w : Wd A D cA ad s nu mu H locs) (hl : lv_has ls 5 [(0, .ref (ad 12)), (4, .int x4)]) : W p l e { frames := 3, cells := 0, slots := 0, locals := 64 } s m args below meth c H locs 0 0 (QV A D cA ad below args s nu (F_Md_adjust_97 x4 y2 y3 mu)) (F0 m 97 ls [.int y3, .int y2, .ref (ad 12), .ref (ad 12)]) := by
  have hx := C.1
  have hb := C.2.1
  have hts := C.2.2.2.2.2.1
  have hown := C.2.2.2.2.1
  unfold F_Md_adjust_97
  refine lv_iadd hx hb dX7_adjust_97 ?_
  refine kcI (k := 12) (ci := 7) (As := [.int ((y2 + y3))]) (rest := [.ref (ad 12)]) C w rfl rfl (c_Md_nzv l A D cA tb ad mu nu (y2 + y3)) (cwV 1 hts gX7_adjust_X7_nzv rfl rfl rfl (by decide +kernel) ⟨Nat.le_of_ble_eq_true rfl, Nat.le_of_ble_eq_true rfl⟩) rfl rfl hl.1 (Nat.le_of_ble_eq_true rfl) dX7_adjust_98 (fun H locs w => ?_)
  exact k_Md_adjust_101 C w (lv_sub hl [0, 1] rfl)
def F_Md_adjust_85 (x4 : Int32) (y2 : Int32) (y3 : Int32) (mu : Mu) : Mu := (if x4 = (0 : Int32) then F_Md_adjust_97 x4 (y2 + y3) 0 mu else F_Md_adjust_97 x4 (y2 + y3) 96 mu)
set_option maxHeartbeats 4000000 in
set_option maxRecDepth 100000 in
theorem k_Md_adjust_85 (C : Cx cX7_adjust 5 none wsX7_adjust RX7 A D cA tb p s m args meth c) {mu nu : Mu} {x4 : Int32} {y2 : Int32} {y3 : Int32} {H : Heap} {locs : List Loc} {ls : Array Slot} (w : Wd A D cA ad s nu mu H locs) (hl : lv_has ls 5 [(0, .ref (ad 12)), (4, .int x4)]) : W p l e { frames := 3, cells := 0, slots := 0, locals := 64 } s m args below meth c H locs 0 0 (QV A D cA ad below args s nu (F_Md_adjust_85 x4 y2 y3 mu)) (F0 m 85 ls [.int y3, .int y2, .ref (ad 12), .ref (ad 12)]) := by
  have hx := C.1
  have hb := C.2.1
  have hts := C.2.2.2.2.2.1
  have hown := C.2.2.2.2.1
  unfold F_Md_adjust_85
  refine lv_iadd hx hb dX7_adjust_85 ?_
  refine lv_iload hx hb dX7_adjust_86 (lv_at hl 1 rfl) ?_
  refine lv_if_eq (tgt := 96) hx hb dX7_adjust_88 (by decide) (fun h88 => ?_) (fun h88 => ?_)
  · rw [if_pos h88]
    refine lv_iconst (v := 0) hx hb dX7_adjust_96 (by decide) ?_
    exact k_Md_adjust_97 C w (lv_sub hl [0, 1] rfl)
  · rw [if_neg h88]
    refine lv_bipush (v := 96) hx hb dX7_adjust_91 (by decide) ?_
    refine lv_goto (tgt := 97) hx hb dX7_adjust_93 (by decide) ?_
    exact k_Md_adjust_97 C w (lv_sub hl [0, 1] rfl)
def F_Md_adjust_67 (x3 : Int32) (y0 : Int32) (mu : Mu) : Mu := (if x3 = (0 : Int32) then F_Md_adjust_85 y0 (mu 12 2) 0 mu else F_Md_adjust_85 y0 (mu 12 2) 6 mu)
set_option maxHeartbeats 4000000 in
set_option maxRecDepth 100000 in
theorem k_Md_adjust_67 (C : Cx cX7_adjust 5 none wsX7_adjust RX7 A D cA tb p s m args meth c) {mu nu : Mu} {x3 : Int32} {y0 : Int32} {H : Heap} {locs : List Loc} {ls : Array Slot} (w : Wd A D cA ad s nu mu H locs) (hl : lv_has ls 5 [(0, .ref (ad 12)), (3, .int x3)]) : W p l e { frames := 3, cells := 0, slots := 0, locals := 64 } s m args below meth c H locs 0 0 (QV A D cA ad below args s nu (F_Md_adjust_67 x3 y0 mu)) (F0 m 67 ls [.int y0]) := by
  have hx := C.1
  have hb := C.2.1
  have hts := C.2.2.2.2.2.1
  have hown := C.2.2.2.2.1
  unfold F_Md_adjust_67
  refine lv_istore (lv' := [(4, .int y0), (0, .ref (ad 12)), (3, .int x3)]) hx hb dX7_adjust_67 hl (by decide) rfl (fun ls hl => ?_)
  refine lv_aload_n hx hb dX7_adjust_69 rfl (lv_at hl 1 rfl) ?_
  refine lv_aload_n hx hb dX7_adjust_70 rfl (lv_at hl 1 rfl) ?_
  refine lv_aload_n hx hb dX7_adjust_71 rfl (lv_at hl 1 rfl) ?_
  refine gt_12_2 C (fun _ h => List.mem_cons_of_mem _ (List.mem_append_right _ h)) (hts _ (List.mem_of_getElem? (i := 1) rfl)) w (v := (mu 12 2)) rfl dX7_adjust_72 ?_
  refine lv_iload_n hx hb dX7_adjust_75 rfl (lv_at hl 2 rfl) ?_
  refine lv_if_eq (tgt := 84) hx hb dX7_adjust_76 (by decide) (fun h76 => ?_) (fun h76 => ?_)
  · rw [if_pos h76]
    refine lv_iconst (v := 0) hx hb dX7_adjust_84 (by decide) ?_
    exact k_Md_adjust_85 C w (lv_sub hl [1, 0] rfl)
  · rw [if_neg h76]
    refine lv_bipush (v := 6) hx hb dX7_adjust_79 (by decide) ?_
    refine lv_goto (tgt := 85) hx hb dX7_adjust_81 (by decide) ?_
    exact k_Md_adjust_85 C w (lv_sub hl [1, 0] rfl)
def F_Md_adjust_62 (x3 : Int32) (mu : Mu) : Mu := F_Md_adjust_67 x3 1 mu
set_option maxHeartbeats 4000000 in
set_option maxRecDepth 100000 in
theorem k_Md_adjust_62 (C : Cx cX7_adjust 5 none wsX7_adjust RX7 A D cA tb p s m args meth c) {mu nu : Mu} {x3 : Int32} {H : Heap} {locs : List Loc} {ls : Array Slot} (w : Wd A D cA ad s nu mu H locs) (hl : lv_has ls 5 [(0, .ref (ad 12)), (3, .int x3)]) : W p l e { frames := 3, cells := 0, slots := 0, locals := 64 } s m args below meth c H locs 0 0 (QV A D cA ad below args s nu (F_Md_adjust_62 x3 mu)) (F0 m 62 ls []) := by
  have hx := C.1
  have hb := C.2.1
  have hts := C.2.2.2.2.2.1
  have hown := C.2.2.2.2.1
  unfold F_Md_adjust_62
  refine lv_iconst (v := 1) hx hb dX7_adjust_62 (by decide) ?_
  refine lv_goto (tgt := 67) hx hb dX7_adjust_63 (by decide) ?_
  exact k_Md_adjust_67 C w (lv_sub hl [0, 1] rfl)
def F_Md_adjust_66 (x3 : Int32) (mu : Mu) : Mu := F_Md_adjust_67 x3 0 mu
set_option maxHeartbeats 4000000 in
set_option maxRecDepth 100000 in
theorem k_Md_adjust_66 (C : Cx cX7_adjust 5 none wsX7_adjust RX7 A D cA tb p s m args meth c) {mu nu : Mu} {x3 : Int32} {H : Heap} {locs : List Loc} {ls : Array Slot} (w : Wd A D cA ad s nu mu H locs) (hl : lv_has ls 5 [(0, .ref (ad 12)), (3, .int x3)]) : W p l e { frames := 3, cells := 0, slots := 0, locals := 64 } s m args below meth c H locs 0 0 (QV A D cA ad below args s nu (F_Md_adjust_66 x3 mu)) (F0 m 66 ls []) := by
  have hx := C.1
  have hb := C.2.1
  have hts := C.2.2.2.2.2.1
  have hown := C.2.2.2.2.1
  unfold F_Md_adjust_66
  refine lv_iconst (v := 0) hx hb dX7_adjust_66 (by decide) ?_
  exact k_Md_adjust_67 C w (lv_sub hl [0, 1] rfl)
def F_Md_adjust_35 (x1 : Int32) (x2 : Int32) (y0 : Int32) (mu : Mu) : Mu := (if (9 : Int32) < x1 then F_Md_adjust_62 y0 mu else (if (F_Md_is 1 mu) = (0 : Int32) then (if x1 = (9 : Int32) then (if x2 ≤ (9 : Int32) then F_Md_adjust_66 y0 mu else F_Md_adjust_62 y0 mu) else F_Md_adjust_66 y0 mu) else F_Md_adjust_62 y0 mu))
set_option maxHeartbeats 4000000 in
set_option maxRecDepth 100000 in
theorem k_Md_adjust_35 (C : Cx cX7_adjust 5 none wsX7_adjust RX7 A D cA tb p s m args meth c) {mu nu : Mu} {x1 : Int32} {x2 : Int32} {y0 : Int32} {H : Heap} {locs : List Loc} {ls : Array Slot} (w : Wd A D cA ad s nu mu H locs) (hl : lv_has ls 5 [(0, .ref (ad 12)), (1, .int x1), (2, .int x2)]) : W p l e { frames := 3, cells := 0, slots := 0, locals := 64 } s m args below meth c H locs 0 0 (QV A D cA ad below args s nu (F_Md_adjust_35 x1 x2 y0 mu)) (F0 m 35 ls [.int y0]) := by
  have hx := C.1
  have hb := C.2.1
  have hts := C.2.2.2.2.2.1
  have hown := C.2.2.2.2.1
  unfold F_Md_adjust_35
  refine lv_istore_n (lv' := [(3, .int y0), (0, .ref (ad 12)), (1, .int x1), (2, .int x2)]) hx hb dX7_adjust_35 rfl hl (by decide) rfl (fun ls hl => ?_)
  refine lv_iload_n hx hb dX7_adjust_36 rfl (lv_at hl 2 rfl) ?_
  refine lv_bipush (v := 9) hx hb dX7_adjust_37 (by decide) ?_
  refine lv_icmp_gt (tgt := 62) hx hb dX7_adjust_39 (by decide) (fun h39 => ?_) (fun h39 => ?_)
  · rw [if_pos h39]
    exact k_Md_adjust_62 C w (lv_sub hl [1, 0] rfl)
  · rw [if_neg h39]
    refine lv_aload_n hx hb dX7_adjust_42 rfl (lv_at hl 1 rfl) ?_
    refine lv_iconst (v := 1) hx hb dX7_adjust_43 (by decide) ?_
    refine kcI (k := 12) (ci := 7) (As := [.int 1]) (rest := []) C w rfl rfl (c_Md_is l A D cA tb ad mu nu 1) (cwV 1 hts gX7_adjust_X7_is rfl rfl rfl (by decide +kernel) ⟨Nat.le_of_ble_eq_true rfl, Nat.le_of_ble_eq_true rfl⟩) rfl rfl hl.1 (Nat.le_of_ble_eq_true rfl) dX7_adjust_44 (fun H locs w => ?_)
    refine lv_if_ne (tgt := 62) hx hb dX7_adjust_47 (by decide) (fun h47 => ?_) (fun h47 => ?_)
    · rw [if_neg h47]
      exact k_Md_adjust_62 C w (lv_sub hl [1, 0] rfl)
    · rw [if_pos h47]
      refine lv_iload_n hx hb dX7_adjust_50 rfl (lv_at hl 2 rfl) ?_
      refine lv_bipush (v := 9) hx hb dX7_adjust_51 (by decide) ?_
      refine lv_icmp_ne (tgt := 66) hx hb dX7_adjust_53 (by decide) (fun h53 => ?_) (fun h53 => ?_)
      · rw [if_neg h53]
        exact k_Md_adjust_66 C w (lv_sub hl [1, 0] rfl)
      · rw [if_pos h53]
        refine lv_iload_n hx hb dX7_adjust_56 rfl (lv_at hl 3 rfl) ?_
        refine lv_bipush (v := 9) hx hb dX7_adjust_57 (by decide) ?_
        refine lv_icmp_le (tgt := 66) hx hb dX7_adjust_59 (by decide) (fun h59 => ?_) (fun h59 => ?_)
        · rw [if_pos h59]
          exact k_Md_adjust_66 C w (lv_sub hl [1, 0] rfl)
        · rw [if_neg h59]
          exact k_Md_adjust_62 C w (lv_sub hl [1, 0] rfl)
def F_Md_adjust_30 (x1 : Int32) (x2 : Int32) (mu : Mu) : Mu := F_Md_adjust_35 x1 x2 1 mu
set_option maxHeartbeats 4000000 in
set_option maxRecDepth 100000 in
theorem k_Md_adjust_30 (C : Cx cX7_adjust 5 none wsX7_adjust RX7 A D cA tb p s m args meth c) {mu nu : Mu} {x1 : Int32} {x2 : Int32} {H : Heap} {locs : List Loc} {ls : Array Slot} (w : Wd A D cA ad s nu mu H locs) (hl : lv_has ls 5 [(0, .ref (ad 12)), (1, .int x1), (2, .int x2)]) : W p l e { frames := 3, cells := 0, slots := 0, locals := 64 } s m args below meth c H locs 0 0 (QV A D cA ad below args s nu (F_Md_adjust_30 x1 x2 mu)) (F0 m 30 ls []) := by
  have hx := C.1
  have hb := C.2.1
  have hts := C.2.2.2.2.2.1
  have hown := C.2.2.2.2.1
  unfold F_Md_adjust_30
  refine lv_iconst (v := 1) hx hb dX7_adjust_30 (by decide) ?_
  refine lv_goto (tgt := 35) hx hb dX7_adjust_31 (by decide) ?_
  exact k_Md_adjust_35 C w (lv_sub hl [0, 1, 2] rfl)
def F_Md_adjust (mu : Mu) : Mu := (if (9 : Int32) < ((mu 12 2) &&& 15) then F_Md_adjust_30 ((mu 12 2) >>> (4 &&& 31)) ((mu 12 2) &&& 15) mu else (if (F_Md_is 32 mu) = (0 : Int32) then F_Md_adjust_35 ((mu 12 2) >>> (4 &&& 31)) ((mu 12 2) &&& 15) 0 mu else F_Md_adjust_30 ((mu 12 2) >>> (4 &&& 31)) ((mu 12 2) &&& 15) mu))
set_option maxHeartbeats 4000000 in
set_option maxRecDepth 100000 in
theorem k_Md_adjust (C : Cx cX7_adjust 5 none wsX7_adjust RX7 A D cA tb p s m args meth c) {mu nu : Mu} {H : Heap} {locs : List Loc} {ls : Array Slot} (w : Wd A D cA ad s nu mu H locs) (hl : lv_has ls 5 [(0, .ref (ad 12))]) : W p l e { frames := 3, cells := 0, slots := 0, locals := 64 } s m args below meth c H locs 0 0 (QV A D cA ad below args s nu (F_Md_adjust mu)) (F0 m 0 ls []) := by
  have hx := C.1
  have hb := C.2.1
  have hts := C.2.2.2.2.2.1
  have hown := C.2.2.2.2.1
  unfold F_Md_adjust
  refine lv_aload_n hx hb dX7_adjust_0 rfl (lv_at hl 0 rfl) ?_
  refine gt_12_2 C (fun _ h => List.mem_cons_of_mem _ (List.mem_append_right _ h)) (hts _ (List.mem_of_getElem? (i := 1) rfl)) w (v := (mu 12 2)) rfl dX7_adjust_1 ?_
  refine lv_iconst (v := 4) hx hb dX7_adjust_4 (by decide) ?_
  refine lv_ishr hx hb dX7_adjust_5 ?_
  refine lv_istore_n (lv' := [(1, .int (((mu 12 2) >>> (4 &&& 31)))), (0, .ref (ad 12))]) hx hb dX7_adjust_6 rfl hl (by decide) rfl (fun ls hl => ?_)
  refine lv_aload_n hx hb dX7_adjust_7 rfl (lv_at hl 1 rfl) ?_
  refine gt_12_2 C (fun _ h => List.mem_cons_of_mem _ (List.mem_append_right _ h)) (hts _ (List.mem_of_getElem? (i := 1) rfl)) w (v := (mu 12 2)) rfl dX7_adjust_8 ?_
  refine lv_bipush (v := 15) hx hb dX7_adjust_11 (by decide) ?_
  refine lv_iand hx hb dX7_adjust_13 ?_
  refine lv_istore_n (lv' := [(2, .int (((mu 12 2) &&& 15))), (1, .int (((mu 12 2) >>> (4 &&& 31)))), (0, .ref (ad 12))]) hx hb dX7_adjust_14 rfl hl (by decide) rfl (fun ls hl => ?_)
  refine lv_iload_n hx hb dX7_adjust_15 rfl (lv_at hl 0 rfl) ?_
  refine lv_bipush (v := 9) hx hb dX7_adjust_16 (by decide) ?_
  refine lv_icmp_gt (tgt := 30) hx hb dX7_adjust_18 (by decide) (fun h18 => ?_) (fun h18 => ?_)
  · rw [if_pos h18]
    exact k_Md_adjust_30 C w (lv_sub hl [2, 1, 0] rfl)
  · rw [if_neg h18]
    refine lv_aload_n hx hb dX7_adjust_21 rfl (lv_at hl 2 rfl) ?_
    refine lv_bipush (v := 32) hx hb dX7_adjust_22 (by decide) ?_
    refine kcI (k := 12) (ci := 7) (As := [.int 32]) (rest := []) C w rfl rfl (c_Md_is l A D cA tb ad mu nu 32) (cwV 1 hts gX7_adjust_X7_is rfl rfl rfl (by decide +kernel) ⟨Nat.le_of_ble_eq_true rfl, Nat.le_of_ble_eq_true rfl⟩) rfl rfl hl.1 (Nat.le_of_ble_eq_true rfl) dX7_adjust_24 (fun H locs w => ?_)
    refine lv_if_eq (tgt := 34) hx hb dX7_adjust_27 (by decide) (fun h27 => ?_) (fun h27 => ?_)
    · rw [if_pos h27]
      refine lv_iconst (v := 0) hx hb dX7_adjust_34 (by decide) ?_
      exact k_Md_adjust_35 C w (lv_sub hl [2, 1, 0] rfl)
    · rw [if_neg h27]
      exact k_Md_adjust_30 C w (lv_sub hl [2, 1, 0] rfl)
set_option maxHeartbeats 4000000 in
set_option maxRecDepth 100000 in
theorem c_Md_adjust (l : Launch) (A : Nat → Prop) (D : va_G) (cA : Nat → ClassId) (tb : Nat) (ad : Nat → Nat) (mu nu : Mu) : Met l yX7_adjust wsX7_adjust ({ frames := 3, cells := 0, slots := 0, locals := 64 }) (va_Pc [.ref (ad 12)] (Pw A D cA tb ad nu mu)) (va_Qv (fun (u : Mu × Mu) => u = (nu, F_Md_adjust mu)) (Bw A D cA ad) A) 0 0 A := by
  refine Met.ofW (cc := cX7_adjust) (maxL := 5) (ret := none) (by decide) rfl ?_
  intro p e s m args below meth c s₁ B hml hv
  obtain ⟨rfl, w0⟩ := hv
  have C : Cx cX7_adjust 5 none wsX7_adjust RX7 A D cA tb p s m _ meth c := ⟨B.exec, B.bytes, B.returns, hml, findClass_of_methodNamed B.named, atoms_spec (ws := wsX7_adjust) B.pre, B.notSynchronized, w0.2.1, w0.2.2.2.1, w0.2.2.2.2⟩
  have hl := lv_entry ([.ref (ad 12)]) (n := 5) (Nat.le_of_ble_eq_true rfl)
  rw [lg_entry_eq]
  exact k_Md_adjust C w0.wd hl
def F_Md_less_55 (x1 : Int32) (x2 : Int32) (x3 : Int32) (mu : Mu) : Int32 × Mu := ((F_Md_nz ((x1 - x2) - x3) mu).1, (F_Md_nz ((x1 - x2) - x3) mu).2)
set_option maxHeartbeats 4000000 in
set_option maxRecDepth 100000 in
theorem k_Md_less_55 (C : Cx cX7_less 5 (some .int) wsX7_less RX7 A D cA tb p s m args meth c) {mu nu : Mu} {x1 : Int32} {x2 : Int32} {x3 : Int32} {H : Heap} {locs : List Loc} {ls : Array Slot} (w : Wd A D cA ad s nu mu H locs) (hl : lv_has ls 5 [(0, .ref (ad 12)), (1, .int x1), (2, .int x2), (3, .int x3)]) : W p l e { frames := 2, cells := 0, slots := 0, locals := 43 } s m args below meth c H locs 0 0 (QI A D cA ad below args s (F_Md_less_55 x1 x2 x3 mu).1 nu (F_Md_less_55 x1 x2 x3 mu).2) (F0 m 55 ls []) := by
  have hx := C.1
  have hb := C.2.1
  have hts := C.2.2.2.2.2.1
  have hown := C.2.2.2.2.1
  unfold F_Md_less_55
  refine lv_aload_n hx hb dX7_less_55 rfl (lv_at hl 0 rfl) ?_
  refine lv_iload_n hx hb dX7_less_56 rfl (lv_at hl 1 rfl) ?_
  refine lv_iload_n hx hb dX7_less_57 rfl (lv_at hl 2 rfl) ?_
  refine lv_isub hx hb dX7_less_58 ?_
  refine lv_iload_n hx hb dX7_less_59 rfl (lv_at hl 3 rfl) ?_
  refine lv_isub hx hb dX7_less_60 ?_
  refine kcI (k := 12) (ci := 7) (As := [.int (((x1 - x2) - x3))]) (rest := []) C w rfl rfl (c_Md_nz l A D cA tb ad mu nu ((x1 - x2) - x3)) (cwV 1 hts gX7_less_X7_nz rfl rfl rfl (by decide +kernel) ⟨Nat.le_of_ble_eq_true rfl, Nat.le_of_ble_eq_true rfl⟩) rfl rfl hl.1 (Nat.le_of_ble_eq_true rfl) dX7_less_61 (fun H locs w => ?_)
  exact retI C w dX7_less_64
def F_Md_less_52 (x1 : Int32) (x2 : Int32) (x3 : Int32) (y1 : Int32) (y2 : Int32) (mu : Mu) : Int32 × Mu := F_Md_less_55 x1 x2 x3 (F_Md_tell y1 y2 mu)
set_option maxHeartbeats 4000000 in
set_option maxRecDepth 100000 in
theorem k_Md_less_52 (C : Cx cX7_less 5 (some .int) wsX7_less RX7 A D cA tb p s m args meth c) {mu nu : Mu} {x1 : Int32} {x2 : Int32} {x3 : Int32} {y1 : Int32} {y2 : Int32} {H : Heap} {locs : List Loc} {ls : Array Slot} (w : Wd A D cA ad s nu mu H locs) (hl : lv_has ls 5 [(0, .ref (ad 12)), (1, .int x1), (2, .int x2), (3, .int x3)]) : W p l e { frames := 2, cells := 0, slots := 0, locals := 43 } s m args below meth c H locs 0 0 (QI A D cA ad below args s (F_Md_less_52 x1 x2 x3 y1 y2 mu).1 nu (F_Md_less_52 x1 x2 x3 y1 y2 mu).2) (F0 m 52 ls [.int y2, .int y1, .ref (ad 12)]) := by
  have hx := C.1
  have hb := C.2.1
  have hts := C.2.2.2.2.2.1
  have hown := C.2.2.2.2.1
  unfold F_Md_less_52
  refine kcV (k := 12) (ci := 7) (As := [.int y1, .int y2]) (rest := []) C w rfl rfl (c_Md_tell l A D cA tb ad mu nu y1 y2) (cwV 2 hts gX7_less_X7_tell rfl rfl rfl (by decide +kernel) ⟨Nat.le_of_ble_eq_true rfl, Nat.le_of_ble_eq_true rfl⟩) rfl rfl hl.1 (Nat.le_of_ble_eq_true rfl) dX7_less_52 (fun H locs w => ?_)
  exact k_Md_less_55 C w (lv_sub hl [0, 1, 2, 3] rfl)
def F_Md_less_37 (x1 : Int32) (x2 : Int32) (x3 : Int32) (mu : Mu) : Int32 × Mu := (if (0 : Int32) ≤ ((x1 - x2) - x3) then F_Md_less_52 x1 x2 x3 1 0 mu else F_Md_less_52 x1 x2 x3 1 1 mu)
set_option maxHeartbeats 4000000 in
set_option maxRecDepth 100000 in
theorem k_Md_less_37 (C : Cx cX7_less 5 (some .int) wsX7_less RX7 A D cA tb p s m args meth c) {mu nu : Mu} {x1 : Int32} {x2 : Int32} {x3 : Int32} {H : Heap} {locs : List Loc} {ls : Array Slot} (w : Wd A D cA ad s nu mu H locs) (hl : lv_has ls 5 [(0, .ref (ad 12)), (1, .int x1), (2, .int x2), (3, .int x3)]) : W p l e { frames := 2, cells := 0, slots := 0, locals := 43 } s m args below meth c H locs 0 0 (QI A D cA ad below args s (F_Md_less_37 x1 x2 x3 mu).1 nu (F_Md_less_37 x1 x2 x3 mu).2) (F0 m 37 ls []) := by
  have hx := C.1
  have hb := C.2.1
  have hts := C.2.2.2.2.2.1
  have hown := C.2.2.2.2.1
  unfold F_Md_less_37
  refine lv_aload_n hx hb dX7_less_37 rfl (lv_at hl 0 rfl) ?_
  refine lv_iconst (v := 1) hx hb dX7_less_38 (by decide) ?_
  refine lv_iload_n hx hb dX7_less_39 rfl (lv_at hl 1 rfl) ?_
  refine lv_iload_n hx hb dX7_less_40 rfl (lv_at hl 2 rfl) ?_
  refine lv_isub hx hb dX7_less_41 ?_
  refine lv_iload_n hx hb dX7_less_42 rfl (lv_at hl 3 rfl) ?_
  refine lv_isub hx hb dX7_less_43 ?_
  refine lv_if_ge (tgt := 51) hx hb dX7_less_44 (by decide) (fun h44 => ?_) (fun h44 => ?_)
  · rw [if_pos h44]
    refine lv_iconst (v := 0) hx hb dX7_less_51 (by decide) ?_
    exact k_Md_less_52 C w (lv_sub hl [0, 1, 2, 3] rfl)
  · rw [if_neg h44]
    refine lv_iconst (v := 1) hx hb dX7_less_47 (by decide) ?_
    refine lv_goto (tgt := 52) hx hb dX7_less_48 (by decide) ?_
    exact k_Md_less_52 C w (lv_sub hl [0, 1, 2, 3] rfl)
def F_Md_less_34 (x1 : Int32) (x2 : Int32) (x3 : Int32) (y1 : Int32) (y2 : Int32) (mu : Mu) : Int32 × Mu := F_Md_less_37 x1 x2 x3 (F_Md_tell y1 y2 mu)
set_option maxHeartbeats 4000000 in
set_option maxRecDepth 100000 in
theorem k_Md_less_34 (C : Cx cX7_less 5 (some .int) wsX7_less RX7 A D cA tb p s m args meth c) {mu nu : Mu} {x1 : Int32} {x2 : Int32} {x3 : Int32} {y1 : Int32} {y2 : Int32} {H : Heap} {locs : List Loc} {ls : Array Slot} (w : Wd A D cA ad s nu mu H locs) (hl : lv_has ls 5 [(0, .ref (ad 12)), (1, .int x1), (2, .int x2), (3, .int x3)]) : W p l e { frames := 2, cells := 0, slots := 0, locals := 43 } s m args below meth c H locs 0 0 (QI A D cA ad below args s (F_Md_less_34 x1 x2 x3 y1 y2 mu).1 nu (F_Md_less_34 x1 x2 x3 y1 y2 mu).2) (F0 m 34 ls [.int y2, .int y1, .ref (ad 12)]) := by
  have hx := C.1
  have hb := C.2.1
  have hts := C.2.2.2.2.2.1
  have hown := C.2.2.2.2.1
  unfold F_Md_less_34
  refine kcV (k := 12) (ci := 7) (As := [.int y1, .int y2]) (rest := []) C w rfl rfl (c_Md_tell l A D cA tb ad mu nu y1 y2) (cwV 2 hts gX7_less_X7_tell rfl rfl rfl (by decide +kernel) ⟨Nat.le_of_ble_eq_true rfl, Nat.le_of_ble_eq_true rfl⟩) rfl rfl hl.1 (Nat.le_of_ble_eq_true rfl) dX7_less_34 (fun H locs w => ?_)
  exact k_Md_less_37 C w (lv_sub hl [0, 1, 2, 3] rfl)
def F_Md_less_29 (x1 : Int32) (x2 : Int32) (x3 : Int32) (y1 : Int32) (mu : Mu) : Int32 × Mu := F_Md_less_34 x1 x2 x3 y1 1 mu
set_option maxHeartbeats 4000000 in
set_option maxRecDepth 100000 in
theorem k_Md_less_29 (C : Cx cX7_less 5 (some .int) wsX7_less RX7 A D cA tb p s m args meth c) {mu nu : Mu} {x1 : Int32} {x2 : Int32} {x3 : Int32} {y1 : Int32} {H : Heap} {locs : List Loc} {ls : Array Slot} (w : Wd A D cA ad s nu mu H locs) (hl : lv_has ls 5 [(0, .ref (ad 12)), (1, .int x1), (2, .int x2), (3, .int x3)]) : W p l e { frames := 2, cells := 0, slots := 0, locals := 43 } s m args below meth c H locs 0 0 (QI A D cA ad below args s (F_Md_less_29 x1 x2 x3 y1 mu).1 nu (F_Md_less_29 x1 x2 x3 y1 mu).2) (F0 m 29 ls [.int y1, .ref (ad 12)]) := by
  have hx := C.1
  have hb := C.2.1
  have hts := C.2.2.2.2.2.1
  have hown := C.2.2.2.2.1
  unfold F_Md_less_29
  refine lv_iconst (v := 1) hx hb dX7_less_29 (by decide) ?_
  refine lv_goto (tgt := 34) hx hb dX7_less_30 (by decide) ?_
  exact k_Md_less_34 C w (lv_sub hl [0, 1, 2, 3] rfl)
def F_Md_less (x1 : Int32) (x2 : Int32) (x3 : Int32) (mu : Mu) : Int32 × Mu := (if (((F_Md_signed x1 mu) - (F_Md_signed x2 mu)) - x3) < (-128 : Int32) then F_Md_less_29 x1 x2 x3 2 mu else (if (((F_Md_signed x1 mu) - (F_Md_signed x2 mu)) - x3) ≤ (127 : Int32) then F_Md_less_34 x1 x2 x3 2 0 mu else F_Md_less_29 x1 x2 x3 2 mu))
set_option maxHeartbeats 4000000 in
set_option maxRecDepth 100000 in
theorem k_Md_less (C : Cx cX7_less 5 (some .int) wsX7_less RX7 A D cA tb p s m args meth c) {mu nu : Mu} {x1 : Int32} {x2 : Int32} {x3 : Int32} {H : Heap} {locs : List Loc} {ls : Array Slot} (w : Wd A D cA ad s nu mu H locs) (hl : lv_has ls 5 [(0, .ref (ad 12)), (1, .int x1), (2, .int x2), (3, .int x3)]) : W p l e { frames := 2, cells := 0, slots := 0, locals := 43 } s m args below meth c H locs 0 0 (QI A D cA ad below args s (F_Md_less x1 x2 x3 mu).1 nu (F_Md_less x1 x2 x3 mu).2) (F0 m 0 ls []) := by
  have hx := C.1
  have hb := C.2.1
  have hts := C.2.2.2.2.2.1
  have hown := C.2.2.2.2.1
  unfold F_Md_less
  refine lv_iload_n hx hb dX7_less_0 rfl (lv_at hl 1 rfl) ?_
  refine kcIS (As := [.int x1]) (rest := []) C w (c_Md_signed l A D cA tb ad mu nu x1) (va_cwS 1 hts gX7_less_X7_signed rfl rfl rfl (by decide +kernel) ⟨Nat.le_of_ble_eq_true rfl, Nat.le_of_ble_eq_true rfl⟩) rfl rfl hl.1 (Nat.le_of_ble_eq_true rfl) dX7_less_1 (fun H locs w => ?_)
  refine lv_iload_n hx hb dX7_less_4 rfl (lv_at hl 2 rfl) ?_
  refine kcIS (As := [.int x2]) (rest := [.int ((F_Md_signed x1 mu))]) C w (c_Md_signed l A D cA tb ad mu nu x2) (va_cwS 1 hts gX7_less_X7_signed rfl rfl rfl (by decide +kernel) ⟨Nat.le_of_ble_eq_true rfl, Nat.le_of_ble_eq_true rfl⟩) rfl rfl hl.1 (Nat.le_of_ble_eq_true rfl) dX7_less_5 (fun H locs w => ?_)
  refine lv_isub hx hb dX7_less_8 ?_
  refine lv_iload_n hx hb dX7_less_9 rfl (lv_at hl 3 rfl) ?_
  refine lv_isub hx hb dX7_less_10 ?_
  refine lv_istore (lv' := [(4, .int ((((F_Md_signed x1 mu) - (F_Md_signed x2 mu)) - x3))), (0, .ref (ad 12)), (1, .int x1), (2, .int x2), (3, .int x3)]) hx hb dX7_less_11 hl (by decide) rfl (fun ls hl => ?_)
  refine lv_aload_n hx hb dX7_less_13 rfl (lv_at hl 1 rfl) ?_
  refine lv_iconst (v := 2) hx hb dX7_less_14 (by decide) ?_
  refine lv_iload hx hb dX7_less_15 (lv_at hl 0 rfl) ?_
  refine lv_bipush (v := (-128 : Int32)) hx hb dX7_less_17 (by decide) ?_
  refine lv_icmp_lt (tgt := 29) hx hb dX7_less_19 (by decide) (fun h19 => ?_) (fun h19 => ?_)
  · rw [if_pos h19]
    exact k_Md_less_29 C w (lv_sub hl [1, 2, 3, 4] rfl)
  · rw [if_neg h19]
    refine lv_iload hx hb dX7_less_22 (lv_at hl 0 rfl) ?_
    refine lv_bipush (v := 127) hx hb dX7_less_24 (by decide) ?_
    refine lv_icmp_le (tgt := 33) hx hb dX7_less_26 (by decide) (fun h26 => ?_) (fun h26 => ?_)
    · rw [if_pos h26]
      refine lv_iconst (v := 0) hx hb dX7_less_33 (by decide) ?_
      exact k_Md_less_34 C w (lv_sub hl [1, 2, 3, 4] rfl)
    · rw [if_neg h26]
      exact k_Md_less_29 C w (lv_sub hl [1, 2, 3, 4] rfl)
set_option maxHeartbeats 4000000 in
set_option maxRecDepth 100000 in
theorem c_Md_less (l : Launch) (A : Nat → Prop) (D : va_G) (cA : Nat → ClassId) (tb : Nat) (ad : Nat → Nat) (mu nu : Mu) (x1 : Int32) (x2 : Int32) (x3 : Int32) : Met l yX7_less wsX7_less ({ frames := 2, cells := 0, slots := 0, locals := 43 }) (va_Pc [.ref (ad 12), .int x1, .int x2, .int x3] (Pw A D cA tb ad nu mu)) (va_Qi (fun (r : Int32) (u : Mu × Mu) => r = (F_Md_less x1 x2 x3 mu).1 ∧ u = (nu, (F_Md_less x1 x2 x3 mu).2)) (Bw A D cA ad) A) 0 0 A := by
  refine Met.ofW (cc := cX7_less) (maxL := 5) (ret := (some .int)) (by decide) rfl ?_
  intro p e s m args below meth c s₁ B hml hv
  obtain ⟨rfl, w0⟩ := hv
  have C : Cx cX7_less 5 (some .int) wsX7_less RX7 A D cA tb p s m _ meth c := ⟨B.exec, B.bytes, B.returns, hml, findClass_of_methodNamed B.named, atoms_spec (ws := wsX7_less) B.pre, B.notSynchronized, w0.2.1, w0.2.2.2.1, w0.2.2.2.2⟩
  have hl := lv_entry ([.ref (ad 12), .int x1, .int x2, .int x3]) (n := 5) (Nat.le_of_ble_eq_true rfl)
  rw [lg_entry_eq]
  exact k_Md_less C w0.wd hl
end
