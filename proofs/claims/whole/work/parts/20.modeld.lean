section
variable {p : Program} {l : Launch} {e : Env} {s : State} {m : MethodId} {args : Array Value} {below : List Frame} {meth : Method} {c : Code} 
variable {A : Nat → Prop} {D : va_G} {cA : Nat → ClassId} {tb : Nat} {ad : Nat → Nat}
def F_Md_single_122 (x4 : Int32) (y1 : Int32) (y2 : Int32) (mu : Mu) : Int32 × Mu := (x4, (F_Md_tell y1 y2 mu))
set_option maxHeartbeats 4000000 in
set_option maxRecDepth 100000 in
theorem k_Md_single_122 (C : Cx cX7_single 5 (some .int) wsX7_single RX7 A D cA tb p s m args meth c) {mu nu : Mu} {x4 : Int32} {y1 : Int32} {y2 : Int32} {H : Heap} {locs : List Loc} {ls : Array Slot} (w : Wd A D cA ad s nu mu H locs) (hl : lv_has ls 5 [(4, .int x4)]) : W p l e { frames := 3, cells := 0, slots := 0, locals := 66 } s m args below meth c H locs 0 0 (QI A D cA ad below args s (F_Md_single_122 x4 y1 y2 mu).1 nu (F_Md_single_122 x4 y1 y2 mu).2) (F0 m 122 ls [.int y2, .int y1, .ref (ad 12)]) := by
  have hx := C.1
  have hb := C.2.1
  have hts := C.2.2.2.2.2.1
  have hown := C.2.2.2.2.1
  unfold F_Md_single_122
  refine kcV (k := 12) (ci := 7) (As := [.int y1, .int y2]) (rest := []) C w rfl rfl (c_Md_tell l A D cA tb ad mu nu y1 y2) (cwV 2 hts gX7_single_X7_tell rfl rfl rfl (by decide +kernel) ⟨Nat.le_of_ble_eq_true rfl, Nat.le_of_ble_eq_true rfl⟩) rfl rfl hl.1 (Nat.le_of_ble_eq_true rfl) dX7_single_122 (fun H locs w => ?_)
  refine lv_iload hx hb dX7_single_125 (lv_at hl 0 rfl) ?_
  exact retI C w dX7_single_127
def F_Md_single_110 (x4 : Int32) (mu : Mu) : Int32 × Mu := (if x4 = (0 : Int32) then F_Md_single_122 x4 1 0 mu else F_Md_single_122 x4 1 1 mu)
set_option maxHeartbeats 4000000 in
set_option maxRecDepth 100000 in
theorem k_Md_single_110 (C : Cx cX7_single 5 (some .int) wsX7_single RX7 A D cA tb p s m args meth c) {mu nu : Mu} {x4 : Int32} {H : Heap} {locs : List Loc} {ls : Array Slot} (w : Wd A D cA ad s nu mu H locs) (hl : lv_has ls 5 [(0, .ref (ad 12)), (4, .int x4)]) : W p l e { frames := 3, cells := 0, slots := 0, locals := 66 } s m args below meth c H locs 0 0 (QI A D cA ad below args s (F_Md_single_110 x4 mu).1 nu (F_Md_single_110 x4 mu).2) (F0 m 110 ls []) := by
  have hx := C.1
  have hb := C.2.1
  have hts := C.2.2.2.2.2.1
  have hown := C.2.2.2.2.1
  unfold F_Md_single_110
  refine lv_aload_n hx hb dX7_single_110 rfl (lv_at hl 0 rfl) ?_
  refine lv_iconst (v := 1) hx hb dX7_single_111 (by decide) ?_
  refine lv_iload hx hb dX7_single_112 (lv_at hl 1 rfl) ?_
  refine lv_if_eq (tgt := 121) hx hb dX7_single_114 (by decide) (fun h114 => ?_) (fun h114 => ?_)
  · rw [if_pos h114]
    refine lv_iconst (v := 0) hx hb dX7_single_121 (by decide) ?_
    exact k_Md_single_122 C w (lv_sub hl [1] rfl)
  · rw [if_neg h114]
    refine lv_iconst (v := 1) hx hb dX7_single_117 (by decide) ?_
    refine lv_goto (tgt := 122) hx hb dX7_single_118 (by decide) ?_
    exact k_Md_single_122 C w (lv_sub hl [1] rfl)
def F_Md_single_107 (x4 : Int32) (y1 : Int32) (y2 : Int32) (mu : Mu) : Int32 × Mu := F_Md_single_110 x4 (F_Md_tell y1 y2 mu)
set_option maxHeartbeats 4000000 in
set_option maxRecDepth 100000 in
theorem k_Md_single_107 (C : Cx cX7_single 5 (some .int) wsX7_single RX7 A D cA tb p s m args meth c) {mu nu : Mu} {x4 : Int32} {y1 : Int32} {y2 : Int32} {H : Heap} {locs : List Loc} {ls : Array Slot} (w : Wd A D cA ad s nu mu H locs) (hl : lv_has ls 5 [(0, .ref (ad 12)), (4, .int x4)]) : W p l e { frames := 3, cells := 0, slots := 0, locals := 66 } s m args below meth c H locs 0 0 (QI A D cA ad below args s (F_Md_single_107 x4 y1 y2 mu).1 nu (F_Md_single_107 x4 y1 y2 mu).2) (F0 m 107 ls [.int y2, .int y1, .ref (ad 12)]) := by
  have hx := C.1
  have hb := C.2.1
  have hts := C.2.2.2.2.2.1
  have hown := C.2.2.2.2.1
  unfold F_Md_single_107
  refine kcV (k := 12) (ci := 7) (As := [.int y1, .int y2]) (rest := []) C w rfl rfl (c_Md_tell l A D cA tb ad mu nu y1 y2) (cwV 2 hts gX7_single_X7_tell rfl rfl rfl (by decide +kernel) ⟨Nat.le_of_ble_eq_true rfl, Nat.le_of_ble_eq_true rfl⟩) rfl rfl hl.1 (Nat.le_of_ble_eq_true rfl) dX7_single_107 (fun H locs w => ?_)
  exact k_Md_single_110 C w (lv_sub hl [0, 1] rfl)
def F_Md_single_90 (y0 : Int32) (mu : Mu) : Int32 × Mu := (if y0 = (128 : Int32) then F_Md_single_107 y0 2 1 mu else F_Md_single_107 y0 2 0 mu)
set_option maxHeartbeats 4000000 in
set_option maxRecDepth 100000 in
theorem k_Md_single_90 (C : Cx cX7_single 5 (some .int) wsX7_single RX7 A D cA tb p s m args meth c) {mu nu : Mu} {y0 : Int32} {H : Heap} {locs : List Loc} {ls : Array Slot} (w : Wd A D cA ad s nu mu H locs) (hl : lv_has ls 5 [(0, .ref (ad 12))]) : W p l e { frames := 3, cells := 0, slots := 0, locals := 66 } s m args below meth c H locs 0 0 (QI A D cA ad below args s (F_Md_single_90 y0 mu).1 nu (F_Md_single_90 y0 mu).2) (F0 m 90 ls [.int y0]) := by
  have hx := C.1
  have hb := C.2.1
  have hts := C.2.2.2.2.2.1
  have hown := C.2.2.2.2.1
  unfold F_Md_single_90
  refine lv_istore (lv' := [(4, .int y0), (0, .ref (ad 12))]) hx hb dX7_single_90 hl (by decide) rfl (fun ls hl => ?_)
  refine lv_aload_n hx hb dX7_single_92 rfl (lv_at hl 1 rfl) ?_
  refine lv_iconst (v := 2) hx hb dX7_single_93 (by decide) ?_
  refine lv_iload hx hb dX7_single_94 (lv_at hl 0 rfl) ?_
  refine lv_sipush (v := 128) hx hb dX7_single_96 (by decide) ?_
  refine lv_icmp_ne (tgt := 106) hx hb dX7_single_99 (by decide) (fun h99 => ?_) (fun h99 => ?_)
  · rw [if_neg h99]
    refine lv_iconst (v := 0) hx hb dX7_single_106 (by decide) ?_
    exact k_Md_single_107 C w (lv_sub hl [1, 0] rfl)
  · rw [if_pos h99]
    refine lv_iconst (v := 1) hx hb dX7_single_102 (by decide) ?_
    refine lv_goto (tgt := 107) hx hb dX7_single_103 (by decide) ?_
    exact k_Md_single_107 C w (lv_sub hl [1, 0] rfl)
def F_Md_single_317 (mu : Mu) : Int32 × Mu := ((F_Md_nzv 0 mu).1, (F_Md_nzv 0 mu).2)
set_option maxHeartbeats 4000000 in
set_option maxRecDepth 100000 in
theorem k_Md_single_317 (C : Cx cX7_single 5 (some .int) wsX7_single RX7 A D cA tb p s m args meth c) {mu nu : Mu} {H : Heap} {locs : List Loc} {ls : Array Slot} (w : Wd A D cA ad s nu mu H locs) (hl : lv_has ls 5 [(0, .ref (ad 12))]) : W p l e { frames := 3, cells := 0, slots := 0, locals := 66 } s m args below meth c H locs 0 0 (QI A D cA ad below args s (F_Md_single_317 mu).1 nu (F_Md_single_317 mu).2) (F0 m 317 ls []) := by
  have hx := C.1
  have hb := C.2.1
  have hts := C.2.2.2.2.2.1
  have hown := C.2.2.2.2.1
  unfold F_Md_single_317
  refine lv_aload_n hx hb dX7_single_317 rfl (lv_at hl 0 rfl) ?_
  refine lv_iconst (v := 0) hx hb dX7_single_318 (by decide) ?_
  refine kcI (k := 12) (ci := 7) (As := [.int 0]) (rest := []) C w rfl rfl (c_Md_nzv l A D cA tb ad mu nu 0) (cwV 1 hts gX7_single_X7_nzv rfl rfl rfl (by decide +kernel) ⟨Nat.le_of_ble_eq_true rfl, Nat.le_of_ble_eq_true rfl⟩) rfl rfl hl.1 (Nat.le_of_ble_eq_true rfl) dX7_single_319 (fun H locs w => ?_)
  exact retI C w dX7_single_322
def F_Md_single_311 (mu : Mu) : Int32 × Mu := F_Md_single_317 (F_Md_tell 1 0 mu)
set_option maxHeartbeats 4000000 in
set_option maxRecDepth 100000 in
theorem k_Md_single_311 (C : Cx cX7_single 5 (some .int) wsX7_single RX7 A D cA tb p s m args meth c) {mu nu : Mu} {H : Heap} {locs : List Loc} {ls : Array Slot} (w : Wd A D cA ad s nu mu H locs) (hl : lv_has ls 5 [(0, .ref (ad 12))]) : W p l e { frames := 3, cells := 0, slots := 0, locals := 66 } s m args below meth c H locs 0 0 (QI A D cA ad below args s (F_Md_single_311 mu).1 nu (F_Md_single_311 mu).2) (F0 m 311 ls []) := by
  have hx := C.1
  have hb := C.2.1
  have hts := C.2.2.2.2.2.1
  have hown := C.2.2.2.2.1
  unfold F_Md_single_311
  refine lv_aload_n hx hb dX7_single_311 rfl (lv_at hl 0 rfl) ?_
  refine lv_iconst (v := 1) hx hb dX7_single_312 (by decide) ?_
  refine lv_iconst (v := 0) hx hb dX7_single_313 (by decide) ?_
  refine kcV (k := 12) (ci := 7) (As := [.int 1, .int 0]) (rest := []) C w rfl rfl (c_Md_tell l A D cA tb ad mu nu 1 0) (cwV 2 hts gX7_single_X7_tell rfl rfl rfl (by decide +kernel) ⟨Nat.le_of_ble_eq_true rfl, Nat.le_of_ble_eq_true rfl⟩) rfl rfl hl.1 (Nat.le_of_ble_eq_true rfl) dX7_single_314 (fun H locs w => ?_)
  exact k_Md_single_317 C w (lv_sub hl [0] rfl)
def F_Md_single_134 (x2 : Int32) (mu : Mu) : Int32 × Mu := ((F_Md_nzv (x2 ^^^ (-1 : Int32)) mu).1, (F_Md_nzv (x2 ^^^ (-1 : Int32)) mu).2)
set_option maxHeartbeats 4000000 in
set_option maxRecDepth 100000 in
theorem k_Md_single_134 (C : Cx cX7_single 5 (some .int) wsX7_single RX7 A D cA tb p s m args meth c) {mu nu : Mu} {x2 : Int32} {H : Heap} {locs : List Loc} {ls : Array Slot} (w : Wd A D cA ad s nu mu H locs) (hl : lv_has ls 5 [(0, .ref (ad 12)), (2, .int x2)]) : W p l e { frames := 3, cells := 0, slots := 0, locals := 66 } s m args below meth c H locs 0 0 (QI A D cA ad below args s (F_Md_single_134 x2 mu).1 nu (F_Md_single_134 x2 mu).2) (F0 m 134 ls []) := by
  have hx := C.1
  have hb := C.2.1
  have hts := C.2.2.2.2.2.1
  have hown := C.2.2.2.2.1
  unfold F_Md_single_134
  refine lv_aload_n hx hb dX7_single_134 rfl (lv_at hl 0 rfl) ?_
  refine lv_iload_n hx hb dX7_single_135 rfl (lv_at hl 1 rfl) ?_
  refine lv_iconst (v := (-1 : Int32)) hx hb dX7_single_136 (by decide) ?_
  refine lv_ixor hx hb dX7_single_137 ?_
  refine kcI (k := 12) (ci := 7) (As := [.int ((x2 ^^^ (-1 : Int32)))]) (rest := []) C w rfl rfl (c_Md_nzv l A D cA tb ad mu nu (x2 ^^^ (-1 : Int32))) (cwV 1 hts gX7_single_X7_nzv rfl rfl rfl (by decide +kernel) ⟨Nat.le_of_ble_eq_true rfl, Nat.le_of_ble_eq_true rfl⟩) rfl rfl hl.1 (Nat.le_of_ble_eq_true rfl) dX7_single_138 (fun H locs w => ?_)
  exact retI C w dX7_single_141
def F_Md_single_157 (y1 : Int32) (y2 : Int32) (mu : Mu) : Int32 × Mu := ((F_Md_shifted y1 y2 mu).1, (F_Md_shifted y1 y2 mu).2)
set_option maxHeartbeats 4000000 in
set_option maxRecDepth 100000 in
theorem k_Md_single_157 (C : Cx cX7_single 5 (some .int) wsX7_single RX7 A D cA tb p s m args meth c) {mu nu : Mu} {y1 : Int32} {y2 : Int32} {H : Heap} {locs : List Loc} {ls : Array Slot} (w : Wd A D cA ad s nu mu H locs) (hl : lv_has ls 5 []) : W p l e { frames := 3, cells := 0, slots := 0, locals := 66 } s m args below meth c H locs 0 0 (QI A D cA ad below args s (F_Md_single_157 y1 y2 mu).1 nu (F_Md_single_157 y1 y2 mu).2) (F0 m 157 ls [.int y2, .int y1, .ref (ad 12)]) := by
  have hx := C.1
  have hb := C.2.1
  have hts := C.2.2.2.2.2.1
  have hown := C.2.2.2.2.1
  unfold F_Md_single_157
  refine kcI (k := 12) (ci := 7) (As := [.int y1, .int y2]) (rest := []) C w rfl rfl (c_Md_shifted l A D cA tb ad mu nu y1 y2) (cwV 2 hts gX7_single_X7_shifted rfl rfl rfl (by decide +kernel) ⟨Nat.le_of_ble_eq_true rfl, Nat.le_of_ble_eq_true rfl⟩) rfl rfl hl.1 (Nat.le_of_ble_eq_true rfl) dX7_single_157 (fun H locs w => ?_)
  exact retI C w dX7_single_160
def F_Md_single_181 (y1 : Int32) (y2 : Int32) (mu : Mu) : Int32 × Mu := ((F_Md_shifted y1 y2 mu).1, (F_Md_shifted y1 y2 mu).2)
set_option maxHeartbeats 4000000 in
set_option maxRecDepth 100000 in
theorem k_Md_single_181 (C : Cx cX7_single 5 (some .int) wsX7_single RX7 A D cA tb p s m args meth c) {mu nu : Mu} {y1 : Int32} {y2 : Int32} {H : Heap} {locs : List Loc} {ls : Array Slot} (w : Wd A D cA ad s nu mu H locs) (hl : lv_has ls 5 []) : W p l e { frames := 3, cells := 0, slots := 0, locals := 66 } s m args below meth c H locs 0 0 (QI A D cA ad below args s (F_Md_single_181 y1 y2 mu).1 nu (F_Md_single_181 y1 y2 mu).2) (F0 m 181 ls [.int y2, .int y1, .ref (ad 12)]) := by
  have hx := C.1
  have hb := C.2.1
  have hts := C.2.2.2.2.2.1
  have hown := C.2.2.2.2.1
  unfold F_Md_single_181
  refine kcI (k := 12) (ci := 7) (As := [.int y1, .int y2]) (rest := []) C w rfl rfl (c_Md_shifted l A D cA tb ad mu nu y1 y2) (cwV 2 hts gX7_single_X7_shifted rfl rfl rfl (by decide +kernel) ⟨Nat.le_of_ble_eq_true rfl, Nat.le_of_ble_eq_true rfl⟩) rfl rfl hl.1 (Nat.le_of_ble_eq_true rfl) dX7_single_181 (fun H locs w => ?_)
  exact retI C w dX7_single_184
def F_Md_single_206 (y1 : Int32) (y2 : Int32) (mu : Mu) : Int32 × Mu := ((F_Md_shifted y1 y2 mu).1, (F_Md_shifted y1 y2 mu).2)
set_option maxHeartbeats 4000000 in
set_option maxRecDepth 100000 in
theorem k_Md_single_206 (C : Cx cX7_single 5 (some .int) wsX7_single RX7 A D cA tb p s m args meth c) {mu nu : Mu} {y1 : Int32} {y2 : Int32} {H : Heap} {locs : List Loc} {ls : Array Slot} (w : Wd A D cA ad s nu mu H locs) (hl : lv_has ls 5 []) : W p l e { frames := 3, cells := 0, slots := 0, locals := 66 } s m args below meth c H locs 0 0 (QI A D cA ad below args s (F_Md_single_206 y1 y2 mu).1 nu (F_Md_single_206 y1 y2 mu).2) (F0 m 206 ls [.int y2, .int y1, .ref (ad 12)]) := by
  have hx := C.1
  have hb := C.2.1
  have hts := C.2.2.2.2.2.1
  have hown := C.2.2.2.2.1
  unfold F_Md_single_206
  refine kcI (k := 12) (ci := 7) (As := [.int y1, .int y2]) (rest := []) C w rfl rfl (c_Md_shifted l A D cA tb ad mu nu y1 y2) (cwV 2 hts gX7_single_X7_shifted rfl rfl rfl (by decide +kernel) ⟨Nat.le_of_ble_eq_true rfl, Nat.le_of_ble_eq_true rfl⟩) rfl rfl hl.1 (Nat.le_of_ble_eq_true rfl) dX7_single_206 (fun H locs w => ?_)
  exact retI C w dX7_single_209
def F_Md_single_225 (y1 : Int32) (y2 : Int32) (mu : Mu) : Int32 × Mu := ((F_Md_shifted y1 y2 mu).1, (F_Md_shifted y1 y2 mu).2)
set_option maxHeartbeats 4000000 in
set_option maxRecDepth 100000 in
theorem k_Md_single_225 (C : Cx cX7_single 5 (some .int) wsX7_single RX7 A D cA tb p s m args meth c) {mu nu : Mu} {y1 : Int32} {y2 : Int32} {H : Heap} {locs : List Loc} {ls : Array Slot} (w : Wd A D cA ad s nu mu H locs) (hl : lv_has ls 5 []) : W p l e { frames := 3, cells := 0, slots := 0, locals := 66 } s m args below meth c H locs 0 0 (QI A D cA ad below args s (F_Md_single_225 y1 y2 mu).1 nu (F_Md_single_225 y1 y2 mu).2) (F0 m 225 ls [.int y2, .int y1, .ref (ad 12)]) := by
  have hx := C.1
  have hb := C.2.1
  have hts := C.2.2.2.2.2.1
  have hown := C.2.2.2.2.1
  unfold F_Md_single_225
  refine kcI (k := 12) (ci := 7) (As := [.int y1, .int y2]) (rest := []) C w rfl rfl (c_Md_shifted l A D cA tb ad mu nu y1 y2) (cwV 2 hts gX7_single_X7_shifted rfl rfl rfl (by decide +kernel) ⟨Nat.le_of_ble_eq_true rfl, Nat.le_of_ble_eq_true rfl⟩) rfl rfl hl.1 (Nat.le_of_ble_eq_true rfl) dX7_single_225 (fun H locs w => ?_)
  exact retI C w dX7_single_228
def F_Md_single_246 (y1 : Int32) (y2 : Int32) (mu : Mu) : Int32 × Mu := ((F_Md_shifted y1 y2 mu).1, (F_Md_shifted y1 y2 mu).2)
set_option maxHeartbeats 4000000 in
set_option maxRecDepth 100000 in
theorem k_Md_single_246 (C : Cx cX7_single 5 (some .int) wsX7_single RX7 A D cA tb p s m args meth c) {mu nu : Mu} {y1 : Int32} {y2 : Int32} {H : Heap} {locs : List Loc} {ls : Array Slot} (w : Wd A D cA ad s nu mu H locs) (hl : lv_has ls 5 []) : W p l e { frames := 3, cells := 0, slots := 0, locals := 66 } s m args below meth c H locs 0 0 (QI A D cA ad below args s (F_Md_single_246 y1 y2 mu).1 nu (F_Md_single_246 y1 y2 mu).2) (F0 m 246 ls [.int y2, .int y1, .ref (ad 12)]) := by
  have hx := C.1
  have hb := C.2.1
  have hts := C.2.2.2.2.2.1
  have hown := C.2.2.2.2.1
  unfold F_Md_single_246
  refine kcI (k := 12) (ci := 7) (As := [.int y1, .int y2]) (rest := []) C w rfl rfl (c_Md_shifted l A D cA tb ad mu nu y1 y2) (cwV 2 hts gX7_single_X7_shifted rfl rfl rfl (by decide +kernel) ⟨Nat.le_of_ble_eq_true rfl, Nat.le_of_ble_eq_true rfl⟩) rfl rfl hl.1 (Nat.le_of_ble_eq_true rfl) dX7_single_246 (fun H locs w => ?_)
  exact retI C w dX7_single_249
def F_Md_single_267 (x2 : Int32) (mu : Mu) : Int32 × Mu := ((F_Md_nz (x2 - 1) mu).1, (F_Md_nz (x2 - 1) mu).2)
set_option maxHeartbeats 4000000 in
set_option maxRecDepth 100000 in
theorem k_Md_single_267 (C : Cx cX7_single 5 (some .int) wsX7_single RX7 A D cA tb p s m args meth c) {mu nu : Mu} {x2 : Int32} {H : Heap} {locs : List Loc} {ls : Array Slot} (w : Wd A D cA ad s nu mu H locs) (hl : lv_has ls 5 [(0, .ref (ad 12)), (2, .int x2)]) : W p l e { frames := 3, cells := 0, slots := 0, locals := 66 } s m args below meth c H locs 0 0 (QI A D cA ad below args s (F_Md_single_267 x2 mu).1 nu (F_Md_single_267 x2 mu).2) (F0 m 267 ls []) := by
  have hx := C.1
  have hb := C.2.1
  have hts := C.2.2.2.2.2.1
  have hown := C.2.2.2.2.1
  unfold F_Md_single_267
  refine lv_aload_n hx hb dX7_single_267 rfl (lv_at hl 0 rfl) ?_
  refine lv_iload_n hx hb dX7_single_268 rfl (lv_at hl 1 rfl) ?_
  refine lv_iconst (v := 1) hx hb dX7_single_269 (by decide) ?_
  refine lv_isub hx hb dX7_single_270 ?_
  refine kcI (k := 12) (ci := 7) (As := [.int ((x2 - 1))]) (rest := []) C w rfl rfl (c_Md_nz l A D cA tb ad mu nu (x2 - 1)) (cwV 1 hts gX7_single_X7_nz rfl rfl rfl (by decide +kernel) ⟨Nat.le_of_ble_eq_true rfl, Nat.le_of_ble_eq_true rfl⟩) rfl rfl hl.1 (Nat.le_of_ble_eq_true rfl) dX7_single_271 (fun H locs w => ?_)
  exact retI C w dX7_single_274
def F_Md_single_264 (x2 : Int32) (y1 : Int32) (y2 : Int32) (mu : Mu) : Int32 × Mu := F_Md_single_267 x2 (F_Md_tell y1 y2 mu)
set_option maxHeartbeats 4000000 in
set_option maxRecDepth 100000 in
theorem k_Md_single_264 (C : Cx cX7_single 5 (some .int) wsX7_single RX7 A D cA tb p s m args meth c) {mu nu : Mu} {x2 : Int32} {y1 : Int32} {y2 : Int32} {H : Heap} {locs : List Loc} {ls : Array Slot} (w : Wd A D cA ad s nu mu H locs) (hl : lv_has ls 5 [(0, .ref (ad 12)), (2, .int x2)]) : W p l e { frames := 3, cells := 0, slots := 0, locals := 66 } s m args below meth c H locs 0 0 (QI A D cA ad below args s (F_Md_single_264 x2 y1 y2 mu).1 nu (F_Md_single_264 x2 y1 y2 mu).2) (F0 m 264 ls [.int y2, .int y1, .ref (ad 12)]) := by
  have hx := C.1
  have hb := C.2.1
  have hts := C.2.2.2.2.2.1
  have hown := C.2.2.2.2.1
  unfold F_Md_single_264
  refine kcV (k := 12) (ci := 7) (As := [.int y1, .int y2]) (rest := []) C w rfl rfl (c_Md_tell l A D cA tb ad mu nu y1 y2) (cwV 2 hts gX7_single_X7_tell rfl rfl rfl (by decide +kernel) ⟨Nat.le_of_ble_eq_true rfl, Nat.le_of_ble_eq_true rfl⟩) rfl rfl hl.1 (Nat.le_of_ble_eq_true rfl) dX7_single_264 (fun H locs w => ?_)
  exact k_Md_single_267 C w (lv_sub hl [0, 1] rfl)
def F_Md_single_291 (x2 : Int32) (mu : Mu) : Int32 × Mu := ((F_Md_nz (x2 + 1) mu).1, (F_Md_nz (x2 + 1) mu).2)
set_option maxHeartbeats 4000000 in
set_option maxRecDepth 100000 in
theorem k_Md_single_291 (C : Cx cX7_single 5 (some .int) wsX7_single RX7 A D cA tb p s m args meth c) {mu nu : Mu} {x2 : Int32} {H : Heap} {locs : List Loc} {ls : Array Slot} (w : Wd A D cA ad s nu mu H locs) (hl : lv_has ls 5 [(0, .ref (ad 12)), (2, .int x2)]) : W p l e { frames := 3, cells := 0, slots := 0, locals := 66 } s m args below meth c H locs 0 0 (QI A D cA ad below args s (F_Md_single_291 x2 mu).1 nu (F_Md_single_291 x2 mu).2) (F0 m 291 ls []) := by
  have hx := C.1
  have hb := C.2.1
  have hts := C.2.2.2.2.2.1
  have hown := C.2.2.2.2.1
  unfold F_Md_single_291
  refine lv_aload_n hx hb dX7_single_291 rfl (lv_at hl 0 rfl) ?_
  refine lv_iload_n hx hb dX7_single_292 rfl (lv_at hl 1 rfl) ?_
  refine lv_iconst (v := 1) hx hb dX7_single_293 (by decide) ?_
  refine lv_iadd hx hb dX7_single_294 ?_
  refine kcI (k := 12) (ci := 7) (As := [.int ((x2 + 1))]) (rest := []) C w rfl rfl (c_Md_nz l A D cA tb ad mu nu (x2 + 1)) (cwV 1 hts gX7_single_X7_nz rfl rfl rfl (by decide +kernel) ⟨Nat.le_of_ble_eq_true rfl, Nat.le_of_ble_eq_true rfl⟩) rfl rfl hl.1 (Nat.le_of_ble_eq_true rfl) dX7_single_295 (fun H locs w => ?_)
  exact retI C w dX7_single_298
def F_Md_single_288 (x2 : Int32) (y1 : Int32) (y2 : Int32) (mu : Mu) : Int32 × Mu := F_Md_single_291 x2 (F_Md_tell y1 y2 mu)
set_option maxHeartbeats 4000000 in
set_option maxRecDepth 100000 in
theorem k_Md_single_288 (C : Cx cX7_single 5 (some .int) wsX7_single RX7 A D cA tb p s m args meth c) {mu nu : Mu} {x2 : Int32} {y1 : Int32} {y2 : Int32} {H : Heap} {locs : List Loc} {ls : Array Slot} (w : Wd A D cA ad s nu mu H locs) (hl : lv_has ls 5 [(0, .ref (ad 12)), (2, .int x2)]) : W p l e { frames := 3, cells := 0, slots := 0, locals := 66 } s m args below meth c H locs 0 0 (QI A D cA ad below args s (F_Md_single_288 x2 y1 y2 mu).1 nu (F_Md_single_288 x2 y1 y2 mu).2) (F0 m 288 ls [.int y2, .int y1, .ref (ad 12)]) := by
  have hx := C.1
  have hb := C.2.1
  have hts := C.2.2.2.2.2.1
  have hown := C.2.2.2.2.1
  unfold F_Md_single_288
  refine kcV (k := 12) (ci := 7) (As := [.int y1, .int y2]) (rest := []) C w rfl rfl (c_Md_tell l A D cA tb ad mu nu y1 y2) (cwV 2 hts gX7_single_X7_tell rfl rfl rfl (by decide +kernel) ⟨Nat.le_of_ble_eq_true rfl, Nat.le_of_ble_eq_true rfl⟩) rfl rfl hl.1 (Nat.le_of_ble_eq_true rfl) dX7_single_288 (fun H locs w => ?_)
  exact k_Md_single_291 C w (lv_sub hl [0, 1] rfl)
def F_Md_single_305 (x2 : Int32) (mu : Mu) : Int32 × Mu := ((F_Md_nzv x2 mu).1, (F_Md_nzv x2 mu).2)
set_option maxHeartbeats 4000000 in
set_option maxRecDepth 100000 in
theorem k_Md_single_305 (C : Cx cX7_single 5 (some .int) wsX7_single RX7 A D cA tb p s m args meth c) {mu nu : Mu} {x2 : Int32} {H : Heap} {locs : List Loc} {ls : Array Slot} (w : Wd A D cA ad s nu mu H locs) (hl : lv_has ls 5 [(0, .ref (ad 12)), (2, .int x2)]) : W p l e { frames := 3, cells := 0, slots := 0, locals := 66 } s m args below meth c H locs 0 0 (QI A D cA ad below args s (F_Md_single_305 x2 mu).1 nu (F_Md_single_305 x2 mu).2) (F0 m 305 ls []) := by
  have hx := C.1
  have hb := C.2.1
  have hts := C.2.2.2.2.2.1
  have hown := C.2.2.2.2.1
  unfold F_Md_single_305
  refine lv_aload_n hx hb dX7_single_305 rfl (lv_at hl 0 rfl) ?_
  refine lv_iload_n hx hb dX7_single_306 rfl (lv_at hl 1 rfl) ?_
  refine kcI (k := 12) (ci := 7) (As := [.int x2]) (rest := []) C w rfl rfl (c_Md_nzv l A D cA tb ad mu nu x2) (cwV 1 hts gX7_single_X7_nzv rfl rfl rfl (by decide +kernel) ⟨Nat.le_of_ble_eq_true rfl, Nat.le_of_ble_eq_true rfl⟩) rfl rfl hl.1 (Nat.le_of_ble_eq_true rfl) dX7_single_307 (fun H locs w => ?_)
  exact retI C w dX7_single_310
def F_Md_single_13 (x1 : Int32) (x2 : Int32) (y0 : Int32) (mu : Mu) : Int32 × Mu := (if x1 = 0 then F_Md_single_90 ((F_Md_nzv (-x2) mu).1) ((F_Md_nzv (-x2) mu).2) else (if x1 = 1 then F_Md_single_311 mu else (if x1 = 2 then F_Md_single_311 mu else (if x1 = 3 then F_Md_single_134 x2 (F_Md_tell 1 1 mu) else (if x1 = 4 then (if (x2 &&& 1) = (0 : Int32) then F_Md_single_157 (x2 >>> (1 &&& 31)) 0 mu else F_Md_single_157 (x2 >>> (1 &&& 31)) 1 mu) else (if x1 = 5 then F_Md_single_311 mu else (if x1 = 6 then (if (x2 &&& 1) = (0 : Int32) then F_Md_single_181 ((x2 >>> (1 &&& 31)) ||| (y0 <<< (7 &&& 31))) 0 mu else F_Md_single_181 ((x2 >>> (1 &&& 31)) ||| (y0 <<< (7 &&& 31))) 1 mu) else (if x1 = 7 then (if (x2 &&& 1) = (0 : Int32) then F_Md_single_206 ((x2 >>> (1 &&& 31)) ||| (x2 &&& 128)) 0 mu else F_Md_single_206 ((x2 >>> (1 &&& 31)) ||| (x2 &&& 128)) 1 mu) else (if x1 = 8 then (if x2 ≤ (127 : Int32) then F_Md_single_225 (x2 <<< (1 &&& 31)) 0 mu else F_Md_single_225 (x2 <<< (1 &&& 31)) 1 mu) else (if x1 = 9 then (if x2 ≤ (127 : Int32) then F_Md_single_246 ((x2 <<< (1 &&& 31)) ||| y0) 0 mu else F_Md_single_246 ((x2 <<< (1 &&& 31)) ||| y0) 1 mu) else (if x1 = 10 then (if x2 = (128 : Int32) then F_Md_single_264 x2 2 1 mu else F_Md_single_264 x2 2 0 mu) else (if x1 = 11 then F_Md_single_311 mu else (if x1 = 12 then (if x2 = (127 : Int32) then F_Md_single_288 x2 2 1 mu else F_Md_single_288 x2 2 0 mu) else (if x1 = 13 then F_Md_single_305 x2 (F_Md_tell 1 0 mu) else F_Md_single_311 mu))))))))))))))
set_option maxHeartbeats 4000000 in
set_option maxRecDepth 100000 in
theorem k_Md_single_13 (C : Cx cX7_single 5 (some .int) wsX7_single RX7 A D cA tb p s m args meth c) {mu nu : Mu} {x1 : Int32} {x2 : Int32} {y0 : Int32} {H : Heap} {locs : List Loc} {ls : Array Slot} (w : Wd A D cA ad s nu mu H locs) (hl : lv_has ls 5 [(0, .ref (ad 12)), (1, .int x1), (2, .int x2)]) : W p l e { frames := 3, cells := 0, slots := 0, locals := 66 } s m args below meth c H locs 0 0 (QI A D cA ad below args s (F_Md_single_13 x1 x2 y0 mu).1 nu (F_Md_single_13 x1 x2 y0 mu).2) (F0 m 13 ls [.int y0]) := by
  have hx := C.1
  have hb := C.2.1
  have hts := C.2.2.2.2.2.1
  have hown := C.2.2.2.2.1
  unfold F_Md_single_13
  refine lv_istore_n (lv' := [(3, .int y0), (0, .ref (ad 12)), (1, .int x1), (2, .int x2)]) hx hb dX7_single_13 rfl hl (by decide) rfl (fun ls hl => ?_)
  refine lv_iload_n hx hb dX7_single_14 rfl (lv_at hl 2 rfl) ?_
  by_cases h15_0 : x1 = (0 : Int32)
  · rw [if_pos h15_0]
    refine lv_tableIn (off := 69) (tgt := 84) hx hb dX7_single_15 (by rw [h15_0]; decide) (by rw [h15_0]; decide) (by rw [h15_0]; decide) (by decide) ?_
    refine lv_aload_n hx hb dX7_single_84 rfl (lv_at hl 1 rfl) ?_
    refine lv_iload_n hx hb dX7_single_85 rfl (lv_at hl 3 rfl) ?_
    refine lv_ineg hx hb dX7_single_86 ?_
    refine kcI (k := 12) (ci := 7) (As := [.int ((-x2))]) (rest := []) C w rfl rfl (c_Md_nzv l A D cA tb ad mu nu (-x2)) (cwV 1 hts gX7_single_X7_nzv rfl rfl rfl (by decide +kernel) ⟨Nat.le_of_ble_eq_true rfl, Nat.le_of_ble_eq_true rfl⟩) rfl rfl hl.1 (Nat.le_of_ble_eq_true rfl) dX7_single_87 (fun H locs w => ?_)
    exact k_Md_single_90 C w (lv_sub hl [1] rfl)
  · rw [if_neg h15_0]
    by_cases h15_1 : x1 = (1 : Int32)
    · rw [if_pos h15_1]
      refine lv_tableIn (off := 296) (tgt := 311) hx hb dX7_single_15 (by rw [h15_1]; decide) (by rw [h15_1]; decide) (by rw [h15_1]; decide) (by decide) ?_
      exact k_Md_single_311 C w (lv_sub hl [1] rfl)
    · rw [if_neg h15_1]
      by_cases h15_2 : x1 = (2 : Int32)
      · rw [if_pos h15_2]
        refine lv_tableIn (off := 296) (tgt := 311) hx hb dX7_single_15 (by rw [h15_2]; decide) (by rw [h15_2]; decide) (by rw [h15_2]; decide) (by decide) ?_
        exact k_Md_single_311 C w (lv_sub hl [1] rfl)
      · rw [if_neg h15_2]
        by_cases h15_3 : x1 = (3 : Int32)
        · rw [if_pos h15_3]
          refine lv_tableIn (off := 113) (tgt := 128) hx hb dX7_single_15 (by rw [h15_3]; decide) (by rw [h15_3]; decide) (by rw [h15_3]; decide) (by decide) ?_
          refine lv_aload_n hx hb dX7_single_128 rfl (lv_at hl 1 rfl) ?_
          refine lv_iconst (v := 1) hx hb dX7_single_129 (by decide) ?_
          refine lv_iconst (v := 1) hx hb dX7_single_130 (by decide) ?_
          refine kcV (k := 12) (ci := 7) (As := [.int 1, .int 1]) (rest := []) C w rfl rfl (c_Md_tell l A D cA tb ad mu nu 1 1) (cwV 2 hts gX7_single_X7_tell rfl rfl rfl (by decide +kernel) ⟨Nat.le_of_ble_eq_true rfl, Nat.le_of_ble_eq_true rfl⟩) rfl rfl hl.1 (Nat.le_of_ble_eq_true rfl) dX7_single_131 (fun H locs w => ?_)
          exact k_Md_single_134 C w (lv_sub hl [1, 3] rfl)
        · rw [if_neg h15_3]
          by_cases h15_4 : x1 = (4 : Int32)
          · rw [if_pos h15_4]
            refine lv_tableIn (off := 127) (tgt := 142) hx hb dX7_single_15 (by rw [h15_4]; decide) (by rw [h15_4]; decide) (by rw [h15_4]; decide) (by decide) ?_
            refine lv_aload_n hx hb dX7_single_142 rfl (lv_at hl 1 rfl) ?_
            refine lv_iload_n hx hb dX7_single_143 rfl (lv_at hl 3 rfl) ?_
            refine lv_iconst (v := 1) hx hb dX7_single_144 (by decide) ?_
            refine lv_ishr hx hb dX7_single_145 ?_
            refine lv_iload_n hx hb dX7_single_146 rfl (lv_at hl 3 rfl) ?_
            refine lv_iconst (v := 1) hx hb dX7_single_147 (by decide) ?_
            refine lv_iand hx hb dX7_single_148 ?_
            refine lv_if_eq (tgt := 156) hx hb dX7_single_149 (by decide) (fun h149 => ?_) (fun h149 => ?_)
            · rw [if_pos h149]
              refine lv_iconst (v := 0) hx hb dX7_single_156 (by decide) ?_
              exact k_Md_single_157 C w (lv_sub hl [] rfl)
            · rw [if_neg h149]
              refine lv_iconst (v := 1) hx hb dX7_single_152 (by decide) ?_
              refine lv_goto (tgt := 157) hx hb dX7_single_153 (by decide) ?_
              exact k_Md_single_157 C w (lv_sub hl [] rfl)
          · rw [if_neg h15_4]
            by_cases h15_5 : x1 = (5 : Int32)
            · rw [if_pos h15_5]
              refine lv_tableIn (off := 296) (tgt := 311) hx hb dX7_single_15 (by rw [h15_5]; decide) (by rw [h15_5]; decide) (by rw [h15_5]; decide) (by decide) ?_
              exact k_Md_single_311 C w (lv_sub hl [1] rfl)
            · rw [if_neg h15_5]
              by_cases h15_6 : x1 = (6 : Int32)
              · rw [if_pos h15_6]
                refine lv_tableIn (off := 146) (tgt := 161) hx hb dX7_single_15 (by rw [h15_6]; decide) (by rw [h15_6]; decide) (by rw [h15_6]; decide) (by decide) ?_
                refine lv_aload_n hx hb dX7_single_161 rfl (lv_at hl 1 rfl) ?_
                refine lv_iload_n hx hb dX7_single_162 rfl (lv_at hl 3 rfl) ?_
                refine lv_iconst (v := 1) hx hb dX7_single_163 (by decide) ?_
                refine lv_ishr hx hb dX7_single_164 ?_
                refine lv_iload_n hx hb dX7_single_165 rfl (lv_at hl 0 rfl) ?_
                refine lv_bipush (v := 7) hx hb dX7_single_166 (by decide) ?_
                refine lv_ishl hx hb dX7_single_168 ?_
                refine lv_ior hx hb dX7_single_169 ?_
                refine lv_iload_n hx hb dX7_single_170 rfl (lv_at hl 3 rfl) ?_
                refine lv_iconst (v := 1) hx hb dX7_single_171 (by decide) ?_
                refine lv_iand hx hb dX7_single_172 ?_
                refine lv_if_eq (tgt := 180) hx hb dX7_single_173 (by decide) (fun h173 => ?_) (fun h173 => ?_)
                · rw [if_pos h173]
                  refine lv_iconst (v := 0) hx hb dX7_single_180 (by decide) ?_
                  exact k_Md_single_181 C w (lv_sub hl [] rfl)
                · rw [if_neg h173]
                  refine lv_iconst (v := 1) hx hb dX7_single_176 (by decide) ?_
                  refine lv_goto (tgt := 181) hx hb dX7_single_177 (by decide) ?_
                  exact k_Md_single_181 C w (lv_sub hl [] rfl)
              · rw [if_neg h15_6]
                by_cases h15_7 : x1 = (7 : Int32)
                · rw [if_pos h15_7]
                  refine lv_tableIn (off := 170) (tgt := 185) hx hb dX7_single_15 (by rw [h15_7]; decide) (by rw [h15_7]; decide) (by rw [h15_7]; decide) (by decide) ?_
                  refine lv_aload_n hx hb dX7_single_185 rfl (lv_at hl 1 rfl) ?_
                  refine lv_iload_n hx hb dX7_single_186 rfl (lv_at hl 3 rfl) ?_
                  refine lv_iconst (v := 1) hx hb dX7_single_187 (by decide) ?_
                  refine lv_ishr hx hb dX7_single_188 ?_
                  refine lv_iload_n hx hb dX7_single_189 rfl (lv_at hl 3 rfl) ?_
                  refine lv_sipush (v := 128) hx hb dX7_single_190 (by decide) ?_
                  refine lv_iand hx hb dX7_single_193 ?_
                  refine lv_ior hx hb dX7_single_194 ?_
                  refine lv_iload_n hx hb dX7_single_195 rfl (lv_at hl 3 rfl) ?_
                  refine lv_iconst (v := 1) hx hb dX7_single_196 (by decide) ?_
                  refine lv_iand hx hb dX7_single_197 ?_
                  refine lv_if_eq (tgt := 205) hx hb dX7_single_198 (by decide) (fun h198 => ?_) (fun h198 => ?_)
                  · rw [if_pos h198]
                    refine lv_iconst (v := 0) hx hb dX7_single_205 (by decide) ?_
                    exact k_Md_single_206 C w (lv_sub hl [] rfl)
                  · rw [if_neg h198]
                    refine lv_iconst (v := 1) hx hb dX7_single_201 (by decide) ?_
                    refine lv_goto (tgt := 206) hx hb dX7_single_202 (by decide) ?_
                    exact k_Md_single_206 C w (lv_sub hl [] rfl)
                · rw [if_neg h15_7]
                  by_cases h15_8 : x1 = (8 : Int32)
                  · rw [if_pos h15_8]
                    refine lv_tableIn (off := 195) (tgt := 210) hx hb dX7_single_15 (by rw [h15_8]; decide) (by rw [h15_8]; decide) (by rw [h15_8]; decide) (by decide) ?_
                    refine lv_aload_n hx hb dX7_single_210 rfl (lv_at hl 1 rfl) ?_
                    refine lv_iload_n hx hb dX7_single_211 rfl (lv_at hl 3 rfl) ?_
                    refine lv_iconst (v := 1) hx hb dX7_single_212 (by decide) ?_
                    refine lv_ishl hx hb dX7_single_213 ?_
                    refine lv_iload_n hx hb dX7_single_214 rfl (lv_at hl 3 rfl) ?_
                    refine lv_bipush (v := 127) hx hb dX7_single_215 (by decide) ?_
                    refine lv_icmp_le (tgt := 224) hx hb dX7_single_217 (by decide) (fun h217 => ?_) (fun h217 => ?_)
                    · rw [if_pos h217]
                      refine lv_iconst (v := 0) hx hb dX7_single_224 (by decide) ?_
                      exact k_Md_single_225 C w (lv_sub hl [] rfl)
                    · rw [if_neg h217]
                      refine lv_iconst (v := 1) hx hb dX7_single_220 (by decide) ?_
                      refine lv_goto (tgt := 225) hx hb dX7_single_221 (by decide) ?_
                      exact k_Md_single_225 C w (lv_sub hl [] rfl)
                  · rw [if_neg h15_8]
                    by_cases h15_9 : x1 = (9 : Int32)
                    · rw [if_pos h15_9]
                      refine lv_tableIn (off := 214) (tgt := 229) hx hb dX7_single_15 (by rw [h15_9]; decide) (by rw [h15_9]; decide) (by rw [h15_9]; decide) (by decide) ?_
                      refine lv_aload_n hx hb dX7_single_229 rfl (lv_at hl 1 rfl) ?_
                      refine lv_iload_n hx hb dX7_single_230 rfl (lv_at hl 3 rfl) ?_
                      refine lv_iconst (v := 1) hx hb dX7_single_231 (by decide) ?_
                      refine lv_ishl hx hb dX7_single_232 ?_
                      refine lv_iload_n hx hb dX7_single_233 rfl (lv_at hl 0 rfl) ?_
                      refine lv_ior hx hb dX7_single_234 ?_
                      refine lv_iload_n hx hb dX7_single_235 rfl (lv_at hl 3 rfl) ?_
                      refine lv_bipush (v := 127) hx hb dX7_single_236 (by decide) ?_
                      refine lv_icmp_le (tgt := 245) hx hb dX7_single_238 (by decide) (fun h238 => ?_) (fun h238 => ?_)
                      · rw [if_pos h238]
                        refine lv_iconst (v := 0) hx hb dX7_single_245 (by decide) ?_
                        exact k_Md_single_246 C w (lv_sub hl [] rfl)
                      · rw [if_neg h238]
                        refine lv_iconst (v := 1) hx hb dX7_single_241 (by decide) ?_
                        refine lv_goto (tgt := 246) hx hb dX7_single_242 (by decide) ?_
                        exact k_Md_single_246 C w (lv_sub hl [] rfl)
                    · rw [if_neg h15_9]
                      by_cases h15_10 : x1 = (10 : Int32)
                      · rw [if_pos h15_10]
                        refine lv_tableIn (off := 235) (tgt := 250) hx hb dX7_single_15 (by rw [h15_10]; decide) (by rw [h15_10]; decide) (by rw [h15_10]; decide) (by decide) ?_
                        refine lv_aload_n hx hb dX7_single_250 rfl (lv_at hl 1 rfl) ?_
                        refine lv_iconst (v := 2) hx hb dX7_single_251 (by decide) ?_
                        refine lv_iload_n hx hb dX7_single_252 rfl (lv_at hl 3 rfl) ?_
                        refine lv_sipush (v := 128) hx hb dX7_single_253 (by decide) ?_
                        refine lv_icmp_ne (tgt := 263) hx hb dX7_single_256 (by decide) (fun h256 => ?_) (fun h256 => ?_)
                        · rw [if_neg h256]
                          refine lv_iconst (v := 0) hx hb dX7_single_263 (by decide) ?_
                          exact k_Md_single_264 C w (lv_sub hl [1, 3] rfl)
                        · rw [if_pos h256]
                          refine lv_iconst (v := 1) hx hb dX7_single_259 (by decide) ?_
                          refine lv_goto (tgt := 264) hx hb dX7_single_260 (by decide) ?_
                          exact k_Md_single_264 C w (lv_sub hl [1, 3] rfl)
                      · rw [if_neg h15_10]
                        by_cases h15_11 : x1 = (11 : Int32)
                        · rw [if_pos h15_11]
                          refine lv_tableIn (off := 296) (tgt := 311) hx hb dX7_single_15 (by rw [h15_11]; decide) (by rw [h15_11]; decide) (by rw [h15_11]; decide) (by decide) ?_
                          exact k_Md_single_311 C w (lv_sub hl [1] rfl)
                        · rw [if_neg h15_11]
                          by_cases h15_12 : x1 = (12 : Int32)
                          · rw [if_pos h15_12]
                            refine lv_tableIn (off := 260) (tgt := 275) hx hb dX7_single_15 (by rw [h15_12]; decide) (by rw [h15_12]; decide) (by rw [h15_12]; decide) (by decide) ?_
                            refine lv_aload_n hx hb dX7_single_275 rfl (lv_at hl 1 rfl) ?_
                            refine lv_iconst (v := 2) hx hb dX7_single_276 (by decide) ?_
                            refine lv_iload_n hx hb dX7_single_277 rfl (lv_at hl 3 rfl) ?_
                            refine lv_bipush (v := 127) hx hb dX7_single_278 (by decide) ?_
                            refine lv_icmp_ne (tgt := 287) hx hb dX7_single_280 (by decide) (fun h280 => ?_) (fun h280 => ?_)
                            · rw [if_neg h280]
                              refine lv_iconst (v := 0) hx hb dX7_single_287 (by decide) ?_
                              exact k_Md_single_288 C w (lv_sub hl [1, 3] rfl)
                            · rw [if_pos h280]
                              refine lv_iconst (v := 1) hx hb dX7_single_283 (by decide) ?_
                              refine lv_goto (tgt := 288) hx hb dX7_single_284 (by decide) ?_
                              exact k_Md_single_288 C w (lv_sub hl [1, 3] rfl)
                          · rw [if_neg h15_12]
                            by_cases h15_13 : x1 = (13 : Int32)
                            · rw [if_pos h15_13]
                              refine lv_tableIn (off := 284) (tgt := 299) hx hb dX7_single_15 (by rw [h15_13]; decide) (by rw [h15_13]; decide) (by rw [h15_13]; decide) (by decide) ?_
                              refine lv_aload_n hx hb dX7_single_299 rfl (lv_at hl 1 rfl) ?_
                              refine lv_iconst (v := 1) hx hb dX7_single_300 (by decide) ?_
                              refine lv_iconst (v := 0) hx hb dX7_single_301 (by decide) ?_
                              refine kcV (k := 12) (ci := 7) (As := [.int 1, .int 0]) (rest := []) C w rfl rfl (c_Md_tell l A D cA tb ad mu nu 1 0) (cwV 2 hts gX7_single_X7_tell rfl rfl rfl (by decide +kernel) ⟨Nat.le_of_ble_eq_true rfl, Nat.le_of_ble_eq_true rfl⟩) rfl rfl hl.1 (Nat.le_of_ble_eq_true rfl) dX7_single_302 (fun H locs w => ?_)
                              exact k_Md_single_305 C w (lv_sub hl [1, 3] rfl)
                            · rw [if_neg h15_13]
                              refine lv_tableOut (tgt := 311) hx hb dX7_single_15 (by have := lv_neT h15_0 (a := 0) rfl; have := lv_neT h15_1 (a := 1) rfl; have := lv_neT h15_2 (a := 2) rfl; have := lv_neT h15_3 (a := 3) rfl; have := lv_neT h15_4 (a := 4) rfl; have := lv_neT h15_5 (a := 5) rfl; have := lv_neT h15_6 (a := 6) rfl; have := lv_neT h15_7 (a := 7) rfl; have := lv_neT h15_8 (a := 8) rfl; have := lv_neT h15_9 (a := 9) rfl; have := lv_neT h15_10 (a := 10) rfl; have := lv_neT h15_11 (a := 11) rfl; have := lv_neT h15_12 (a := 12) rfl; have := lv_neT h15_13 (a := 13) rfl; omega) (by decide) ?_
                              exact k_Md_single_311 C w (lv_sub hl [1] rfl)
def F_Md_single (x1 : Int32) (x2 : Int32) (mu : Mu) : Int32 × Mu := (if (F_Md_is 1 mu) = (0 : Int32) then F_Md_single_13 x1 x2 0 mu else F_Md_single_13 x1 x2 1 mu)
set_option maxHeartbeats 4000000 in
set_option maxRecDepth 100000 in
theorem k_Md_single (C : Cx cX7_single 5 (some .int) wsX7_single RX7 A D cA tb p s m args meth c) {mu nu : Mu} {x1 : Int32} {x2 : Int32} {H : Heap} {locs : List Loc} {ls : Array Slot} (w : Wd A D cA ad s nu mu H locs) (hl : lv_has ls 5 [(0, .ref (ad 12)), (1, .int x1), (2, .int x2)]) : W p l e { frames := 3, cells := 0, slots := 0, locals := 66 } s m args below meth c H locs 0 0 (QI A D cA ad below args s (F_Md_single x1 x2 mu).1 nu (F_Md_single x1 x2 mu).2) (F0 m 0 ls []) := by
  have hx := C.1
  have hb := C.2.1
  have hts := C.2.2.2.2.2.1
  have hown := C.2.2.2.2.1
  unfold F_Md_single
  refine lv_aload_n hx hb dX7_single_0 rfl (lv_at hl 0 rfl) ?_
  refine lv_iconst (v := 1) hx hb dX7_single_1 (by decide) ?_
  refine kcI (k := 12) (ci := 7) (As := [.int 1]) (rest := []) C w rfl rfl (c_Md_is l A D cA tb ad mu nu 1) (cwV 1 hts gX7_single_X7_is rfl rfl rfl (by decide +kernel) ⟨Nat.le_of_ble_eq_true rfl, Nat.le_of_ble_eq_true rfl⟩) rfl rfl hl.1 (Nat.le_of_ble_eq_true rfl) dX7_single_2 (fun H locs w => ?_)
  refine lv_if_eq (tgt := 12) hx hb dX7_single_5 (by decide) (fun h5 => ?_) (fun h5 => ?_)
  · rw [if_pos h5]
    refine lv_iconst (v := 0) hx hb dX7_single_12 (by decide) ?_
    exact k_Md_single_13 C w (lv_sub hl [0, 1, 2] rfl)
  · rw [if_neg h5]
    refine lv_iconst (v := 1) hx hb dX7_single_8 (by decide) ?_
    refine lv_goto (tgt := 13) hx hb dX7_single_9 (by decide) ?_
    exact k_Md_single_13 C w (lv_sub hl [0, 1, 2] rfl)
set_option maxHeartbeats 4000000 in
set_option maxRecDepth 100000 in
theorem c_Md_single (l : Launch) (A : Nat → Prop) (D : va_G) (cA : Nat → ClassId) (tb : Nat) (ad : Nat → Nat) (mu nu : Mu) (x1 : Int32) (x2 : Int32) : Met l yX7_single wsX7_single ({ frames := 3, cells := 0, slots := 0, locals := 66 }) (va_Pc [.ref (ad 12), .int x1, .int x2] (Pw A D cA tb ad nu mu)) (va_Qi (fun (r : Int32) (u : Mu × Mu) => r = (F_Md_single x1 x2 mu).1 ∧ u = (nu, (F_Md_single x1 x2 mu).2)) (Bw A D cA ad) A) 0 0 A := by
  refine Met.ofW (cc := cX7_single) (maxL := 5) (ret := (some .int)) (by decide) rfl ?_
  intro p e s m args below meth c s₁ B hml hv
  obtain ⟨rfl, w0⟩ := hv
  have C : Cx cX7_single 5 (some .int) wsX7_single RX7 A D cA tb p s m _ meth c := ⟨B.exec, B.bytes, B.returns, hml, findClass_of_methodNamed B.named, atoms_spec (ws := wsX7_single) B.pre, B.notSynchronized, w0.2.1, w0.2.2.2.1, w0.2.2.2.2⟩
  have hl := lv_entry ([.ref (ad 12), .int x1, .int x2]) (n := 5) (Nat.le_of_ble_eq_true rfl)
  rw [lg_entry_eq]
  exact k_Md_single C w0.wd hl
def F_Md_worksOnOne_131 (x2 : Int32) (x4 : Int32) (y0 : Int32) (mu : Mu) : Int32 × Mu := (if x2 = (13 : Int32) then (1, mu) else (1, (F_Md_write x4 y0 mu)))
set_option maxHeartbeats 4000000 in
set_option maxRecDepth 100000 in
theorem k_Md_worksOnOne_131 (C : Cx cX7_worksOnOne 6 (some .boolean) wsX7_worksOnOne RX7 A D cA tb p s m args meth c) {mu nu : Mu} {x2 : Int32} {x4 : Int32} {y0 : Int32} {H : Heap} {locs : List Loc} {ls : Array Slot} (w : Wd A D cA ad s nu mu H locs) (hl : lv_has ls 6 [(0, .ref (ad 12)), (2, .int x2), (4, .int x4)]) : W p l e { frames := 6, cells := 0, slots := 0, locals := 128 } s m args below meth c H locs 0 0 (QI A D cA ad below args s (F_Md_worksOnOne_131 x2 x4 y0 mu).1 nu (F_Md_worksOnOne_131 x2 x4 y0 mu).2) (F0 m 131 ls [.int y0]) := by
  have hx := C.1
  have hb := C.2.1
  have hts := C.2.2.2.2.2.1
  have hown := C.2.2.2.2.1
  unfold F_Md_worksOnOne_131
  refine lv_istore (lv' := [(5, .int y0), (0, .ref (ad 12)), (2, .int x2), (4, .int x4)]) hx hb dX7_worksOnOne_131 hl (by decide) rfl (fun ls hl => ?_)
  refine lv_iload_n hx hb dX7_worksOnOne_133 rfl (lv_at hl 2 rfl) ?_
  refine lv_bipush (v := 13) hx hb dX7_worksOnOne_134 (by decide) ?_
  refine lv_icmp_eq (tgt := 147) hx hb dX7_worksOnOne_136 (by decide) (fun h136 => ?_) (fun h136 => ?_)
  · rw [if_pos h136]
    refine lv_iconst (v := 1) hx hb dX7_worksOnOne_147 (by decide) ?_
    exact retZ C w dX7_worksOnOne_148 (Or.inr rfl)
  · rw [if_neg h136]
    refine lv_aload_n hx hb dX7_worksOnOne_139 rfl (lv_at hl 1 rfl) ?_
    refine lv_iload hx hb dX7_worksOnOne_140 (lv_at hl 3 rfl) ?_
    refine lv_iload hx hb dX7_worksOnOne_142 (lv_at hl 0 rfl) ?_
    refine kcV (k := 12) (ci := 7) (As := [.int x4, .int y0]) (rest := []) C w rfl rfl (c_Md_write l A D cA tb ad mu nu x4 y0) (cwV 2 hts gX7_worksOnOne_X7_write rfl rfl rfl (by decide +kernel) ⟨Nat.le_of_ble_eq_true rfl, Nat.le_of_ble_eq_true rfl⟩) rfl rfl hl.1 (Nat.le_of_ble_eq_true rfl) dX7_worksOnOne_144 (fun H locs w => ?_)
    refine lv_iconst (v := 1) hx hb dX7_worksOnOne_147 (by decide) ?_
    exact retZ C w dX7_worksOnOne_148 (Or.inr rfl)
def F_Md_worksOnOne_128 (x2 : Int32) (x4 : Int32) (y1 : Int32) (y2 : Int32) (mu : Mu) : Int32 × Mu := F_Md_worksOnOne_131 x2 x4 ((F_Md_single y1 y2 mu).1) ((F_Md_single y1 y2 mu).2)
set_option maxHeartbeats 4000000 in
set_option maxRecDepth 100000 in
theorem k_Md_worksOnOne_128 (C : Cx cX7_worksOnOne 6 (some .boolean) wsX7_worksOnOne RX7 A D cA tb p s m args meth c) {mu nu : Mu} {x2 : Int32} {x4 : Int32} {y1 : Int32} {y2 : Int32} {H : Heap} {locs : List Loc} {ls : Array Slot} (w : Wd A D cA ad s nu mu H locs) (hl : lv_has ls 6 [(0, .ref (ad 12)), (2, .int x2), (4, .int x4)]) : W p l e { frames := 6, cells := 0, slots := 0, locals := 128 } s m args below meth c H locs 0 0 (QI A D cA ad below args s (F_Md_worksOnOne_128 x2 x4 y1 y2 mu).1 nu (F_Md_worksOnOne_128 x2 x4 y1 y2 mu).2) (F0 m 128 ls [.int y2, .int y1, .ref (ad 12)]) := by
  have hx := C.1
  have hb := C.2.1
  have hts := C.2.2.2.2.2.1
  have hown := C.2.2.2.2.1
  unfold F_Md_worksOnOne_128
  refine kcI (k := 12) (ci := 7) (As := [.int y1, .int y2]) (rest := []) C w rfl rfl (c_Md_single l A D cA tb ad mu nu y1 y2) (cwV 2 hts gX7_worksOnOne_X7_single rfl rfl rfl (by decide +kernel) ⟨Nat.le_of_ble_eq_true rfl, Nat.le_of_ble_eq_true rfl⟩) rfl rfl hl.1 (Nat.le_of_ble_eq_true rfl) dX7_worksOnOne_128 (fun H locs w => ?_)
  exact k_Md_worksOnOne_131 C w (lv_sub hl [0, 1, 2] rfl)
def F_Md_worksOnOne_108 (x2 : Int32) (y0 : Int32) (mu : Mu) : Int32 × Mu := (if x2 = (15 : Int32) then F_Md_worksOnOne_128 x2 y0 x2 0 mu else F_Md_worksOnOne_128 x2 y0 x2 ((F_Md_read y0 mu).1) ((F_Md_read y0 mu).2))
set_option maxHeartbeats 4000000 in
set_option maxRecDepth 100000 in
theorem k_Md_worksOnOne_108 (C : Cx cX7_worksOnOne 6 (some .boolean) wsX7_worksOnOne RX7 A D cA tb p s m args meth c) {mu nu : Mu} {x2 : Int32} {y0 : Int32} {H : Heap} {locs : List Loc} {ls : Array Slot} (w : Wd A D cA ad s nu mu H locs) (hl : lv_has ls 6 [(0, .ref (ad 12)), (2, .int x2)]) : W p l e { frames := 6, cells := 0, slots := 0, locals := 128 } s m args below meth c H locs 0 0 (QI A D cA ad below args s (F_Md_worksOnOne_108 x2 y0 mu).1 nu (F_Md_worksOnOne_108 x2 y0 mu).2) (F0 m 108 ls [.int y0]) := by
  have hx := C.1
  have hb := C.2.1
  have hts := C.2.2.2.2.2.1
  have hown := C.2.2.2.2.1
  unfold F_Md_worksOnOne_108
  refine lv_istore (lv' := [(4, .int y0), (0, .ref (ad 12)), (2, .int x2)]) hx hb dX7_worksOnOne_108 hl (by decide) rfl (fun ls hl => ?_)
  refine lv_aload_n hx hb dX7_worksOnOne_110 rfl (lv_at hl 1 rfl) ?_
  refine lv_iload_n hx hb dX7_worksOnOne_111 rfl (lv_at hl 2 rfl) ?_
  refine lv_iload_n hx hb dX7_worksOnOne_112 rfl (lv_at hl 2 rfl) ?_
  refine lv_bipush (v := 15) hx hb dX7_worksOnOne_113 (by decide) ?_
  refine lv_icmp_ne (tgt := 122) hx hb dX7_worksOnOne_115 (by decide) (fun h115 => ?_) (fun h115 => ?_)
  · rw [if_neg h115]
    refine lv_aload_n hx hb dX7_worksOnOne_122 rfl (lv_at hl 1 rfl) ?_
    refine lv_iload hx hb dX7_worksOnOne_123 (lv_at hl 0 rfl) ?_
    refine kcI (k := 12) (ci := 7) (As := [.int y0]) (rest := [.int x2, .ref (ad 12)]) C w rfl rfl (c_Md_read l A D cA tb ad mu nu y0) (cwV 1 hts gX7_worksOnOne_X7_read rfl rfl rfl (by decide +kernel) ⟨Nat.le_of_ble_eq_true rfl, Nat.le_of_ble_eq_true rfl⟩) rfl rfl hl.1 (Nat.le_of_ble_eq_true rfl) dX7_worksOnOne_125 (fun H locs w => ?_)
    exact k_Md_worksOnOne_128 C w (lv_sub hl [1, 2, 0] rfl)
  · rw [if_pos h115]
    refine lv_iconst (v := 0) hx hb dX7_worksOnOne_118 (by decide) ?_
    refine lv_goto (tgt := 128) hx hb dX7_worksOnOne_119 (by decide) ?_
    exact k_Md_worksOnOne_128 C w (lv_sub hl [1, 2, 0] rfl)
def F_Md_worksOnOne_105 (x2 : Int32) (y1 : Int32) (mu : Mu) : Int32 × Mu := F_Md_worksOnOne_108 x2 ((F_Md_addressOf y1 mu).1) ((F_Md_addressOf y1 mu).2)
set_option maxHeartbeats 4000000 in
set_option maxRecDepth 100000 in
theorem k_Md_worksOnOne_105 (C : Cx cX7_worksOnOne 6 (some .boolean) wsX7_worksOnOne RX7 A D cA tb p s m args meth c) {mu nu : Mu} {x2 : Int32} {y1 : Int32} {H : Heap} {locs : List Loc} {ls : Array Slot} (w : Wd A D cA ad s nu mu H locs) (hl : lv_has ls 6 [(0, .ref (ad 12)), (2, .int x2)]) : W p l e { frames := 6, cells := 0, slots := 0, locals := 128 } s m args below meth c H locs 0 0 (QI A D cA ad below args s (F_Md_worksOnOne_105 x2 y1 mu).1 nu (F_Md_worksOnOne_105 x2 y1 mu).2) (F0 m 105 ls [.int y1, .ref (ad 12)]) := by
  have hx := C.1
  have hb := C.2.1
  have hts := C.2.2.2.2.2.1
  have hown := C.2.2.2.2.1
  unfold F_Md_worksOnOne_105
  refine kcI (k := 12) (ci := 7) (As := [.int y1]) (rest := []) C w rfl rfl (c_Md_addressOf l A D cA tb ad mu nu y1) (cwV 1 hts gX7_worksOnOne_X7_addressOf rfl rfl rfl (by decide +kernel) ⟨Nat.le_of_ble_eq_true rfl, Nat.le_of_ble_eq_true rfl⟩) rfl rfl hl.1 (Nat.le_of_ble_eq_true rfl) dX7_worksOnOne_105 (fun H locs w => ?_)
  exact k_Md_worksOnOne_108 C w (lv_sub hl [0, 1] rfl)
def F_Md_worksOnOne_87 (y1 : Int32) (mu : Mu) : Int32 × Mu := (1, (ps mu 12 3 y1))
set_option maxHeartbeats 4000000 in
set_option maxRecDepth 100000 in
theorem k_Md_worksOnOne_87 (C : Cx cX7_worksOnOne 6 (some .boolean) wsX7_worksOnOne RX7 A D cA tb p s m args meth c) {mu nu : Mu} {y1 : Int32} {H : Heap} {locs : List Loc} {ls : Array Slot} (w : Wd A D cA ad s nu mu H locs) (hl : lv_has ls 6 []) : W p l e { frames := 6, cells := 0, slots := 0, locals := 128 } s m args below meth c H locs 0 0 (QI A D cA ad below args s (F_Md_worksOnOne_87 y1 mu).1 nu (F_Md_worksOnOne_87 y1 mu).2) (F0 m 87 ls [.int y1, .ref (ad 12)]) := by
  have hx := C.1
  have hb := C.2.1
  have hts := C.2.2.2.2.2.1
  have hown := C.2.2.2.2.1
  unfold F_Md_worksOnOne_87
  refine pt_12_3 C (fun _ h => List.mem_cons_of_mem _ (List.mem_append_right _ h)) (hts _ (List.mem_of_getElem? (i := 3) rfl)) w dX7_worksOnOne_87 (fun H locs w => ?_)
  refine lv_goto (tgt := 147) hx hb dX7_worksOnOne_90 (by decide) ?_
  refine lv_iconst (v := 1) hx hb dX7_worksOnOne_147 (by decide) ?_
  exact retZ C w dX7_worksOnOne_148 (Or.inr rfl)
def F_Md_worksOnOne_66 (y1 : Int32) (mu : Mu) : Int32 × Mu := (1, (ps mu 12 2 y1))
set_option maxHeartbeats 4000000 in
set_option maxRecDepth 100000 in
theorem k_Md_worksOnOne_66 (C : Cx cX7_worksOnOne 6 (some .boolean) wsX7_worksOnOne RX7 A D cA tb p s m args meth c) {mu nu : Mu} {y1 : Int32} {H : Heap} {locs : List Loc} {ls : Array Slot} (w : Wd A D cA ad s nu mu H locs) (hl : lv_has ls 6 []) : W p l e { frames := 6, cells := 0, slots := 0, locals := 128 } s m args below meth c H locs 0 0 (QI A D cA ad below args s (F_Md_worksOnOne_66 y1 mu).1 nu (F_Md_worksOnOne_66 y1 mu).2) (F0 m 66 ls [.int y1, .ref (ad 12)]) := by
  have hx := C.1
  have hb := C.2.1
  have hts := C.2.2.2.2.2.1
  have hown := C.2.2.2.2.1
  unfold F_Md_worksOnOne_66
  refine pt_12_2 C (fun _ h => List.mem_cons_of_mem _ (List.mem_append_right _ h)) (hts _ (List.mem_of_getElem? (i := 2) rfl)) w dX7_worksOnOne_66 (fun H locs w => ?_)
  refine lv_goto (tgt := 147) hx hb dX7_worksOnOne_69 (by decide) ?_
  refine lv_iconst (v := 1) hx hb dX7_worksOnOne_147 (by decide) ?_
  exact retZ C w dX7_worksOnOne_148 (Or.inr rfl)
def F_Md_worksOnOne_42 (x2 : Int32) (x3 : Int32) (mu : Mu) : Int32 × Mu := (if (F_Md_isSingle x2 mu) = (0 : Int32) then (0, mu) else (if x3 = (4 : Int32) then F_Md_worksOnOne_66 ((F_Md_single x2 (mu 12 2) mu).1) ((F_Md_single x2 (mu 12 2) mu).2) else (if x3 = (5 : Int32) then F_Md_worksOnOne_87 ((F_Md_single x2 (mu 12 3) mu).1) ((F_Md_single x2 (mu 12 3) mu).2) else (if x3 = (6 : Int32) then F_Md_worksOnOne_105 x2 2 mu else F_Md_worksOnOne_105 x2 3 mu))))
set_option maxHeartbeats 4000000 in
set_option maxRecDepth 100000 in
theorem k_Md_worksOnOne_42 (C : Cx cX7_worksOnOne 6 (some .boolean) wsX7_worksOnOne RX7 A D cA tb p s m args meth c) {mu nu : Mu} {x2 : Int32} {x3 : Int32} {H : Heap} {locs : List Loc} {ls : Array Slot} (w : Wd A D cA ad s nu mu H locs) (hl : lv_has ls 6 [(0, .ref (ad 12)), (2, .int x2), (3, .int x3)]) : W p l e { frames := 6, cells := 0, slots := 0, locals := 128 } s m args below meth c H locs 0 0 (QI A D cA ad below args s (F_Md_worksOnOne_42 x2 x3 mu).1 nu (F_Md_worksOnOne_42 x2 x3 mu).2) (F0 m 42 ls []) := by
  have hx := C.1
  have hb := C.2.1
  have hts := C.2.2.2.2.2.1
  have hown := C.2.2.2.2.1
  unfold F_Md_worksOnOne_42
  refine lv_iload_n hx hb dX7_worksOnOne_42 rfl (lv_at hl 1 rfl) ?_
  refine kcIS (As := [.int x2]) (rest := []) C w (c_Md_isSingle l A D cA tb ad mu nu x2) (va_cwS 1 hts gX7_worksOnOne_X7_isSingle rfl rfl rfl (by decide +kernel) ⟨Nat.le_of_ble_eq_true rfl, Nat.le_of_ble_eq_true rfl⟩) rfl rfl hl.1 (Nat.le_of_ble_eq_true rfl) dX7_worksOnOne_43 (fun H locs w => ?_)
  refine lv_if_ne (tgt := 51) hx hb dX7_worksOnOne_46 (by decide) (fun h46 => ?_) (fun h46 => ?_)
  · rw [if_neg h46]
    refine lv_iload_n hx hb dX7_worksOnOne_51 rfl (lv_at hl 2 rfl) ?_
    refine lv_iconst (v := 4) hx hb dX7_worksOnOne_52 (by decide) ?_
    refine lv_icmp_ne (tgt := 72) hx hb dX7_worksOnOne_53 (by decide) (fun h53 => ?_) (fun h53 => ?_)
    · rw [if_neg h53]
      refine lv_iload_n hx hb dX7_worksOnOne_72 rfl (lv_at hl 2 rfl) ?_
      refine lv_iconst (v := 5) hx hb dX7_worksOnOne_73 (by decide) ?_
      refine lv_icmp_ne (tgt := 93) hx hb dX7_worksOnOne_74 (by decide) (fun h74 => ?_) (fun h74 => ?_)
      · rw [if_neg h74]
        refine lv_aload_n hx hb dX7_worksOnOne_93 rfl (lv_at hl 0 rfl) ?_
        refine lv_iload_n hx hb dX7_worksOnOne_94 rfl (lv_at hl 2 rfl) ?_
        refine lv_bipush (v := 6) hx hb dX7_worksOnOne_95 (by decide) ?_
        refine lv_icmp_ne (tgt := 104) hx hb dX7_worksOnOne_97 (by decide) (fun h97 => ?_) (fun h97 => ?_)
        · rw [if_neg h97]
          refine lv_iconst (v := 3) hx hb dX7_worksOnOne_104 (by decide) ?_
          exact k_Md_worksOnOne_105 C w (lv_sub hl [0, 1] rfl)
        · rw [if_pos h97]
          refine lv_iconst (v := 2) hx hb dX7_worksOnOne_100 (by decide) ?_
          refine lv_goto (tgt := 105) hx hb dX7_worksOnOne_101 (by decide) ?_
          exact k_Md_worksOnOne_105 C w (lv_sub hl [0, 1] rfl)
      · rw [if_pos h74]
        refine lv_aload_n hx hb dX7_worksOnOne_77 rfl (lv_at hl 0 rfl) ?_
        refine lv_aload_n hx hb dX7_worksOnOne_78 rfl (lv_at hl 0 rfl) ?_
        refine lv_iload_n hx hb dX7_worksOnOne_79 rfl (lv_at hl 1 rfl) ?_
        refine lv_aload_n hx hb dX7_worksOnOne_80 rfl (lv_at hl 0 rfl) ?_
        refine gt_12_3 C (fun _ h => List.mem_cons_of_mem _ (List.mem_append_right _ h)) (hts _ (List.mem_of_getElem? (i := 3) rfl)) w (v := (mu 12 3)) rfl dX7_worksOnOne_81 ?_
        refine kcI (k := 12) (ci := 7) (As := [.int x2, .int ((mu 12 3))]) (rest := [.ref (ad 12)]) C w rfl rfl (c_Md_single l A D cA tb ad mu nu x2 (mu 12 3)) (cwV 2 hts gX7_worksOnOne_X7_single rfl rfl rfl (by decide +kernel) ⟨Nat.le_of_ble_eq_true rfl, Nat.le_of_ble_eq_true rfl⟩) rfl rfl hl.1 (Nat.le_of_ble_eq_true rfl) dX7_worksOnOne_84 (fun H locs w => ?_)
        exact k_Md_worksOnOne_87 C w (lv_sub hl [] rfl)
    · rw [if_pos h53]
      refine lv_aload_n hx hb dX7_worksOnOne_56 rfl (lv_at hl 0 rfl) ?_
      refine lv_aload_n hx hb dX7_worksOnOne_57 rfl (lv_at hl 0 rfl) ?_
      refine lv_iload_n hx hb dX7_worksOnOne_58 rfl (lv_at hl 1 rfl) ?_
      refine lv_aload_n hx hb dX7_worksOnOne_59 rfl (lv_at hl 0 rfl) ?_
      refine gt_12_2 C (fun _ h => List.mem_cons_of_mem _ (List.mem_append_right _ h)) (hts _ (List.mem_of_getElem? (i := 2) rfl)) w (v := (mu 12 2)) rfl dX7_worksOnOne_60 ?_
      refine kcI (k := 12) (ci := 7) (As := [.int x2, .int ((mu 12 2))]) (rest := [.ref (ad 12)]) C w rfl rfl (c_Md_single l A D cA tb ad mu nu x2 (mu 12 2)) (cwV 2 hts gX7_worksOnOne_X7_single rfl rfl rfl (by decide +kernel) ⟨Nat.le_of_ble_eq_true rfl, Nat.le_of_ble_eq_true rfl⟩) rfl rfl hl.1 (Nat.le_of_ble_eq_true rfl) dX7_worksOnOne_63 (fun H locs w => ?_)
      exact k_Md_worksOnOne_66 C w (lv_sub hl [] rfl)
  · rw [if_pos h46]
    refine lv_iconst (v := 0) hx hb dX7_worksOnOne_49 (by decide) ?_
    exact retZ C w dX7_worksOnOne_50 (Or.inl rfl)
def F_Md_worksOnOne_37 (y1 : Int32) (mu : Mu) : Int32 × Mu := (1, (ps mu 12 6 y1))
set_option maxHeartbeats 4000000 in
set_option maxRecDepth 100000 in
theorem k_Md_worksOnOne_37 (C : Cx cX7_worksOnOne 6 (some .boolean) wsX7_worksOnOne RX7 A D cA tb p s m args meth c) {mu nu : Mu} {y1 : Int32} {H : Heap} {locs : List Loc} {ls : Array Slot} (w : Wd A D cA ad s nu mu H locs) (hl : lv_has ls 6 []) : W p l e { frames := 6, cells := 0, slots := 0, locals := 128 } s m args below meth c H locs 0 0 (QI A D cA ad below args s (F_Md_worksOnOne_37 y1 mu).1 nu (F_Md_worksOnOne_37 y1 mu).2) (F0 m 37 ls [.int y1, .ref (ad 12)]) := by
  have hx := C.1
  have hb := C.2.1
  have hts := C.2.2.2.2.2.1
  have hown := C.2.2.2.2.1
  unfold F_Md_worksOnOne_37
  refine pt_12_6 C (fun _ h => List.mem_cons_of_mem _ (List.mem_append_right _ h)) (hts _ (List.mem_of_getElem? (i := 1) rfl)) w dX7_worksOnOne_37 (fun H locs w => ?_)
  refine lv_iconst (v := 1) hx hb dX7_worksOnOne_40 (by decide) ?_
  exact retZ C w dX7_worksOnOne_41 (Or.inr rfl)
def F_Md_worksOnOne_34 (y2 : Int32) (mu : Mu) : Int32 × Mu := F_Md_worksOnOne_37 ((F_Md_addressOf y2 mu).1) ((F_Md_addressOf y2 mu).2)
set_option maxHeartbeats 4000000 in
set_option maxRecDepth 100000 in
theorem k_Md_worksOnOne_34 (C : Cx cX7_worksOnOne 6 (some .boolean) wsX7_worksOnOne RX7 A D cA tb p s m args meth c) {mu nu : Mu} {y2 : Int32} {H : Heap} {locs : List Loc} {ls : Array Slot} (w : Wd A D cA ad s nu mu H locs) (hl : lv_has ls 6 []) : W p l e { frames := 6, cells := 0, slots := 0, locals := 128 } s m args below meth c H locs 0 0 (QI A D cA ad below args s (F_Md_worksOnOne_34 y2 mu).1 nu (F_Md_worksOnOne_34 y2 mu).2) (F0 m 34 ls [.int y2, .ref (ad 12), .ref (ad 12)]) := by
  have hx := C.1
  have hb := C.2.1
  have hts := C.2.2.2.2.2.1
  have hown := C.2.2.2.2.1
  unfold F_Md_worksOnOne_34
  refine kcI (k := 12) (ci := 7) (As := [.int y2]) (rest := [.ref (ad 12)]) C w rfl rfl (c_Md_addressOf l A D cA tb ad mu nu y2) (cwV 1 hts gX7_worksOnOne_X7_addressOf rfl rfl rfl (by decide +kernel) ⟨Nat.le_of_ble_eq_true rfl, Nat.le_of_ble_eq_true rfl⟩) rfl rfl hl.1 (Nat.le_of_ble_eq_true rfl) dX7_worksOnOne_34 (fun H locs w => ?_)
  exact k_Md_worksOnOne_37 C w (lv_sub hl [] rfl)
def F_Md_worksOnOne (x1 : Int32) (mu : Mu) : Int32 × Mu := (if (x1 &&& 15) = (14 : Int32) then (if (x1 >>> (4 &&& 31)) < (6 : Int32) then F_Md_worksOnOne_42 (x1 &&& 15) (x1 >>> (4 &&& 31)) mu else (if (x1 >>> (4 &&& 31)) = (6 : Int32) then F_Md_worksOnOne_34 2 mu else F_Md_worksOnOne_34 3 mu)) else F_Md_worksOnOne_42 (x1 &&& 15) (x1 >>> (4 &&& 31)) mu)
set_option maxHeartbeats 4000000 in
set_option maxRecDepth 100000 in
theorem k_Md_worksOnOne (C : Cx cX7_worksOnOne 6 (some .boolean) wsX7_worksOnOne RX7 A D cA tb p s m args meth c) {mu nu : Mu} {x1 : Int32} {H : Heap} {locs : List Loc} {ls : Array Slot} (w : Wd A D cA ad s nu mu H locs) (hl : lv_has ls 6 [(0, .ref (ad 12)), (1, .int x1)]) : W p l e { frames := 6, cells := 0, slots := 0, locals := 128 } s m args below meth c H locs 0 0 (QI A D cA ad below args s (F_Md_worksOnOne x1 mu).1 nu (F_Md_worksOnOne x1 mu).2) (F0 m 0 ls []) := by
  have hx := C.1
  have hb := C.2.1
  have hts := C.2.2.2.2.2.1
  have hown := C.2.2.2.2.1
  unfold F_Md_worksOnOne
  refine lv_iload_n hx hb dX7_worksOnOne_0 rfl (lv_at hl 1 rfl) ?_
  refine lv_bipush (v := 15) hx hb dX7_worksOnOne_1 (by decide) ?_
  refine lv_iand hx hb dX7_worksOnOne_3 ?_
  refine lv_istore_n (lv' := [(2, .int ((x1 &&& 15))), (0, .ref (ad 12)), (1, .int x1)]) hx hb dX7_worksOnOne_4 rfl hl (by decide) rfl (fun ls hl => ?_)
  refine lv_iload_n hx hb dX7_worksOnOne_5 rfl (lv_at hl 2 rfl) ?_
  refine lv_iconst (v := 4) hx hb dX7_worksOnOne_6 (by decide) ?_
  refine lv_ishr hx hb dX7_worksOnOne_7 ?_
  refine lv_istore_n (lv' := [(3, .int ((x1 >>> (4 &&& 31)))), (2, .int ((x1 &&& 15))), (0, .ref (ad 12)), (1, .int x1)]) hx hb dX7_worksOnOne_8 rfl hl (by decide) rfl (fun ls hl => ?_)
  refine lv_iload_n hx hb dX7_worksOnOne_9 rfl (lv_at hl 1 rfl) ?_
  refine lv_bipush (v := 14) hx hb dX7_worksOnOne_10 (by decide) ?_
  refine lv_icmp_ne (tgt := 42) hx hb dX7_worksOnOne_12 (by decide) (fun h12 => ?_) (fun h12 => ?_)
  · rw [if_neg h12]
    exact k_Md_worksOnOne_42 C w (lv_sub hl [2, 1, 0] rfl)
  · rw [if_pos h12]
    refine lv_iload_n hx hb dX7_worksOnOne_15 rfl (lv_at hl 0 rfl) ?_
    refine lv_bipush (v := 6) hx hb dX7_worksOnOne_16 (by decide) ?_
    refine lv_icmp_lt (tgt := 42) hx hb dX7_worksOnOne_18 (by decide) (fun h18 => ?_) (fun h18 => ?_)
    · rw [if_pos h18]
      exact k_Md_worksOnOne_42 C w (lv_sub hl [2, 1, 0] rfl)
    · rw [if_neg h18]
      refine lv_aload_n hx hb dX7_worksOnOne_21 rfl (lv_at hl 2 rfl) ?_
      refine lv_aload_n hx hb dX7_worksOnOne_22 rfl (lv_at hl 2 rfl) ?_
      refine lv_iload_n hx hb dX7_worksOnOne_23 rfl (lv_at hl 0 rfl) ?_
      refine lv_bipush (v := 6) hx hb dX7_worksOnOne_24 (by decide) ?_
      refine lv_icmp_ne (tgt := 33) hx hb dX7_worksOnOne_26 (by decide) (fun h26 => ?_) (fun h26 => ?_)
      · rw [if_neg h26]
        refine lv_iconst (v := 3) hx hb dX7_worksOnOne_33 (by decide) ?_
        exact k_Md_worksOnOne_34 C w (lv_sub hl [] rfl)
      · rw [if_pos h26]
        refine lv_iconst (v := 2) hx hb dX7_worksOnOne_29 (by decide) ?_
        refine lv_goto (tgt := 34) hx hb dX7_worksOnOne_30 (by decide) ?_
        exact k_Md_worksOnOne_34 C w (lv_sub hl [] rfl)
set_option maxHeartbeats 4000000 in
set_option maxRecDepth 100000 in
theorem c_Md_worksOnOne (l : Launch) (A : Nat → Prop) (D : va_G) (cA : Nat → ClassId) (tb : Nat) (ad : Nat → Nat) (mu nu : Mu) (x1 : Int32) : Met l yX7_worksOnOne wsX7_worksOnOne ({ frames := 6, cells := 0, slots := 0, locals := 128 }) (va_Pc [.ref (ad 12), .int x1] (Pw A D cA tb ad nu mu)) (va_Qi (fun (r : Int32) (u : Mu × Mu) => r = (F_Md_worksOnOne x1 mu).1 ∧ u = (nu, (F_Md_worksOnOne x1 mu).2)) (Bw A D cA ad) A) 0 0 A := by
  refine Met.ofW (cc := cX7_worksOnOne) (maxL := 6) (ret := (some .boolean)) (by decide) rfl ?_
  intro p e s m args below meth c s₁ B hml hv
  obtain ⟨rfl, w0⟩ := hv
  have C : Cx cX7_worksOnOne 6 (some .boolean) wsX7_worksOnOne RX7 A D cA tb p s m _ meth c := ⟨B.exec, B.bytes, B.returns, hml, findClass_of_methodNamed B.named, atoms_spec (ws := wsX7_worksOnOne) B.pre, B.notSynchronized, w0.2.1, w0.2.2.2.1, w0.2.2.2.2⟩
  have hl := lv_entry ([.ref (ad 12), .int x1]) (n := 6) (Nat.le_of_ble_eq_true rfl)
  rw [lg_entry_eq]
  exact k_Md_worksOnOne C w0.wd hl
def F_Md_wordOperand_17 (y1 : Int32) (mu : Mu) : Int32 × Mu := ((F_Md_readWord y1 mu).1, (F_Md_readWord y1 mu).2)
set_option maxHeartbeats 4000000 in
set_option maxRecDepth 100000 in
theorem k_Md_wordOperand_17 (C : Cx cX7_wordOperand 2 (some .int) wsX7_wordOperand RX7 A D cA tb p s m args meth c) {mu nu : Mu} {y1 : Int32} {H : Heap} {locs : List Loc} {ls : Array Slot} (w : Wd A D cA ad s nu mu H locs) (hl : lv_has ls 2 []) : W p l e { frames := 6, cells := 0, slots := 0, locals := 128 } s m args below meth c H locs 0 0 (QI A D cA ad below args s (F_Md_wordOperand_17 y1 mu).1 nu (F_Md_wordOperand_17 y1 mu).2) (F0 m 17 ls [.int y1, .ref (ad 12)]) := by
  have hx := C.1
  have hb := C.2.1
  have hts := C.2.2.2.2.2.1
  have hown := C.2.2.2.2.1
  unfold F_Md_wordOperand_17
  refine kcI (k := 12) (ci := 7) (As := [.int y1]) (rest := []) C w rfl rfl (c_Md_readWord l A D cA tb ad mu nu y1) (cwV 1 hts gX7_wordOperand_X7_readWord rfl rfl rfl (by decide +kernel) ⟨Nat.le_of_ble_eq_true rfl, Nat.le_of_ble_eq_true rfl⟩) rfl rfl hl.1 (Nat.le_of_ble_eq_true rfl) dX7_wordOperand_17 (fun H locs w => ?_)
  exact retI C w dX7_wordOperand_20
def F_Md_wordOperand (x1 : Int32) (mu : Mu) : Int32 × Mu := (if x1 = (0 : Int32) then ((F_Md_nextWord mu).1, (F_Md_nextWord mu).2) else F_Md_wordOperand_17 ((F_Md_addressOf x1 mu).1) ((F_Md_addressOf x1 mu).2))
set_option maxHeartbeats 4000000 in
set_option maxRecDepth 100000 in
theorem k_Md_wordOperand (C : Cx cX7_wordOperand 2 (some .int) wsX7_wordOperand RX7 A D cA tb p s m args meth c) {mu nu : Mu} {x1 : Int32} {H : Heap} {locs : List Loc} {ls : Array Slot} (w : Wd A D cA ad s nu mu H locs) (hl : lv_has ls 2 [(0, .ref (ad 12)), (1, .int x1)]) : W p l e { frames := 6, cells := 0, slots := 0, locals := 128 } s m args below meth c H locs 0 0 (QI A D cA ad below args s (F_Md_wordOperand x1 mu).1 nu (F_Md_wordOperand x1 mu).2) (F0 m 0 ls []) := by
  have hx := C.1
  have hb := C.2.1
  have hts := C.2.2.2.2.2.1
  have hown := C.2.2.2.2.1
  unfold F_Md_wordOperand
  refine lv_iload_n hx hb dX7_wordOperand_0 rfl (lv_at hl 1 rfl) ?_
  refine lv_if_ne (tgt := 11) hx hb dX7_wordOperand_1 (by decide) (fun h1 => ?_) (fun h1 => ?_)
  · rw [if_neg h1]
    refine lv_aload_n hx hb dX7_wordOperand_11 rfl (lv_at hl 0 rfl) ?_
    refine lv_aload_n hx hb dX7_wordOperand_12 rfl (lv_at hl 0 rfl) ?_
    refine lv_iload_n hx hb dX7_wordOperand_13 rfl (lv_at hl 1 rfl) ?_
    refine kcI (k := 12) (ci := 7) (As := [.int x1]) (rest := [.ref (ad 12)]) C w rfl rfl (c_Md_addressOf l A D cA tb ad mu nu x1) (cwV 1 hts gX7_wordOperand_X7_addressOf rfl rfl rfl (by decide +kernel) ⟨Nat.le_of_ble_eq_true rfl, Nat.le_of_ble_eq_true rfl⟩) rfl rfl hl.1 (Nat.le_of_ble_eq_true rfl) dX7_wordOperand_14 (fun H locs w => ?_)
    exact k_Md_wordOperand_17 C w (lv_sub hl [] rfl)
  · rw [if_pos h1]
    refine lv_aload_n hx hb dX7_wordOperand_4 rfl (lv_at hl 0 rfl) ?_
    refine kcI (k := 12) (ci := 7) (As := []) (rest := []) C w rfl rfl (c_Md_nextWord l A D cA tb ad mu nu) (cwV 0 hts gX7_wordOperand_X7_nextWord rfl rfl rfl (by decide +kernel) ⟨Nat.le_of_ble_eq_true rfl, Nat.le_of_ble_eq_true rfl⟩) rfl rfl hl.1 (Nat.le_of_ble_eq_true rfl) dX7_wordOperand_5 (fun H locs w => ?_)
    refine lv_goto (tgt := 20) hx hb dX7_wordOperand_8 (by decide) ?_
    exact retI C w dX7_wordOperand_20
set_option maxHeartbeats 4000000 in
set_option maxRecDepth 100000 in
theorem c_Md_wordOperand (l : Launch) (A : Nat → Prop) (D : va_G) (cA : Nat → ClassId) (tb : Nat) (ad : Nat → Nat) (mu nu : Mu) (x1 : Int32) : Met l yX7_wordOperand wsX7_wordOperand ({ frames := 6, cells := 0, slots := 0, locals := 128 }) (va_Pc [.ref (ad 12), .int x1] (Pw A D cA tb ad nu mu)) (va_Qi (fun (r : Int32) (u : Mu × Mu) => r = (F_Md_wordOperand x1 mu).1 ∧ u = (nu, (F_Md_wordOperand x1 mu).2)) (Bw A D cA ad) A) 0 0 A := by
  refine Met.ofW (cc := cX7_wordOperand) (maxL := 2) (ret := (some .int)) (by decide) rfl ?_
  intro p e s m args below meth c s₁ B hml hv
  obtain ⟨rfl, w0⟩ := hv
  have C : Cx cX7_wordOperand 2 (some .int) wsX7_wordOperand RX7 A D cA tb p s m _ meth c := ⟨B.exec, B.bytes, B.returns, hml, findClass_of_methodNamed B.named, atoms_spec (ws := wsX7_wordOperand) B.pre, B.notSynchronized, w0.2.1, w0.2.2.2.1, w0.2.2.2.2⟩
  have hl := lv_entry ([.ref (ad 12), .int x1]) (n := 2) (Nat.le_of_ble_eq_true rfl)
  rw [lg_entry_eq]
  exact k_Md_wordOperand C w0.wd hl
def F_Md_nzWord_35 (x1 : Int32) (mu : Mu) : Int32 × Mu := ((x1 &&& 65535), mu)
set_option maxHeartbeats 4000000 in
set_option maxRecDepth 100000 in
theorem k_Md_nzWord_35 (C : Cx cX7_nzWord 2 (some .int) wsX7_nzWord RX7 A D cA tb p s m args meth c) {mu nu : Mu} {x1 : Int32} {H : Heap} {locs : List Loc} {ls : Array Slot} (w : Wd A D cA ad s nu mu H locs) (hl : lv_has ls 2 [(1, .int x1)]) : W p l e { frames := 1, cells := 0, slots := 0, locals := 22 } s m args below meth c H locs 0 0 (QI A D cA ad below args s (F_Md_nzWord_35 x1 mu).1 nu (F_Md_nzWord_35 x1 mu).2) (F0 m 35 ls []) := by
  have hx := C.1
  have hb := C.2.1
  have hts := C.2.2.2.2.2.1
  have hown := C.2.2.2.2.1
  unfold F_Md_nzWord_35
  refine lv_iload_n hx hb dX7_nzWord_35 rfl (lv_at hl 0 rfl) ?_
  refine lv_ldc (v := 65535) hx hb hown (hts _ (List.mem_of_getElem? (i := 2) rfl)) dX7_nzWord_36 ?_
  refine lv_iand hx hb dX7_nzWord_38 ?_
  exact retI C w dX7_nzWord_39
def F_Md_nzWord_32 (x1 : Int32) (y1 : Int32) (y2 : Int32) (mu : Mu) : Int32 × Mu := F_Md_nzWord_35 x1 (F_Md_tell y1 y2 mu)
set_option maxHeartbeats 4000000 in
set_option maxRecDepth 100000 in
theorem k_Md_nzWord_32 (C : Cx cX7_nzWord 2 (some .int) wsX7_nzWord RX7 A D cA tb p s m args meth c) {mu nu : Mu} {x1 : Int32} {y1 : Int32} {y2 : Int32} {H : Heap} {locs : List Loc} {ls : Array Slot} (w : Wd A D cA ad s nu mu H locs) (hl : lv_has ls 2 [(1, .int x1)]) : W p l e { frames := 1, cells := 0, slots := 0, locals := 22 } s m args below meth c H locs 0 0 (QI A D cA ad below args s (F_Md_nzWord_32 x1 y1 y2 mu).1 nu (F_Md_nzWord_32 x1 y1 y2 mu).2) (F0 m 32 ls [.int y2, .int y1, .ref (ad 12)]) := by
  have hx := C.1
  have hb := C.2.1
  have hts := C.2.2.2.2.2.1
  have hown := C.2.2.2.2.1
  unfold F_Md_nzWord_32
  refine kcV (k := 12) (ci := 7) (As := [.int y1, .int y2]) (rest := []) C w rfl rfl (c_Md_tell l A D cA tb ad mu nu y1 y2) (cwV 2 hts gX7_nzWord_X7_tell rfl rfl rfl (by decide +kernel) ⟨Nat.le_of_ble_eq_true rfl, Nat.le_of_ble_eq_true rfl⟩) rfl rfl hl.1 (Nat.le_of_ble_eq_true rfl) dX7_nzWord_32 (fun H locs w => ?_)
  exact k_Md_nzWord_35 C w (lv_sub hl [0] rfl)
def F_Md_nzWord_18 (x1 : Int32) (mu : Mu) : Int32 × Mu := (if (x1 &&& 65535) = (0 : Int32) then F_Md_nzWord_32 x1 4 1 mu else F_Md_nzWord_32 x1 4 0 mu)
set_option maxHeartbeats 4000000 in
set_option maxRecDepth 100000 in
theorem k_Md_nzWord_18 (C : Cx cX7_nzWord 2 (some .int) wsX7_nzWord RX7 A D cA tb p s m args meth c) {mu nu : Mu} {x1 : Int32} {H : Heap} {locs : List Loc} {ls : Array Slot} (w : Wd A D cA ad s nu mu H locs) (hl : lv_has ls 2 [(0, .ref (ad 12)), (1, .int x1)]) : W p l e { frames := 1, cells := 0, slots := 0, locals := 22 } s m args below meth c H locs 0 0 (QI A D cA ad below args s (F_Md_nzWord_18 x1 mu).1 nu (F_Md_nzWord_18 x1 mu).2) (F0 m 18 ls []) := by
  have hx := C.1
  have hb := C.2.1
  have hts := C.2.2.2.2.2.1
  have hown := C.2.2.2.2.1
  unfold F_Md_nzWord_18
  refine lv_aload_n hx hb dX7_nzWord_18 rfl (lv_at hl 0 rfl) ?_
  refine lv_iconst (v := 4) hx hb dX7_nzWord_19 (by decide) ?_
  refine lv_iload_n hx hb dX7_nzWord_20 rfl (lv_at hl 1 rfl) ?_
  refine lv_ldc (v := 65535) hx hb hown (hts _ (List.mem_of_getElem? (i := 2) rfl)) dX7_nzWord_21 ?_
  refine lv_iand hx hb dX7_nzWord_23 ?_
  refine lv_if_ne (tgt := 31) hx hb dX7_nzWord_24 (by decide) (fun h24 => ?_) (fun h24 => ?_)
  · rw [if_neg h24]
    refine lv_iconst (v := 0) hx hb dX7_nzWord_31 (by decide) ?_
    exact k_Md_nzWord_32 C w (lv_sub hl [1] rfl)
  · rw [if_pos h24]
    refine lv_iconst (v := 1) hx hb dX7_nzWord_27 (by decide) ?_
    refine lv_goto (tgt := 32) hx hb dX7_nzWord_28 (by decide) ?_
    exact k_Md_nzWord_32 C w (lv_sub hl [1] rfl)
def F_Md_nzWord_15 (x1 : Int32) (y1 : Int32) (y2 : Int32) (mu : Mu) : Int32 × Mu := F_Md_nzWord_18 x1 (F_Md_tell y1 y2 mu)
set_option maxHeartbeats 4000000 in
set_option maxRecDepth 100000 in
theorem k_Md_nzWord_15 (C : Cx cX7_nzWord 2 (some .int) wsX7_nzWord RX7 A D cA tb p s m args meth c) {mu nu : Mu} {x1 : Int32} {y1 : Int32} {y2 : Int32} {H : Heap} {locs : List Loc} {ls : Array Slot} (w : Wd A D cA ad s nu mu H locs) (hl : lv_has ls 2 [(0, .ref (ad 12)), (1, .int x1)]) : W p l e { frames := 1, cells := 0, slots := 0, locals := 22 } s m args below meth c H locs 0 0 (QI A D cA ad below args s (F_Md_nzWord_15 x1 y1 y2 mu).1 nu (F_Md_nzWord_15 x1 y1 y2 mu).2) (F0 m 15 ls [.int y2, .int y1, .ref (ad 12)]) := by
  have hx := C.1
  have hb := C.2.1
  have hts := C.2.2.2.2.2.1
  have hown := C.2.2.2.2.1
  unfold F_Md_nzWord_15
  refine kcV (k := 12) (ci := 7) (As := [.int y1, .int y2]) (rest := []) C w rfl rfl (c_Md_tell l A D cA tb ad mu nu y1 y2) (cwV 2 hts gX7_nzWord_X7_tell rfl rfl rfl (by decide +kernel) ⟨Nat.le_of_ble_eq_true rfl, Nat.le_of_ble_eq_true rfl⟩) rfl rfl hl.1 (Nat.le_of_ble_eq_true rfl) dX7_nzWord_15 (fun H locs w => ?_)
  exact k_Md_nzWord_18 C w (lv_sub hl [0, 1] rfl)
def F_Md_nzWord (x1 : Int32) (mu : Mu) : Int32 × Mu := (if (x1 &&& 32768) = (0 : Int32) then F_Md_nzWord_15 x1 8 0 mu else F_Md_nzWord_15 x1 8 1 mu)
set_option maxHeartbeats 4000000 in
set_option maxRecDepth 100000 in
theorem k_Md_nzWord (C : Cx cX7_nzWord 2 (some .int) wsX7_nzWord RX7 A D cA tb p s m args meth c) {mu nu : Mu} {x1 : Int32} {H : Heap} {locs : List Loc} {ls : Array Slot} (w : Wd A D cA ad s nu mu H locs) (hl : lv_has ls 2 [(0, .ref (ad 12)), (1, .int x1)]) : W p l e { frames := 1, cells := 0, slots := 0, locals := 22 } s m args below meth c H locs 0 0 (QI A D cA ad below args s (F_Md_nzWord x1 mu).1 nu (F_Md_nzWord x1 mu).2) (F0 m 0 ls []) := by
  have hx := C.1
  have hb := C.2.1
  have hts := C.2.2.2.2.2.1
  have hown := C.2.2.2.2.1
  unfold F_Md_nzWord
  refine lv_aload_n hx hb dX7_nzWord_0 rfl (lv_at hl 0 rfl) ?_
  refine lv_bipush (v := 8) hx hb dX7_nzWord_1 (by decide) ?_
  refine lv_iload_n hx hb dX7_nzWord_3 rfl (lv_at hl 1 rfl) ?_
  refine lv_ldc (v := 32768) hx hb hown (hts _ (List.mem_of_getElem? (i := 1) rfl)) dX7_nzWord_4 ?_
  refine lv_iand hx hb dX7_nzWord_6 ?_
  refine lv_if_eq (tgt := 14) hx hb dX7_nzWord_7 (by decide) (fun h7 => ?_) (fun h7 => ?_)
  · rw [if_pos h7]
    refine lv_iconst (v := 0) hx hb dX7_nzWord_14 (by decide) ?_
    exact k_Md_nzWord_15 C w (lv_sub hl [0, 1] rfl)
  · rw [if_neg h7]
    refine lv_iconst (v := 1) hx hb dX7_nzWord_10 (by decide) ?_
    refine lv_goto (tgt := 15) hx hb dX7_nzWord_11 (by decide) ?_
    exact k_Md_nzWord_15 C w (lv_sub hl [0, 1] rfl)
set_option maxHeartbeats 4000000 in
set_option maxRecDepth 100000 in
theorem c_Md_nzWord (l : Launch) (A : Nat → Prop) (D : va_G) (cA : Nat → ClassId) (tb : Nat) (ad : Nat → Nat) (mu nu : Mu) (x1 : Int32) : Met l yX7_nzWord wsX7_nzWord ({ frames := 1, cells := 0, slots := 0, locals := 22 }) (va_Pc [.ref (ad 12), .int x1] (Pw A D cA tb ad nu mu)) (va_Qi (fun (r : Int32) (u : Mu × Mu) => r = (F_Md_nzWord x1 mu).1 ∧ u = (nu, (F_Md_nzWord x1 mu).2)) (Bw A D cA ad) A) 0 0 A := by
  refine Met.ofW (cc := cX7_nzWord) (maxL := 2) (ret := (some .int)) (by decide) rfl ?_
  intro p e s m args below meth c s₁ B hml hv
  obtain ⟨rfl, w0⟩ := hv
  have C : Cx cX7_nzWord 2 (some .int) wsX7_nzWord RX7 A D cA tb p s m _ meth c := ⟨B.exec, B.bytes, B.returns, hml, findClass_of_methodNamed B.named, atoms_spec (ws := wsX7_nzWord) B.pre, B.notSynchronized, w0.2.1, w0.2.2.2.1, w0.2.2.2.2⟩
  have hl := lv_entry ([.ref (ad 12), .int x1]) (n := 2) (Nat.le_of_ble_eq_true rfl)
  rw [lg_entry_eq]
  exact k_Md_nzWord C w0.wd hl
def F_Md_compareX_73 (y1 : Int32) (y2 : Int32) (mu : Mu) : Mu := (F_Md_tell y1 y2 mu)
set_option maxHeartbeats 4000000 in
set_option maxRecDepth 100000 in
theorem k_Md_compareX_73 (C : Cx cX7_compareX 3 none wsX7_compareX RX7 A D cA tb p s m args meth c) {mu nu : Mu} {y1 : Int32} {y2 : Int32} {H : Heap} {locs : List Loc} {ls : Array Slot} (w : Wd A D cA ad s nu mu H locs) (hl : lv_has ls 3 []) : W p l e { frames := 2, cells := 0, slots := 0, locals := 43 } s m args below meth c H locs 0 0 (QV A D cA ad below args s nu (F_Md_compareX_73 y1 y2 mu)) (F0 m 73 ls [.int y2, .int y1, .ref (ad 12)]) := by
  have hx := C.1
  have hb := C.2.1
  have hts := C.2.2.2.2.2.1
  have hown := C.2.2.2.2.1
  unfold F_Md_compareX_73
  refine kcV (k := 12) (ci := 7) (As := [.int y1, .int y2]) (rest := []) C w rfl rfl (c_Md_tell l A D cA tb ad mu nu y1 y2) (cwV 2 hts gX7_compareX_X7_tell rfl rfl rfl (by decide +kernel) ⟨Nat.le_of_ble_eq_true rfl, Nat.le_of_ble_eq_true rfl⟩) rfl rfl hl.1 (Nat.le_of_ble_eq_true rfl) dX7_compareX_73 (fun H locs w => ?_)
  exact retV C w dX7_compareX_76
def F_Md_compareX_68 (y1 : Int32) (mu : Mu) : Mu := F_Md_compareX_73 y1 1 mu
set_option maxHeartbeats 4000000 in
set_option maxRecDepth 100000 in
theorem k_Md_compareX_68 (C : Cx cX7_compareX 3 none wsX7_compareX RX7 A D cA tb p s m args meth c) {mu nu : Mu} {y1 : Int32} {H : Heap} {locs : List Loc} {ls : Array Slot} (w : Wd A D cA ad s nu mu H locs) (hl : lv_has ls 3 []) : W p l e { frames := 2, cells := 0, slots := 0, locals := 43 } s m args below meth c H locs 0 0 (QV A D cA ad below args s nu (F_Md_compareX_68 y1 mu)) (F0 m 68 ls [.int y1, .ref (ad 12)]) := by
  have hx := C.1
  have hb := C.2.1
  have hts := C.2.2.2.2.2.1
  have hown := C.2.2.2.2.1
  unfold F_Md_compareX_68
  refine lv_iconst (v := 1) hx hb dX7_compareX_68 (by decide) ?_
  refine lv_goto (tgt := 73) hx hb dX7_compareX_69 (by decide) ?_
  exact k_Md_compareX_73 C w (lv_sub hl [] rfl)
def F_Md_compareX_51 (x2 : Int32) (y0 : Int32) (mu : Mu) : Mu := (if x2 < (-32768 : Int32) then F_Md_compareX_68 2 mu else (if x2 ≤ (32767 : Int32) then F_Md_compareX_73 2 0 mu else F_Md_compareX_68 2 mu))
set_option maxHeartbeats 4000000 in
set_option maxRecDepth 100000 in
theorem k_Md_compareX_51 (C : Cx cX7_compareX 3 none wsX7_compareX RX7 A D cA tb p s m args meth c) {mu nu : Mu} {x2 : Int32} {y0 : Int32} {H : Heap} {locs : List Loc} {ls : Array Slot} (w : Wd A D cA ad s nu mu H locs) (hl : lv_has ls 3 [(0, .ref (ad 12)), (2, .int x2)]) : W p l e { frames := 2, cells := 0, slots := 0, locals := 43 } s m args below meth c H locs 0 0 (QV A D cA ad below args s nu (F_Md_compareX_51 x2 y0 mu)) (F0 m 51 ls [.int y0]) := by
  have hx := C.1
  have hb := C.2.1
  have hts := C.2.2.2.2.2.1
  have hown := C.2.2.2.2.1
  unfold F_Md_compareX_51
  refine lv_pop hx hb dX7_compareX_51 rfl ?_
  refine lv_aload_n hx hb dX7_compareX_52 rfl (lv_at hl 0 rfl) ?_
  refine lv_iconst (v := 2) hx hb dX7_compareX_53 (by decide) ?_
  refine lv_iload_n hx hb dX7_compareX_54 rfl (lv_at hl 1 rfl) ?_
  refine lv_sipush (v := (-32768 : Int32)) hx hb dX7_compareX_55 (by decide) ?_
  refine lv_icmp_lt (tgt := 68) hx hb dX7_compareX_58 (by decide) (fun h58 => ?_) (fun h58 => ?_)
  · rw [if_pos h58]
    exact k_Md_compareX_68 C w (lv_sub hl [] rfl)
  · rw [if_neg h58]
    refine lv_iload_n hx hb dX7_compareX_61 rfl (lv_at hl 1 rfl) ?_
    refine lv_sipush (v := 32767) hx hb dX7_compareX_62 (by decide) ?_
    refine lv_icmp_le (tgt := 72) hx hb dX7_compareX_65 (by decide) (fun h65 => ?_) (fun h65 => ?_)
    · rw [if_pos h65]
      refine lv_iconst (v := 0) hx hb dX7_compareX_72 (by decide) ?_
      exact k_Md_compareX_73 C w (lv_sub hl [] rfl)
    · rw [if_neg h65]
      exact k_Md_compareX_68 C w (lv_sub hl [] rfl)
def F_Md_compareX_39 (x1 : Int32) (y0 : Int32) (y1 : Int32) (mu : Mu) : Mu := F_Md_compareX_51 (y0 - y1) ((F_Md_nzWord ((mu 12 4) - x1) mu).1) ((F_Md_nzWord ((mu 12 4) - x1) mu).2)
set_option maxHeartbeats 4000000 in
set_option maxRecDepth 100000 in
theorem k_Md_compareX_39 (C : Cx cX7_compareX 3 none wsX7_compareX RX7 A D cA tb p s m args meth c) {mu nu : Mu} {x1 : Int32} {y0 : Int32} {y1 : Int32} {H : Heap} {locs : List Loc} {ls : Array Slot} (w : Wd A D cA ad s nu mu H locs) (hl : lv_has ls 3 [(0, .ref (ad 12)), (1, .int x1)]) : W p l e { frames := 2, cells := 0, slots := 0, locals := 43 } s m args below meth c H locs 0 0 (QV A D cA ad below args s nu (F_Md_compareX_39 x1 y0 y1 mu)) (F0 m 39 ls [.int y1, .int y0]) := by
  have hx := C.1
  have hb := C.2.1
  have hts := C.2.2.2.2.2.1
  have hown := C.2.2.2.2.1
  unfold F_Md_compareX_39
  refine lv_isub hx hb dX7_compareX_39 ?_
  refine lv_istore_n (lv' := [(2, .int ((y0 - y1))), (0, .ref (ad 12)), (1, .int x1)]) hx hb dX7_compareX_40 rfl hl (by decide) rfl (fun ls hl => ?_)
  refine lv_aload_n hx hb dX7_compareX_41 rfl (lv_at hl 1 rfl) ?_
  refine lv_aload_n hx hb dX7_compareX_42 rfl (lv_at hl 1 rfl) ?_
  refine gt_12_4 C (fun _ h => List.mem_cons_of_mem _ (List.mem_append_right _ h)) (hts _ (List.mem_of_getElem? (i := 1) rfl)) w (v := (mu 12 4)) rfl dX7_compareX_43 ?_
  refine lv_iload_n hx hb dX7_compareX_46 rfl (lv_at hl 2 rfl) ?_
  refine lv_isub hx hb dX7_compareX_47 ?_
  refine kcI (k := 12) (ci := 7) (As := [.int (((mu 12 4) - x1))]) (rest := []) C w rfl rfl (c_Md_nzWord l A D cA tb ad mu nu ((mu 12 4) - x1)) (cwV 1 hts gX7_compareX_X7_nzWord rfl rfl rfl (by decide +kernel) ⟨Nat.le_of_ble_eq_true rfl, Nat.le_of_ble_eq_true rfl⟩) rfl rfl hl.1 (Nat.le_of_ble_eq_true rfl) dX7_compareX_48 (fun H locs w => ?_)
  exact k_Md_compareX_51 C w (lv_sub hl [1, 0] rfl)
def F_Md_compareX_24 (x1 : Int32) (y0 : Int32) (mu : Mu) : Mu := (if x1 ≤ (32767 : Int32) then F_Md_compareX_39 x1 y0 x1 mu else F_Md_compareX_39 x1 y0 (x1 - 65536) mu)
set_option maxHeartbeats 4000000 in
set_option maxRecDepth 100000 in
theorem k_Md_compareX_24 (C : Cx cX7_compareX 3 none wsX7_compareX RX7 A D cA tb p s m args meth c) {mu nu : Mu} {x1 : Int32} {y0 : Int32} {H : Heap} {locs : List Loc} {ls : Array Slot} (w : Wd A D cA ad s nu mu H locs) (hl : lv_has ls 3 [(0, .ref (ad 12)), (1, .int x1)]) : W p l e { frames := 2, cells := 0, slots := 0, locals := 43 } s m args below meth c H locs 0 0 (QV A D cA ad below args s nu (F_Md_compareX_24 x1 y0 mu)) (F0 m 24 ls [.int y0]) := by
  have hx := C.1
  have hb := C.2.1
  have hts := C.2.2.2.2.2.1
  have hown := C.2.2.2.2.1
  unfold F_Md_compareX_24
  refine lv_iload_n hx hb dX7_compareX_24 rfl (lv_at hl 1 rfl) ?_
  refine lv_sipush (v := 32767) hx hb dX7_compareX_25 (by decide) ?_
  refine lv_icmp_le (tgt := 38) hx hb dX7_compareX_28 (by decide) (fun h28 => ?_) (fun h28 => ?_)
  · rw [if_pos h28]
    refine lv_iload_n hx hb dX7_compareX_38 rfl (lv_at hl 1 rfl) ?_
    exact k_Md_compareX_39 C w (lv_sub hl [0, 1] rfl)
  · rw [if_neg h28]
    refine lv_iload_n hx hb dX7_compareX_31 rfl (lv_at hl 1 rfl) ?_
    refine lv_ldc (v := 65536) hx hb hown (hts _ (List.mem_of_getElem? (i := 2) rfl)) dX7_compareX_32 ?_
    refine lv_isub hx hb dX7_compareX_34 ?_
    refine lv_goto (tgt := 39) hx hb dX7_compareX_35 (by decide) ?_
    exact k_Md_compareX_39 C w (lv_sub hl [0, 1] rfl)
def F_Md_compareX (x1 : Int32) (mu : Mu) : Mu := (if (mu 12 4) ≤ (32767 : Int32) then F_Md_compareX_24 x1 (mu 12 4) mu else F_Md_compareX_24 x1 ((mu 12 4) - 65536) mu)
set_option maxHeartbeats 4000000 in
set_option maxRecDepth 100000 in
theorem k_Md_compareX (C : Cx cX7_compareX 3 none wsX7_compareX RX7 A D cA tb p s m args meth c) {mu nu : Mu} {x1 : Int32} {H : Heap} {locs : List Loc} {ls : Array Slot} (w : Wd A D cA ad s nu mu H locs) (hl : lv_has ls 3 [(0, .ref (ad 12)), (1, .int x1)]) : W p l e { frames := 2, cells := 0, slots := 0, locals := 43 } s m args below meth c H locs 0 0 (QV A D cA ad below args s nu (F_Md_compareX x1 mu)) (F0 m 0 ls []) := by
  have hx := C.1
  have hb := C.2.1
  have hts := C.2.2.2.2.2.1
  have hown := C.2.2.2.2.1
  unfold F_Md_compareX
  refine lv_aload_n hx hb dX7_compareX_0 rfl (lv_at hl 0 rfl) ?_
  refine gt_12_4 C (fun _ h => List.mem_cons_of_mem _ (List.mem_append_right _ h)) (hts _ (List.mem_of_getElem? (i := 1) rfl)) w (v := (mu 12 4)) rfl dX7_compareX_1 ?_
  refine lv_sipush (v := 32767) hx hb dX7_compareX_4 (by decide) ?_
  refine lv_icmp_le (tgt := 20) hx hb dX7_compareX_7 (by decide) (fun h7 => ?_) (fun h7 => ?_)
  · rw [if_pos h7]
    refine lv_aload_n hx hb dX7_compareX_20 rfl (lv_at hl 0 rfl) ?_
    refine gt_12_4 C (fun _ h => List.mem_cons_of_mem _ (List.mem_append_right _ h)) (hts _ (List.mem_of_getElem? (i := 1) rfl)) w (v := (mu 12 4)) rfl dX7_compareX_21 ?_
    exact k_Md_compareX_24 C w (lv_sub hl [0, 1] rfl)
  · rw [if_neg h7]
    refine lv_aload_n hx hb dX7_compareX_10 rfl (lv_at hl 0 rfl) ?_
    refine gt_12_4 C (fun _ h => List.mem_cons_of_mem _ (List.mem_append_right _ h)) (hts _ (List.mem_of_getElem? (i := 1) rfl)) w (v := (mu 12 4)) rfl dX7_compareX_11 ?_
    refine lv_ldc (v := 65536) hx hb hown (hts _ (List.mem_of_getElem? (i := 2) rfl)) dX7_compareX_14 ?_
    refine lv_isub hx hb dX7_compareX_16 ?_
    refine lv_goto (tgt := 24) hx hb dX7_compareX_17 (by decide) ?_
    exact k_Md_compareX_24 C w (lv_sub hl [0, 1] rfl)
set_option maxHeartbeats 4000000 in
set_option maxRecDepth 100000 in
theorem c_Md_compareX (l : Launch) (A : Nat → Prop) (D : va_G) (cA : Nat → ClassId) (tb : Nat) (ad : Nat → Nat) (mu nu : Mu) (x1 : Int32) : Met l yX7_compareX wsX7_compareX ({ frames := 2, cells := 0, slots := 0, locals := 43 }) (va_Pc [.ref (ad 12), .int x1] (Pw A D cA tb ad nu mu)) (va_Qv (fun (u : Mu × Mu) => u = (nu, F_Md_compareX x1 mu)) (Bw A D cA ad) A) 0 0 A := by
  refine Met.ofW (cc := cX7_compareX) (maxL := 3) (ret := none) (by decide) rfl ?_
  intro p e s m args below meth c s₁ B hml hv
  obtain ⟨rfl, w0⟩ := hv
  have C : Cx cX7_compareX 3 none wsX7_compareX RX7 A D cA tb p s m _ meth c := ⟨B.exec, B.bytes, B.returns, hml, findClass_of_methodNamed B.named, atoms_spec (ws := wsX7_compareX) B.pre, B.notSynchronized, w0.2.1, w0.2.2.2.1, w0.2.2.2.2⟩
  have hl := lv_entry ([.ref (ad 12), .int x1]) (n := 3) (Nat.le_of_ble_eq_true rfl)
  rw [lg_entry_eq]
  exact k_Md_compareX C w0.wd hl
def F_Md_loaded_6 (x1 : Int32) (mu : Mu) : Int32 × Mu := ((F_Md_nzWord x1 mu).1, (F_Md_nzWord x1 mu).2)
set_option maxHeartbeats 4000000 in
set_option maxRecDepth 100000 in
theorem k_Md_loaded_6 (C : Cx cX7_loaded 2 (some .int) wsX7_loaded RX7 A D cA tb p s m args meth c) {mu nu : Mu} {x1 : Int32} {H : Heap} {locs : List Loc} {ls : Array Slot} (w : Wd A D cA ad s nu mu H locs) (hl : lv_has ls 2 [(0, .ref (ad 12)), (1, .int x1)]) : W p l e { frames := 2, cells := 0, slots := 0, locals := 43 } s m args below meth c H locs 0 0 (QI A D cA ad below args s (F_Md_loaded_6 x1 mu).1 nu (F_Md_loaded_6 x1 mu).2) (F0 m 6 ls []) := by
  have hx := C.1
  have hb := C.2.1
  have hts := C.2.2.2.2.2.1
  have hown := C.2.2.2.2.1
  unfold F_Md_loaded_6
  refine lv_aload_n hx hb dX7_loaded_6 rfl (lv_at hl 0 rfl) ?_
  refine lv_iload_n hx hb dX7_loaded_7 rfl (lv_at hl 1 rfl) ?_
  refine kcI (k := 12) (ci := 7) (As := [.int x1]) (rest := []) C w rfl rfl (c_Md_nzWord l A D cA tb ad mu nu x1) (cwV 1 hts gX7_loaded_X7_nzWord rfl rfl rfl (by decide +kernel) ⟨Nat.le_of_ble_eq_true rfl, Nat.le_of_ble_eq_true rfl⟩) rfl rfl hl.1 (Nat.le_of_ble_eq_true rfl) dX7_loaded_8 (fun H locs w => ?_)
  exact retI C w dX7_loaded_11
def F_Md_loaded (x1 : Int32) (mu : Mu) : Int32 × Mu := F_Md_loaded_6 x1 (F_Md_tell 2 0 mu)
set_option maxHeartbeats 4000000 in
set_option maxRecDepth 100000 in
theorem k_Md_loaded (C : Cx cX7_loaded 2 (some .int) wsX7_loaded RX7 A D cA tb p s m args meth c) {mu nu : Mu} {x1 : Int32} {H : Heap} {locs : List Loc} {ls : Array Slot} (w : Wd A D cA ad s nu mu H locs) (hl : lv_has ls 2 [(0, .ref (ad 12)), (1, .int x1)]) : W p l e { frames := 2, cells := 0, slots := 0, locals := 43 } s m args below meth c H locs 0 0 (QI A D cA ad below args s (F_Md_loaded x1 mu).1 nu (F_Md_loaded x1 mu).2) (F0 m 0 ls []) := by
  have hx := C.1
  have hb := C.2.1
  have hts := C.2.2.2.2.2.1
  have hown := C.2.2.2.2.1
  unfold F_Md_loaded
  refine lv_aload_n hx hb dX7_loaded_0 rfl (lv_at hl 0 rfl) ?_
  refine lv_iconst (v := 2) hx hb dX7_loaded_1 (by decide) ?_
  refine lv_iconst (v := 0) hx hb dX7_loaded_2 (by decide) ?_
  refine kcV (k := 12) (ci := 7) (As := [.int 2, .int 0]) (rest := []) C w rfl rfl (c_Md_tell l A D cA tb ad mu nu 2 0) (cwV 2 hts gX7_loaded_X7_tell rfl rfl rfl (by decide +kernel) ⟨Nat.le_of_ble_eq_true rfl, Nat.le_of_ble_eq_true rfl⟩) rfl rfl hl.1 (Nat.le_of_ble_eq_true rfl) dX7_loaded_3 (fun H locs w => ?_)
  exact k_Md_loaded_6 C w (lv_sub hl [0, 1] rfl)
set_option maxHeartbeats 4000000 in
set_option maxRecDepth 100000 in
theorem c_Md_loaded (l : Launch) (A : Nat → Prop) (D : va_G) (cA : Nat → ClassId) (tb : Nat) (ad : Nat → Nat) (mu nu : Mu) (x1 : Int32) : Met l yX7_loaded wsX7_loaded ({ frames := 2, cells := 0, slots := 0, locals := 43 }) (va_Pc [.ref (ad 12), .int x1] (Pw A D cA tb ad nu mu)) (va_Qi (fun (r : Int32) (u : Mu × Mu) => r = (F_Md_loaded x1 mu).1 ∧ u = (nu, (F_Md_loaded x1 mu).2)) (Bw A D cA ad) A) 0 0 A := by
  refine Met.ofW (cc := cX7_loaded) (maxL := 2) (ret := (some .int)) (by decide) rfl ?_
  intro p e s m args below meth c s₁ B hml hv
  obtain ⟨rfl, w0⟩ := hv
  have C : Cx cX7_loaded 2 (some .int) wsX7_loaded RX7 A D cA tb p s m _ meth c := ⟨B.exec, B.bytes, B.returns, hml, findClass_of_methodNamed B.named, atoms_spec (ws := wsX7_loaded) B.pre, B.notSynchronized, w0.2.1, w0.2.2.2.1, w0.2.2.2.2⟩
  have hl := lv_entry ([.ref (ad 12), .int x1]) (n := 2) (Nat.le_of_ble_eq_true rfl)
  rw [lg_entry_eq]
  exact k_Md_loaded C w0.wd hl
def F_Md_writeWord_13 (x1 : Int32) (x2 : Int32) (mu : Mu) : Mu := (F_Md_write (x1 + 1) (x2 &&& 255) mu)
set_option maxHeartbeats 4000000 in
set_option maxRecDepth 100000 in
theorem k_Md_writeWord_13 (C : Cx cX7_writeWord 3 none wsX7_writeWord RX7 A D cA tb p s m args meth c) {mu nu : Mu} {x1 : Int32} {x2 : Int32} {H : Heap} {locs : List Loc} {ls : Array Slot} (w : Wd A D cA ad s nu mu H locs) (hl : lv_has ls 3 [(0, .ref (ad 12)), (1, .int x1), (2, .int x2)]) : W p l e { frames := 3, cells := 0, slots := 0, locals := 66 } s m args below meth c H locs 0 0 (QV A D cA ad below args s nu (F_Md_writeWord_13 x1 x2 mu)) (F0 m 13 ls []) := by
  have hx := C.1
  have hb := C.2.1
  have hts := C.2.2.2.2.2.1
  have hown := C.2.2.2.2.1
  unfold F_Md_writeWord_13
  refine lv_aload_n hx hb dX7_writeWord_13 rfl (lv_at hl 0 rfl) ?_
  refine lv_iload_n hx hb dX7_writeWord_14 rfl (lv_at hl 1 rfl) ?_
  refine lv_iconst (v := 1) hx hb dX7_writeWord_15 (by decide) ?_
  refine lv_iadd hx hb dX7_writeWord_16 ?_
  refine lv_iload_n hx hb dX7_writeWord_17 rfl (lv_at hl 2 rfl) ?_
  refine lv_sipush (v := 255) hx hb dX7_writeWord_18 (by decide) ?_
  refine lv_iand hx hb dX7_writeWord_21 ?_
  refine kcV (k := 12) (ci := 7) (As := [.int ((x1 + 1)), .int ((x2 &&& 255))]) (rest := []) C w rfl rfl (c_Md_write l A D cA tb ad mu nu (x1 + 1) (x2 &&& 255)) (cwV 2 hts gX7_writeWord_X7_write rfl rfl rfl (by decide +kernel) ⟨Nat.le_of_ble_eq_true rfl, Nat.le_of_ble_eq_true rfl⟩) rfl rfl hl.1 (Nat.le_of_ble_eq_true rfl) dX7_writeWord_22 (fun H locs w => ?_)
  exact retV C w dX7_writeWord_25
def F_Md_writeWord (x1 : Int32) (x2 : Int32) (mu : Mu) : Mu := F_Md_writeWord_13 x1 x2 (F_Md_write x1 ((x2 >>> (8 &&& 31)) &&& 255) mu)
set_option maxHeartbeats 4000000 in
set_option maxRecDepth 100000 in
theorem k_Md_writeWord (C : Cx cX7_writeWord 3 none wsX7_writeWord RX7 A D cA tb p s m args meth c) {mu nu : Mu} {x1 : Int32} {x2 : Int32} {H : Heap} {locs : List Loc} {ls : Array Slot} (w : Wd A D cA ad s nu mu H locs) (hl : lv_has ls 3 [(0, .ref (ad 12)), (1, .int x1), (2, .int x2)]) : W p l e { frames := 3, cells := 0, slots := 0, locals := 66 } s m args below meth c H locs 0 0 (QV A D cA ad below args s nu (F_Md_writeWord x1 x2 mu)) (F0 m 0 ls []) := by
  have hx := C.1
  have hb := C.2.1
  have hts := C.2.2.2.2.2.1
  have hown := C.2.2.2.2.1
  unfold F_Md_writeWord
  refine lv_aload_n hx hb dX7_writeWord_0 rfl (lv_at hl 0 rfl) ?_
  refine lv_iload_n hx hb dX7_writeWord_1 rfl (lv_at hl 1 rfl) ?_
  refine lv_iload_n hx hb dX7_writeWord_2 rfl (lv_at hl 2 rfl) ?_
  refine lv_bipush (v := 8) hx hb dX7_writeWord_3 (by decide) ?_
  refine lv_ishr hx hb dX7_writeWord_5 ?_
  refine lv_sipush (v := 255) hx hb dX7_writeWord_6 (by decide) ?_
  refine lv_iand hx hb dX7_writeWord_9 ?_
  refine kcV (k := 12) (ci := 7) (As := [.int x1, .int (((x2 >>> (8 &&& 31)) &&& 255))]) (rest := []) C w rfl rfl (c_Md_write l A D cA tb ad mu nu x1 ((x2 >>> (8 &&& 31)) &&& 255)) (cwV 2 hts gX7_writeWord_X7_write rfl rfl rfl (by decide +kernel) ⟨Nat.le_of_ble_eq_true rfl, Nat.le_of_ble_eq_true rfl⟩) rfl rfl hl.1 (Nat.le_of_ble_eq_true rfl) dX7_writeWord_10 (fun H locs w => ?_)
  exact k_Md_writeWord_13 C w (lv_sub hl [0, 1, 2] rfl)
set_option maxHeartbeats 4000000 in
set_option maxRecDepth 100000 in
theorem c_Md_writeWord (l : Launch) (A : Nat → Prop) (D : va_G) (cA : Nat → ClassId) (tb : Nat) (ad : Nat → Nat) (mu nu : Mu) (x1 : Int32) (x2 : Int32) : Met l yX7_writeWord wsX7_writeWord ({ frames := 3, cells := 0, slots := 0, locals := 66 }) (va_Pc [.ref (ad 12), .int x1, .int x2] (Pw A D cA tb ad nu mu)) (va_Qv (fun (u : Mu × Mu) => u = (nu, F_Md_writeWord x1 x2 mu)) (Bw A D cA ad) A) 0 0 A := by
  refine Met.ofW (cc := cX7_writeWord) (maxL := 3) (ret := none) (by decide) rfl ?_
  intro p e s m args below meth c s₁ B hml hv
  obtain ⟨rfl, w0⟩ := hv
  have C : Cx cX7_writeWord 3 none wsX7_writeWord RX7 A D cA tb p s m _ meth c := ⟨B.exec, B.bytes, B.returns, hml, findClass_of_methodNamed B.named, atoms_spec (ws := wsX7_writeWord) B.pre, B.notSynchronized, w0.2.1, w0.2.2.2.1, w0.2.2.2.2⟩
  have hl := lv_entry ([.ref (ad 12), .int x1, .int x2]) (n := 3) (Nat.le_of_ble_eq_true rfl)
  rw [lg_entry_eq]
  exact k_Md_writeWord C w0.wd hl
def F_Md_call_50 (x2 : Int32) (mu : Mu) : Mu := (ps mu 12 6 x2)
set_option maxHeartbeats 4000000 in
set_option maxRecDepth 100000 in
theorem k_Md_call_50 (C : Cx cX7_call 3 none wsX7_call RX7 A D cA tb p s m args meth c) {mu nu : Mu} {x2 : Int32} {H : Heap} {locs : List Loc} {ls : Array Slot} (w : Wd A D cA ad s nu mu H locs) (hl : lv_has ls 3 [(0, .ref (ad 12)), (2, .int x2)]) : W p l e { frames := 6, cells := 0, slots := 0, locals := 128 } s m args below meth c H locs 0 0 (QV A D cA ad below args s nu (F_Md_call_50 x2 mu)) (F0 m 50 ls []) := by
  have hx := C.1
  have hb := C.2.1
  have hts := C.2.2.2.2.2.1
  have hown := C.2.2.2.2.1
  unfold F_Md_call_50
  refine lv_aload_n hx hb dX7_call_50 rfl (lv_at hl 0 rfl) ?_
  refine lv_iload_n hx hb dX7_call_51 rfl (lv_at hl 1 rfl) ?_
  refine pt_12_6 C (fun _ h => List.mem_cons_of_mem _ (List.mem_append_right _ h)) (hts _ (List.mem_of_getElem? (i := 1) rfl)) w dX7_call_52 (fun H locs w => ?_)
  exact retV C w dX7_call_55
def F_Md_call_41 (y0 : Int32) (mu : Mu) : Mu := F_Md_call_50 y0 (F_Md_pushWord (mu 12 6) mu)
set_option maxHeartbeats 4000000 in
set_option maxRecDepth 100000 in
theorem k_Md_call_41 (C : Cx cX7_call 3 none wsX7_call RX7 A D cA tb p s m args meth c) {mu nu : Mu} {y0 : Int32} {H : Heap} {locs : List Loc} {ls : Array Slot} (w : Wd A D cA ad s nu mu H locs) (hl : lv_has ls 3 [(0, .ref (ad 12))]) : W p l e { frames := 6, cells := 0, slots := 0, locals := 128 } s m args below meth c H locs 0 0 (QV A D cA ad below args s nu (F_Md_call_41 y0 mu)) (F0 m 41 ls [.int y0]) := by
  have hx := C.1
  have hb := C.2.1
  have hts := C.2.2.2.2.2.1
  have hown := C.2.2.2.2.1
  unfold F_Md_call_41
  refine lv_istore_n (lv' := [(2, .int y0), (0, .ref (ad 12))]) hx hb dX7_call_41 rfl hl (by decide) rfl (fun ls hl => ?_)
  refine lv_aload_n hx hb dX7_call_42 rfl (lv_at hl 1 rfl) ?_
  refine lv_aload_n hx hb dX7_call_43 rfl (lv_at hl 1 rfl) ?_
  refine gt_12_6 C (fun _ h => List.mem_cons_of_mem _ (List.mem_append_right _ h)) (hts _ (List.mem_of_getElem? (i := 1) rfl)) w (v := (mu 12 6)) rfl dX7_call_44 ?_
  refine kcV (k := 12) (ci := 7) (As := [.int ((mu 12 6))]) (rest := []) C w rfl rfl (c_Md_pushWord l A D cA tb ad mu nu (mu 12 6)) (cwV 1 hts gX7_call_X7_pushWord rfl rfl rfl (by decide +kernel) ⟨Nat.le_of_ble_eq_true rfl, Nat.le_of_ble_eq_true rfl⟩) rfl rfl hl.1 (Nat.le_of_ble_eq_true rfl) dX7_call_47 (fun H locs w => ?_)
  exact k_Md_call_50 C w (lv_sub hl [1, 0] rfl)
def F_Md_call_20 (x2 : Int32) (mu : Mu) : Mu := (ps mu 12 6 (((mu 12 6) + x2) &&& 65535))
set_option maxHeartbeats 4000000 in
set_option maxRecDepth 100000 in
theorem k_Md_call_20 (C : Cx cX7_call 3 none wsX7_call RX7 A D cA tb p s m args meth c) {mu nu : Mu} {x2 : Int32} {H : Heap} {locs : List Loc} {ls : Array Slot} (w : Wd A D cA ad s nu mu H locs) (hl : lv_has ls 3 [(0, .ref (ad 12)), (2, .int x2)]) : W p l e { frames := 6, cells := 0, slots := 0, locals := 128 } s m args below meth c H locs 0 0 (QV A D cA ad below args s nu (F_Md_call_20 x2 mu)) (F0 m 20 ls []) := by
  have hx := C.1
  have hb := C.2.1
  have hts := C.2.2.2.2.2.1
  have hown := C.2.2.2.2.1
  unfold F_Md_call_20
  refine lv_aload_n hx hb dX7_call_20 rfl (lv_at hl 0 rfl) ?_
  refine lv_aload_n hx hb dX7_call_21 rfl (lv_at hl 0 rfl) ?_
  refine gt_12_6 C (fun _ h => List.mem_cons_of_mem _ (List.mem_append_right _ h)) (hts _ (List.mem_of_getElem? (i := 1) rfl)) w (v := (mu 12 6)) rfl dX7_call_22 ?_
  refine lv_iload_n hx hb dX7_call_25 rfl (lv_at hl 1 rfl) ?_
  refine lv_iadd hx hb dX7_call_26 ?_
  refine lv_ldc (v := 65535) hx hb hown (hts _ (List.mem_of_getElem? (i := 2) rfl)) dX7_call_27 ?_
  refine lv_iand hx hb dX7_call_29 ?_
  refine pt_12_6 C (fun _ h => List.mem_cons_of_mem _ (List.mem_append_right _ h)) (hts _ (List.mem_of_getElem? (i := 1) rfl)) w dX7_call_30 (fun H locs w => ?_)
  refine lv_goto (tgt := 55) hx hb dX7_call_33 (by decide) ?_
  exact retV C w dX7_call_55
def F_Md_call_8 (y0 : Int32) (mu : Mu) : Mu := F_Md_call_20 (F_Md_signed y0 mu) (F_Md_pushWord (mu 12 6) mu)
set_option maxHeartbeats 4000000 in
set_option maxRecDepth 100000 in
theorem k_Md_call_8 (C : Cx cX7_call 3 none wsX7_call RX7 A D cA tb p s m args meth c) {mu nu : Mu} {y0 : Int32} {H : Heap} {locs : List Loc} {ls : Array Slot} (w : Wd A D cA ad s nu mu H locs) (hl : lv_has ls 3 [(0, .ref (ad 12))]) : W p l e { frames := 6, cells := 0, slots := 0, locals := 128 } s m args below meth c H locs 0 0 (QV A D cA ad below args s nu (F_Md_call_8 y0 mu)) (F0 m 8 ls [.int y0]) := by
  have hx := C.1
  have hb := C.2.1
  have hts := C.2.2.2.2.2.1
  have hown := C.2.2.2.2.1
  unfold F_Md_call_8
  refine kcIS (As := [.int y0]) (rest := []) C w (c_Md_signed l A D cA tb ad mu nu y0) (va_cwS 1 hts gX7_call_X7_signed rfl rfl rfl (by decide +kernel) ⟨Nat.le_of_ble_eq_true rfl, Nat.le_of_ble_eq_true rfl⟩) rfl rfl hl.1 (Nat.le_of_ble_eq_true rfl) dX7_call_8 (fun H locs w => ?_)
  refine lv_istore_n (lv' := [(2, .int ((F_Md_signed y0 mu))), (0, .ref (ad 12))]) hx hb dX7_call_11 rfl hl (by decide) rfl (fun ls hl => ?_)
  refine lv_aload_n hx hb dX7_call_12 rfl (lv_at hl 1 rfl) ?_
  refine lv_aload_n hx hb dX7_call_13 rfl (lv_at hl 1 rfl) ?_
  refine gt_12_6 C (fun _ h => List.mem_cons_of_mem _ (List.mem_append_right _ h)) (hts _ (List.mem_of_getElem? (i := 1) rfl)) w (v := (mu 12 6)) rfl dX7_call_14 ?_
  refine kcV (k := 12) (ci := 7) (As := [.int ((mu 12 6))]) (rest := []) C w rfl rfl (c_Md_pushWord l A D cA tb ad mu nu (mu 12 6)) (cwV 1 hts gX7_call_X7_pushWord rfl rfl rfl (by decide +kernel) ⟨Nat.le_of_ble_eq_true rfl, Nat.le_of_ble_eq_true rfl⟩) rfl rfl hl.1 (Nat.le_of_ble_eq_true rfl) dX7_call_17 (fun H locs w => ?_)
  exact k_Md_call_20 C w (lv_sub hl [1, 0] rfl)
def F_Md_call (x1 : Int32) (mu : Mu) : Mu := (if x1 = (0 : Int32) then F_Md_call_8 ((F_Md_next mu).1) ((F_Md_next mu).2) else F_Md_call_41 ((F_Md_addressOf x1 mu).1) ((F_Md_addressOf x1 mu).2))
set_option maxHeartbeats 4000000 in
set_option maxRecDepth 100000 in
theorem k_Md_call (C : Cx cX7_call 3 none wsX7_call RX7 A D cA tb p s m args meth c) {mu nu : Mu} {x1 : Int32} {H : Heap} {locs : List Loc} {ls : Array Slot} (w : Wd A D cA ad s nu mu H locs) (hl : lv_has ls 3 [(0, .ref (ad 12)), (1, .int x1)]) : W p l e { frames := 6, cells := 0, slots := 0, locals := 128 } s m args below meth c H locs 0 0 (QV A D cA ad below args s nu (F_Md_call x1 mu)) (F0 m 0 ls []) := by
  have hx := C.1
  have hb := C.2.1
  have hts := C.2.2.2.2.2.1
  have hown := C.2.2.2.2.1
  unfold F_Md_call
  refine lv_iload_n hx hb dX7_call_0 rfl (lv_at hl 1 rfl) ?_
  refine lv_if_ne (tgt := 36) hx hb dX7_call_1 (by decide) (fun h1 => ?_) (fun h1 => ?_)
  · rw [if_neg h1]
    refine lv_aload_n hx hb dX7_call_36 rfl (lv_at hl 0 rfl) ?_
    refine lv_iload_n hx hb dX7_call_37 rfl (lv_at hl 1 rfl) ?_
    refine kcI (k := 12) (ci := 7) (As := [.int x1]) (rest := []) C w rfl rfl (c_Md_addressOf l A D cA tb ad mu nu x1) (cwV 1 hts gX7_call_X7_addressOf rfl rfl rfl (by decide +kernel) ⟨Nat.le_of_ble_eq_true rfl, Nat.le_of_ble_eq_true rfl⟩) rfl rfl hl.1 (Nat.le_of_ble_eq_true rfl) dX7_call_38 (fun H locs w => ?_)
    exact k_Md_call_41 C w (lv_sub hl [0] rfl)
  · rw [if_pos h1]
    refine lv_aload_n hx hb dX7_call_4 rfl (lv_at hl 0 rfl) ?_
    refine kcI (k := 12) (ci := 7) (As := []) (rest := []) C w rfl rfl (c_Md_next l A D cA tb ad mu nu) (cwV 0 hts gX7_call_X7_next rfl rfl rfl (by decide +kernel) ⟨Nat.le_of_ble_eq_true rfl, Nat.le_of_ble_eq_true rfl⟩) rfl rfl hl.1 (Nat.le_of_ble_eq_true rfl) dX7_call_5 (fun H locs w => ?_)
    exact k_Md_call_8 C w (lv_sub hl [0] rfl)
set_option maxHeartbeats 4000000 in
set_option maxRecDepth 100000 in
theorem c_Md_call (l : Launch) (A : Nat → Prop) (D : va_G) (cA : Nat → ClassId) (tb : Nat) (ad : Nat → Nat) (mu nu : Mu) (x1 : Int32) : Met l yX7_call wsX7_call ({ frames := 6, cells := 0, slots := 0, locals := 128 }) (va_Pc [.ref (ad 12), .int x1] (Pw A D cA tb ad nu mu)) (va_Qv (fun (u : Mu × Mu) => u = (nu, F_Md_call x1 mu)) (Bw A D cA ad) A) 0 0 A := by
  refine Met.ofW (cc := cX7_call) (maxL := 3) (ret := none) (by decide) rfl ?_
  intro p e s m args below meth c s₁ B hml hv
  obtain ⟨rfl, w0⟩ := hv
  have C : Cx cX7_call 3 none wsX7_call RX7 A D cA tb p s m _ meth c := ⟨B.exec, B.bytes, B.returns, hml, findClass_of_methodNamed B.named, atoms_spec (ws := wsX7_call) B.pre, B.notSynchronized, w0.2.1, w0.2.2.2.1, w0.2.2.2.2⟩
  have hl := lv_entry ([.ref (ad 12), .int x1]) (n := 3) (Nat.le_of_ble_eq_true rfl)
  rw [lg_entry_eq]
  exact k_Md_call C w0.wd hl
def F_Md_withWords_115 (x1 : Int32) (x2 : Int32) (x3 : Int32) (mu : Mu) : Int32 × Mu := (if x1 = (13 : Int32) then (if x3 = (0 : Int32) then (if x2 = (1 : Int32) then (0, mu) else (1, (F_Md_call x2 mu))) else (0, mu)) else (0, mu))
set_option maxHeartbeats 4000000 in
set_option maxRecDepth 100000 in
theorem k_Md_withWords_115 (C : Cx cX7_withWords 5 (some .boolean) wsX7_withWords RX7 A D cA tb p s m args meth c) {mu nu : Mu} {x1 : Int32} {x2 : Int32} {x3 : Int32} {H : Heap} {locs : List Loc} {ls : Array Slot} (w : Wd A D cA ad s nu mu H locs) (hl : lv_has ls 5 [(0, .ref (ad 12)), (1, .int x1), (2, .int x2), (3, .int x3)]) : W p l e { frames := 7, cells := 0, slots := 0, locals := 150 } s m args below meth c H locs 0 0 (QI A D cA ad below args s (F_Md_withWords_115 x1 x2 x3 mu).1 nu (F_Md_withWords_115 x1 x2 x3 mu).2) (F0 m 115 ls []) := by
  have hx := C.1
  have hb := C.2.1
  have hts := C.2.2.2.2.2.1
  have hown := C.2.2.2.2.1
  unfold F_Md_withWords_115
  refine lv_iload_n hx hb dX7_withWords_115 rfl (lv_at hl 1 rfl) ?_
  refine lv_bipush (v := 13) hx hb dX7_withWords_116 (by decide) ?_
  refine lv_icmp_ne (tgt := 138) hx hb dX7_withWords_118 (by decide) (fun h118 => ?_) (fun h118 => ?_)
  · rw [if_neg h118]
    refine lv_iconst (v := 0) hx hb dX7_withWords_138 (by decide) ?_
    exact retZ C w dX7_withWords_139 (Or.inl rfl)
  · rw [if_pos h118]
    refine lv_iload_n hx hb dX7_withWords_121 rfl (lv_at hl 3 rfl) ?_
    refine lv_if_ne (tgt := 138) hx hb dX7_withWords_122 (by decide) (fun h122 => ?_) (fun h122 => ?_)
    · rw [if_neg h122]
      refine lv_iconst (v := 0) hx hb dX7_withWords_138 (by decide) ?_
      exact retZ C w dX7_withWords_139 (Or.inl rfl)
    · rw [if_pos h122]
      refine lv_iload_n hx hb dX7_withWords_125 rfl (lv_at hl 2 rfl) ?_
      refine lv_iconst (v := 1) hx hb dX7_withWords_126 (by decide) ?_
      refine lv_icmp_eq (tgt := 138) hx hb dX7_withWords_127 (by decide) (fun h127 => ?_) (fun h127 => ?_)
      · rw [if_pos h127]
        refine lv_iconst (v := 0) hx hb dX7_withWords_138 (by decide) ?_
        exact retZ C w dX7_withWords_139 (Or.inl rfl)
      · rw [if_neg h127]
        refine lv_aload_n hx hb dX7_withWords_130 rfl (lv_at hl 0 rfl) ?_
        refine lv_iload_n hx hb dX7_withWords_131 rfl (lv_at hl 2 rfl) ?_
        refine kcV (k := 12) (ci := 7) (As := [.int x2]) (rest := []) C w rfl rfl (c_Md_call l A D cA tb ad mu nu x2) (cwV 1 hts gX7_withWords_X7_call rfl rfl rfl (by decide +kernel) ⟨Nat.le_of_ble_eq_true rfl, Nat.le_of_ble_eq_true rfl⟩) rfl rfl hl.1 (Nat.le_of_ble_eq_true rfl) dX7_withWords_132 (fun H locs w => ?_)
        refine lv_goto (tgt := 140) hx hb dX7_withWords_135 (by decide) ?_
        refine lv_iconst (v := 1) hx hb dX7_withWords_140 (by decide) ?_
        exact retZ C w dX7_withWords_141 (Or.inr rfl)
def F_Md_withWords_109 (y1 : Int32) (y2 : Int32) (mu : Mu) : Int32 × Mu := (1, (F_Md_writeWord y1 y2 mu))
set_option maxHeartbeats 4000000 in
set_option maxRecDepth 100000 in
theorem k_Md_withWords_109 (C : Cx cX7_withWords 5 (some .boolean) wsX7_withWords RX7 A D cA tb p s m args meth c) {mu nu : Mu} {y1 : Int32} {y2 : Int32} {H : Heap} {locs : List Loc} {ls : Array Slot} (w : Wd A D cA ad s nu mu H locs) (hl : lv_has ls 5 []) : W p l e { frames := 7, cells := 0, slots := 0, locals := 150 } s m args below meth c H locs 0 0 (QI A D cA ad below args s (F_Md_withWords_109 y1 y2 mu).1 nu (F_Md_withWords_109 y1 y2 mu).2) (F0 m 109 ls [.int y2, .int y1, .ref (ad 12)]) := by
  have hx := C.1
  have hb := C.2.1
  have hts := C.2.2.2.2.2.1
  have hown := C.2.2.2.2.1
  unfold F_Md_withWords_109
  refine kcV (k := 12) (ci := 7) (As := [.int y1, .int y2]) (rest := []) C w rfl rfl (c_Md_writeWord l A D cA tb ad mu nu y1 y2) (cwV 2 hts gX7_withWords_X7_writeWord rfl rfl rfl (by decide +kernel) ⟨Nat.le_of_ble_eq_true rfl, Nat.le_of_ble_eq_true rfl⟩) rfl rfl hl.1 (Nat.le_of_ble_eq_true rfl) dX7_withWords_109 (fun H locs w => ?_)
  refine lv_goto (tgt := 140) hx hb dX7_withWords_112 (by decide) ?_
  refine lv_iconst (v := 1) hx hb dX7_withWords_140 (by decide) ?_
  exact retZ C w dX7_withWords_141 (Or.inr rfl)
def F_Md_withWords_106 (y1 : Int32) (y3 : Int32) (mu : Mu) : Int32 × Mu := F_Md_withWords_109 y1 ((F_Md_loaded y3 mu).1) ((F_Md_loaded y3 mu).2)
set_option maxHeartbeats 4000000 in
set_option maxRecDepth 100000 in
theorem k_Md_withWords_106 (C : Cx cX7_withWords 5 (some .boolean) wsX7_withWords RX7 A D cA tb p s m args meth c) {mu nu : Mu} {y1 : Int32} {y3 : Int32} {H : Heap} {locs : List Loc} {ls : Array Slot} (w : Wd A D cA ad s nu mu H locs) (hl : lv_has ls 5 []) : W p l e { frames := 7, cells := 0, slots := 0, locals := 150 } s m args below meth c H locs 0 0 (QI A D cA ad below args s (F_Md_withWords_106 y1 y3 mu).1 nu (F_Md_withWords_106 y1 y3 mu).2) (F0 m 106 ls [.int y3, .ref (ad 12), .int y1, .ref (ad 12)]) := by
  have hx := C.1
  have hb := C.2.1
  have hts := C.2.2.2.2.2.1
  have hown := C.2.2.2.2.1
  unfold F_Md_withWords_106
  refine kcI (k := 12) (ci := 7) (As := [.int y3]) (rest := [.int y1, .ref (ad 12)]) C w rfl rfl (c_Md_loaded l A D cA tb ad mu nu y3) (cwV 1 hts gX7_withWords_X7_loaded rfl rfl rfl (by decide +kernel) ⟨Nat.le_of_ble_eq_true rfl, Nat.le_of_ble_eq_true rfl⟩) rfl rfl hl.1 (Nat.le_of_ble_eq_true rfl) dX7_withWords_106 (fun H locs w => ?_)
  exact k_Md_withWords_109 C w (lv_sub hl [] rfl)
def F_Md_withWords_85 (x3 : Int32) (y0 : Int32) (mu : Mu) : Int32 × Mu := (if x3 = (0 : Int32) then F_Md_withWords_106 y0 (mu 12 5) mu else F_Md_withWords_106 y0 (mu 12 4) mu)
set_option maxHeartbeats 4000000 in
set_option maxRecDepth 100000 in
theorem k_Md_withWords_85 (C : Cx cX7_withWords 5 (some .boolean) wsX7_withWords RX7 A D cA tb p s m args meth c) {mu nu : Mu} {x3 : Int32} {y0 : Int32} {H : Heap} {locs : List Loc} {ls : Array Slot} (w : Wd A D cA ad s nu mu H locs) (hl : lv_has ls 5 [(0, .ref (ad 12)), (3, .int x3)]) : W p l e { frames := 7, cells := 0, slots := 0, locals := 150 } s m args below meth c H locs 0 0 (QI A D cA ad below args s (F_Md_withWords_85 x3 y0 mu).1 nu (F_Md_withWords_85 x3 y0 mu).2) (F0 m 85 ls [.int y0]) := by
  have hx := C.1
  have hb := C.2.1
  have hts := C.2.2.2.2.2.1
  have hown := C.2.2.2.2.1
  unfold F_Md_withWords_85
  refine lv_istore (lv' := [(4, .int y0), (0, .ref (ad 12)), (3, .int x3)]) hx hb dX7_withWords_85 hl (by decide) rfl (fun ls hl => ?_)
  refine lv_aload_n hx hb dX7_withWords_87 rfl (lv_at hl 1 rfl) ?_
  refine lv_iload hx hb dX7_withWords_88 (lv_at hl 0 rfl) ?_
  refine lv_aload_n hx hb dX7_withWords_90 rfl (lv_at hl 1 rfl) ?_
  refine lv_iload_n hx hb dX7_withWords_91 rfl (lv_at hl 2 rfl) ?_
  refine lv_if_eq (tgt := 102) hx hb dX7_withWords_92 (by decide) (fun h92 => ?_) (fun h92 => ?_)
  · rw [if_pos h92]
    refine lv_aload_n hx hb dX7_withWords_102 rfl (lv_at hl 1 rfl) ?_
    refine gt_12_5 C (fun _ h => List.mem_cons_of_mem _ (List.mem_append_right _ h)) (hts _ (List.mem_of_getElem? (i := 2) rfl)) w (v := (mu 12 5)) rfl dX7_withWords_103 ?_
    exact k_Md_withWords_106 C w (lv_sub hl [] rfl)
  · rw [if_neg h92]
    refine lv_aload_n hx hb dX7_withWords_95 rfl (lv_at hl 1 rfl) ?_
    refine gt_12_4 C (fun _ h => List.mem_cons_of_mem _ (List.mem_append_right _ h)) (hts _ (List.mem_of_getElem? (i := 1) rfl)) w (v := (mu 12 4)) rfl dX7_withWords_96 ?_
    refine lv_goto (tgt := 106) hx hb dX7_withWords_99 (by decide) ?_
    exact k_Md_withWords_106 C w (lv_sub hl [] rfl)
def F_Md_withWords_64 (y1 : Int32) (mu : Mu) : Int32 × Mu := (1, (ps mu 12 5 y1))
set_option maxHeartbeats 4000000 in
set_option maxRecDepth 100000 in
theorem k_Md_withWords_64 (C : Cx cX7_withWords 5 (some .boolean) wsX7_withWords RX7 A D cA tb p s m args meth c) {mu nu : Mu} {y1 : Int32} {H : Heap} {locs : List Loc} {ls : Array Slot} (w : Wd A D cA ad s nu mu H locs) (hl : lv_has ls 5 []) : W p l e { frames := 7, cells := 0, slots := 0, locals := 150 } s m args below meth c H locs 0 0 (QI A D cA ad below args s (F_Md_withWords_64 y1 mu).1 nu (F_Md_withWords_64 y1 mu).2) (F0 m 64 ls [.int y1, .ref (ad 12)]) := by
  have hx := C.1
  have hb := C.2.1
  have hts := C.2.2.2.2.2.1
  have hown := C.2.2.2.2.1
  unfold F_Md_withWords_64
  refine pt_12_5 C (fun _ h => List.mem_cons_of_mem _ (List.mem_append_right _ h)) (hts _ (List.mem_of_getElem? (i := 2) rfl)) w dX7_withWords_64 (fun H locs w => ?_)
  refine lv_goto (tgt := 140) hx hb dX7_withWords_67 (by decide) ?_
  refine lv_iconst (v := 1) hx hb dX7_withWords_140 (by decide) ?_
  exact retZ C w dX7_withWords_141 (Or.inr rfl)
def F_Md_withWords_61 (y2 : Int32) (mu : Mu) : Int32 × Mu := F_Md_withWords_64 ((F_Md_loaded y2 mu).1) ((F_Md_loaded y2 mu).2)
set_option maxHeartbeats 4000000 in
set_option maxRecDepth 100000 in
theorem k_Md_withWords_61 (C : Cx cX7_withWords 5 (some .boolean) wsX7_withWords RX7 A D cA tb p s m args meth c) {mu nu : Mu} {y2 : Int32} {H : Heap} {locs : List Loc} {ls : Array Slot} (w : Wd A D cA ad s nu mu H locs) (hl : lv_has ls 5 []) : W p l e { frames := 7, cells := 0, slots := 0, locals := 150 } s m args below meth c H locs 0 0 (QI A D cA ad below args s (F_Md_withWords_61 y2 mu).1 nu (F_Md_withWords_61 y2 mu).2) (F0 m 61 ls [.int y2, .ref (ad 12), .ref (ad 12)]) := by
  have hx := C.1
  have hb := C.2.1
  have hts := C.2.2.2.2.2.1
  have hown := C.2.2.2.2.1
  unfold F_Md_withWords_61
  refine kcI (k := 12) (ci := 7) (As := [.int y2]) (rest := [.ref (ad 12)]) C w rfl rfl (c_Md_loaded l A D cA tb ad mu nu y2) (cwV 1 hts gX7_withWords_X7_loaded rfl rfl rfl (by decide +kernel) ⟨Nat.le_of_ble_eq_true rfl, Nat.le_of_ble_eq_true rfl⟩) rfl rfl hl.1 (Nat.le_of_ble_eq_true rfl) dX7_withWords_61 (fun H locs w => ?_)
  exact k_Md_withWords_64 C w (lv_sub hl [] rfl)
def F_Md_withWords_48 (x1 : Int32) (x2 : Int32) (x3 : Int32) (mu : Mu) : Int32 × Mu := (if x1 = (14 : Int32) then F_Md_withWords_61 ((F_Md_wordOperand x2 mu).1) ((F_Md_wordOperand x2 mu).2) else (if x1 = (15 : Int32) then (if x2 ≤ (0 : Int32) then F_Md_withWords_115 x1 x2 x3 mu else F_Md_withWords_85 x3 ((F_Md_addressOf x2 mu).1) ((F_Md_addressOf x2 mu).2)) else F_Md_withWords_115 x1 x2 x3 mu))
set_option maxHeartbeats 4000000 in
set_option maxRecDepth 100000 in
theorem k_Md_withWords_48 (C : Cx cX7_withWords 5 (some .boolean) wsX7_withWords RX7 A D cA tb p s m args meth c) {mu nu : Mu} {x1 : Int32} {x2 : Int32} {x3 : Int32} {H : Heap} {locs : List Loc} {ls : Array Slot} (w : Wd A D cA ad s nu mu H locs) (hl : lv_has ls 5 [(0, .ref (ad 12)), (1, .int x1), (2, .int x2), (3, .int x3)]) : W p l e { frames := 7, cells := 0, slots := 0, locals := 150 } s m args below meth c H locs 0 0 (QI A D cA ad below args s (F_Md_withWords_48 x1 x2 x3 mu).1 nu (F_Md_withWords_48 x1 x2 x3 mu).2) (F0 m 48 ls []) := by
  have hx := C.1
  have hb := C.2.1
  have hts := C.2.2.2.2.2.1
  have hown := C.2.2.2.2.1
  unfold F_Md_withWords_48
  refine lv_iload_n hx hb dX7_withWords_48 rfl (lv_at hl 1 rfl) ?_
  refine lv_bipush (v := 14) hx hb dX7_withWords_49 (by decide) ?_
  refine lv_icmp_ne (tgt := 70) hx hb dX7_withWords_51 (by decide) (fun h51 => ?_) (fun h51 => ?_)
  · rw [if_neg h51]
    refine lv_iload_n hx hb dX7_withWords_70 rfl (lv_at hl 1 rfl) ?_
    refine lv_bipush (v := 15) hx hb dX7_withWords_71 (by decide) ?_
    refine lv_icmp_ne (tgt := 115) hx hb dX7_withWords_73 (by decide) (fun h73 => ?_) (fun h73 => ?_)
    · rw [if_neg h73]
      exact k_Md_withWords_115 C w (lv_sub hl [0, 1, 2, 3] rfl)
    · rw [if_pos h73]
      refine lv_iload_n hx hb dX7_withWords_76 rfl (lv_at hl 2 rfl) ?_
      refine lv_if_le (tgt := 115) hx hb dX7_withWords_77 (by decide) (fun h77 => ?_) (fun h77 => ?_)
      · rw [if_pos h77]
        exact k_Md_withWords_115 C w (lv_sub hl [0, 1, 2, 3] rfl)
      · rw [if_neg h77]
        refine lv_aload_n hx hb dX7_withWords_80 rfl (lv_at hl 0 rfl) ?_
        refine lv_iload_n hx hb dX7_withWords_81 rfl (lv_at hl 2 rfl) ?_
        refine kcI (k := 12) (ci := 7) (As := [.int x2]) (rest := []) C w rfl rfl (c_Md_addressOf l A D cA tb ad mu nu x2) (cwV 1 hts gX7_withWords_X7_addressOf rfl rfl rfl (by decide +kernel) ⟨Nat.le_of_ble_eq_true rfl, Nat.le_of_ble_eq_true rfl⟩) rfl rfl hl.1 (Nat.le_of_ble_eq_true rfl) dX7_withWords_82 (fun H locs w => ?_)
        exact k_Md_withWords_85 C w (lv_sub hl [0, 3] rfl)
  · rw [if_pos h51]
    refine lv_aload_n hx hb dX7_withWords_54 rfl (lv_at hl 0 rfl) ?_
    refine lv_aload_n hx hb dX7_withWords_55 rfl (lv_at hl 0 rfl) ?_
    refine lv_aload_n hx hb dX7_withWords_56 rfl (lv_at hl 0 rfl) ?_
    refine lv_iload_n hx hb dX7_withWords_57 rfl (lv_at hl 2 rfl) ?_
    refine kcI (k := 12) (ci := 7) (As := [.int x2]) (rest := [.ref (ad 12), .ref (ad 12)]) C w rfl rfl (c_Md_wordOperand l A D cA tb ad mu nu x2) (cwV 1 hts gX7_withWords_X7_wordOperand rfl rfl rfl (by decide +kernel) ⟨Nat.le_of_ble_eq_true rfl, Nat.le_of_ble_eq_true rfl⟩) rfl rfl hl.1 (Nat.le_of_ble_eq_true rfl) dX7_withWords_58 (fun H locs w => ?_)
    exact k_Md_withWords_61 C w (lv_sub hl [] rfl)
def F_Md_withWords_42 (y1 : Int32) (mu : Mu) : Int32 × Mu := (1, (ps mu 12 4 y1))
set_option maxHeartbeats 4000000 in
set_option maxRecDepth 100000 in
theorem k_Md_withWords_42 (C : Cx cX7_withWords 5 (some .boolean) wsX7_withWords RX7 A D cA tb p s m args meth c) {mu nu : Mu} {y1 : Int32} {H : Heap} {locs : List Loc} {ls : Array Slot} (w : Wd A D cA ad s nu mu H locs) (hl : lv_has ls 5 []) : W p l e { frames := 7, cells := 0, slots := 0, locals := 150 } s m args below meth c H locs 0 0 (QI A D cA ad below args s (F_Md_withWords_42 y1 mu).1 nu (F_Md_withWords_42 y1 mu).2) (F0 m 42 ls [.int y1, .ref (ad 12)]) := by
  have hx := C.1
  have hb := C.2.1
  have hts := C.2.2.2.2.2.1
  have hown := C.2.2.2.2.1
  unfold F_Md_withWords_42
  refine pt_12_4 C (fun _ h => List.mem_cons_of_mem _ (List.mem_append_right _ h)) (hts _ (List.mem_of_getElem? (i := 1) rfl)) w dX7_withWords_42 (fun H locs w => ?_)
  refine lv_goto (tgt := 140) hx hb dX7_withWords_45 (by decide) ?_
  refine lv_iconst (v := 1) hx hb dX7_withWords_140 (by decide) ?_
  exact retZ C w dX7_withWords_141 (Or.inr rfl)
def F_Md_withWords_39 (y2 : Int32) (mu : Mu) : Int32 × Mu := F_Md_withWords_42 ((F_Md_loaded y2 mu).1) ((F_Md_loaded y2 mu).2)
set_option maxHeartbeats 4000000 in
set_option maxRecDepth 100000 in
theorem k_Md_withWords_39 (C : Cx cX7_withWords 5 (some .boolean) wsX7_withWords RX7 A D cA tb p s m args meth c) {mu nu : Mu} {y2 : Int32} {H : Heap} {locs : List Loc} {ls : Array Slot} (w : Wd A D cA ad s nu mu H locs) (hl : lv_has ls 5 []) : W p l e { frames := 7, cells := 0, slots := 0, locals := 150 } s m args below meth c H locs 0 0 (QI A D cA ad below args s (F_Md_withWords_39 y2 mu).1 nu (F_Md_withWords_39 y2 mu).2) (F0 m 39 ls [.int y2, .ref (ad 12), .ref (ad 12)]) := by
  have hx := C.1
  have hb := C.2.1
  have hts := C.2.2.2.2.2.1
  have hown := C.2.2.2.2.1
  unfold F_Md_withWords_39
  refine kcI (k := 12) (ci := 7) (As := [.int y2]) (rest := [.ref (ad 12)]) C w rfl rfl (c_Md_loaded l A D cA tb ad mu nu y2) (cwV 1 hts gX7_withWords_X7_loaded rfl rfl rfl (by decide +kernel) ⟨Nat.le_of_ble_eq_true rfl, Nat.le_of_ble_eq_true rfl⟩) rfl rfl hl.1 (Nat.le_of_ble_eq_true rfl) dX7_withWords_39 (fun H locs w => ?_)
  exact k_Md_withWords_42 C w (lv_sub hl [] rfl)
def F_Md_withWords_22 (x1 : Int32) (x2 : Int32) (x3 : Int32) (mu : Mu) : Int32 × Mu := (if x1 = (14 : Int32) then (if x3 = (0 : Int32) then F_Md_withWords_48 x1 x2 x3 mu else F_Md_withWords_39 ((F_Md_wordOperand x2 mu).1) ((F_Md_wordOperand x2 mu).2)) else F_Md_withWords_48 x1 x2 x3 mu)
set_option maxHeartbeats 4000000 in
set_option maxRecDepth 100000 in
theorem k_Md_withWords_22 (C : Cx cX7_withWords 5 (some .boolean) wsX7_withWords RX7 A D cA tb p s m args meth c) {mu nu : Mu} {x1 : Int32} {x2 : Int32} {x3 : Int32} {H : Heap} {locs : List Loc} {ls : Array Slot} (w : Wd A D cA ad s nu mu H locs) (hl : lv_has ls 5 [(0, .ref (ad 12)), (1, .int x1), (2, .int x2), (3, .int x3)]) : W p l e { frames := 7, cells := 0, slots := 0, locals := 150 } s m args below meth c H locs 0 0 (QI A D cA ad below args s (F_Md_withWords_22 x1 x2 x3 mu).1 nu (F_Md_withWords_22 x1 x2 x3 mu).2) (F0 m 22 ls []) := by
  have hx := C.1
  have hb := C.2.1
  have hts := C.2.2.2.2.2.1
  have hown := C.2.2.2.2.1
  unfold F_Md_withWords_22
  refine lv_iload_n hx hb dX7_withWords_22 rfl (lv_at hl 1 rfl) ?_
  refine lv_bipush (v := 14) hx hb dX7_withWords_23 (by decide) ?_
  refine lv_icmp_ne (tgt := 48) hx hb dX7_withWords_25 (by decide) (fun h25 => ?_) (fun h25 => ?_)
  · rw [if_neg h25]
    exact k_Md_withWords_48 C w (lv_sub hl [0, 1, 2, 3] rfl)
  · rw [if_pos h25]
    refine lv_iload_n hx hb dX7_withWords_28 rfl (lv_at hl 3 rfl) ?_
    refine lv_if_eq (tgt := 48) hx hb dX7_withWords_29 (by decide) (fun h29 => ?_) (fun h29 => ?_)
    · rw [if_pos h29]
      exact k_Md_withWords_48 C w (lv_sub hl [0, 1, 2, 3] rfl)
    · rw [if_neg h29]
      refine lv_aload_n hx hb dX7_withWords_32 rfl (lv_at hl 0 rfl) ?_
      refine lv_aload_n hx hb dX7_withWords_33 rfl (lv_at hl 0 rfl) ?_
      refine lv_aload_n hx hb dX7_withWords_34 rfl (lv_at hl 0 rfl) ?_
      refine lv_iload_n hx hb dX7_withWords_35 rfl (lv_at hl 2 rfl) ?_
      refine kcI (k := 12) (ci := 7) (As := [.int x2]) (rest := [.ref (ad 12), .ref (ad 12)]) C w rfl rfl (c_Md_wordOperand l A D cA tb ad mu nu x2) (cwV 1 hts gX7_withWords_X7_wordOperand rfl rfl rfl (by decide +kernel) ⟨Nat.le_of_ble_eq_true rfl, Nat.le_of_ble_eq_true rfl⟩) rfl rfl hl.1 (Nat.le_of_ble_eq_true rfl) dX7_withWords_36 (fun H locs w => ?_)
      exact k_Md_withWords_39 C w (lv_sub hl [] rfl)
def F_Md_withWords_16 (y1 : Int32) (mu : Mu) : Int32 × Mu := (1, (F_Md_compareX y1 mu))
set_option maxHeartbeats 4000000 in
set_option maxRecDepth 100000 in
theorem k_Md_withWords_16 (C : Cx cX7_withWords 5 (some .boolean) wsX7_withWords RX7 A D cA tb p s m args meth c) {mu nu : Mu} {y1 : Int32} {H : Heap} {locs : List Loc} {ls : Array Slot} (w : Wd A D cA ad s nu mu H locs) (hl : lv_has ls 5 []) : W p l e { frames := 7, cells := 0, slots := 0, locals := 150 } s m args below meth c H locs 0 0 (QI A D cA ad below args s (F_Md_withWords_16 y1 mu).1 nu (F_Md_withWords_16 y1 mu).2) (F0 m 16 ls [.int y1, .ref (ad 12)]) := by
  have hx := C.1
  have hb := C.2.1
  have hts := C.2.2.2.2.2.1
  have hown := C.2.2.2.2.1
  unfold F_Md_withWords_16
  refine kcV (k := 12) (ci := 7) (As := [.int y1]) (rest := []) C w rfl rfl (c_Md_compareX l A D cA tb ad mu nu y1) (cwV 1 hts gX7_withWords_X7_compareX rfl rfl rfl (by decide +kernel) ⟨Nat.le_of_ble_eq_true rfl, Nat.le_of_ble_eq_true rfl⟩) rfl rfl hl.1 (Nat.le_of_ble_eq_true rfl) dX7_withWords_16 (fun H locs w => ?_)
  refine lv_goto (tgt := 140) hx hb dX7_withWords_19 (by decide) ?_
  refine lv_iconst (v := 1) hx hb dX7_withWords_140 (by decide) ?_
  exact retZ C w dX7_withWords_141 (Or.inr rfl)
def F_Md_withWords (x1 : Int32) (x2 : Int32) (x3 : Int32) (mu : Mu) : Int32 × Mu := (if x1 = (12 : Int32) then (if x3 = (0 : Int32) then F_Md_withWords_16 ((F_Md_wordOperand x2 mu).1) ((F_Md_wordOperand x2 mu).2) else F_Md_withWords_22 x1 x2 x3 mu) else F_Md_withWords_22 x1 x2 x3 mu)
set_option maxHeartbeats 4000000 in
set_option maxRecDepth 100000 in
theorem k_Md_withWords (C : Cx cX7_withWords 5 (some .boolean) wsX7_withWords RX7 A D cA tb p s m args meth c) {mu nu : Mu} {x1 : Int32} {x2 : Int32} {x3 : Int32} {H : Heap} {locs : List Loc} {ls : Array Slot} (w : Wd A D cA ad s nu mu H locs) (hl : lv_has ls 5 [(0, .ref (ad 12)), (1, .int x1), (2, .int x2), (3, .int x3)]) : W p l e { frames := 7, cells := 0, slots := 0, locals := 150 } s m args below meth c H locs 0 0 (QI A D cA ad below args s (F_Md_withWords x1 x2 x3 mu).1 nu (F_Md_withWords x1 x2 x3 mu).2) (F0 m 0 ls []) := by
  have hx := C.1
  have hb := C.2.1
  have hts := C.2.2.2.2.2.1
  have hown := C.2.2.2.2.1
  unfold F_Md_withWords
  refine lv_iload_n hx hb dX7_withWords_0 rfl (lv_at hl 1 rfl) ?_
  refine lv_bipush (v := 12) hx hb dX7_withWords_1 (by decide) ?_
  refine lv_icmp_ne (tgt := 22) hx hb dX7_withWords_3 (by decide) (fun h3 => ?_) (fun h3 => ?_)
  · rw [if_neg h3]
    exact k_Md_withWords_22 C w (lv_sub hl [0, 1, 2, 3] rfl)
  · rw [if_pos h3]
    refine lv_iload_n hx hb dX7_withWords_6 rfl (lv_at hl 3 rfl) ?_
    refine lv_if_ne (tgt := 22) hx hb dX7_withWords_7 (by decide) (fun h7 => ?_) (fun h7 => ?_)
    · rw [if_neg h7]
      exact k_Md_withWords_22 C w (lv_sub hl [0, 1, 2, 3] rfl)
    · rw [if_pos h7]
      refine lv_aload_n hx hb dX7_withWords_10 rfl (lv_at hl 0 rfl) ?_
      refine lv_aload_n hx hb dX7_withWords_11 rfl (lv_at hl 0 rfl) ?_
      refine lv_iload_n hx hb dX7_withWords_12 rfl (lv_at hl 2 rfl) ?_
      refine kcI (k := 12) (ci := 7) (As := [.int x2]) (rest := [.ref (ad 12)]) C w rfl rfl (c_Md_wordOperand l A D cA tb ad mu nu x2) (cwV 1 hts gX7_withWords_X7_wordOperand rfl rfl rfl (by decide +kernel) ⟨Nat.le_of_ble_eq_true rfl, Nat.le_of_ble_eq_true rfl⟩) rfl rfl hl.1 (Nat.le_of_ble_eq_true rfl) dX7_withWords_13 (fun H locs w => ?_)
      exact k_Md_withWords_16 C w (lv_sub hl [] rfl)
set_option maxHeartbeats 4000000 in
set_option maxRecDepth 100000 in
theorem c_Md_withWords (l : Launch) (A : Nat → Prop) (D : va_G) (cA : Nat → ClassId) (tb : Nat) (ad : Nat → Nat) (mu nu : Mu) (x1 : Int32) (x2 : Int32) (x3 : Int32) : Met l yX7_withWords wsX7_withWords ({ frames := 7, cells := 0, slots := 0, locals := 150 }) (va_Pc [.ref (ad 12), .int x1, .int x2, .int x3] (Pw A D cA tb ad nu mu)) (va_Qi (fun (r : Int32) (u : Mu × Mu) => r = (F_Md_withWords x1 x2 x3 mu).1 ∧ u = (nu, (F_Md_withWords x1 x2 x3 mu).2)) (Bw A D cA ad) A) 0 0 A := by
  refine Met.ofW (cc := cX7_withWords) (maxL := 5) (ret := (some .boolean)) (by decide) rfl ?_
  intro p e s m args below meth c s₁ B hml hv
  obtain ⟨rfl, w0⟩ := hv
  have C : Cx cX7_withWords 5 (some .boolean) wsX7_withWords RX7 A D cA tb p s m _ meth c := ⟨B.exec, B.bytes, B.returns, hml, findClass_of_methodNamed B.named, atoms_spec (ws := wsX7_withWords) B.pre, B.notSynchronized, w0.2.1, w0.2.2.2.1, w0.2.2.2.2⟩
  have hl := lv_entry ([.ref (ad 12), .int x1, .int x2, .int x3]) (n := 5) (Nat.le_of_ble_eq_true rfl)
  rw [lg_entry_eq]
  exact k_Md_withWords C w0.wd hl
theorem z_Md_withWords {x1 : Int32} {x2 : Int32} {x3 : Int32} {mu : Mu} : (F_Md_withWords x1 x2 x3 mu).1 = 0 ∨ (F_Md_withWords x1 x2 x3 mu).1 = 1 := by
  simp only [F_Md_withWords, F_Md_withWords_22, F_Md_withWords_48, F_Md_withWords_115, F_Md_withWords_85, F_Md_withWords_106, F_Md_withWords_109, F_Md_withWords_61, F_Md_withWords_64, F_Md_withWords_39, F_Md_withWords_42, F_Md_withWords_16]
  repeat' split
  all_goals first | exact Or.inl rfl | exact Or.inr rfl
def F_Md_operand_17 (y1 : Int32) (mu : Mu) : Int32 × Mu := ((F_Md_read y1 mu).1, (F_Md_read y1 mu).2)
set_option maxHeartbeats 4000000 in
set_option maxRecDepth 100000 in
theorem k_Md_operand_17 (C : Cx cX7_operand 2 (some .int) wsX7_operand RX7 A D cA tb p s m args meth c) {mu nu : Mu} {y1 : Int32} {H : Heap} {locs : List Loc} {ls : Array Slot} (w : Wd A D cA ad s nu mu H locs) (hl : lv_has ls 2 []) : W p l e { frames := 6, cells := 0, slots := 0, locals := 128 } s m args below meth c H locs 0 0 (QI A D cA ad below args s (F_Md_operand_17 y1 mu).1 nu (F_Md_operand_17 y1 mu).2) (F0 m 17 ls [.int y1, .ref (ad 12)]) := by
  have hx := C.1
  have hb := C.2.1
  have hts := C.2.2.2.2.2.1
  have hown := C.2.2.2.2.1
  unfold F_Md_operand_17
  refine kcI (k := 12) (ci := 7) (As := [.int y1]) (rest := []) C w rfl rfl (c_Md_read l A D cA tb ad mu nu y1) (cwV 1 hts gX7_operand_X7_read rfl rfl rfl (by decide +kernel) ⟨Nat.le_of_ble_eq_true rfl, Nat.le_of_ble_eq_true rfl⟩) rfl rfl hl.1 (Nat.le_of_ble_eq_true rfl) dX7_operand_17 (fun H locs w => ?_)
  exact retI C w dX7_operand_20
def F_Md_operand (x1 : Int32) (mu : Mu) : Int32 × Mu := (if x1 = (0 : Int32) then ((F_Md_next mu).1, (F_Md_next mu).2) else F_Md_operand_17 ((F_Md_addressOf x1 mu).1) ((F_Md_addressOf x1 mu).2))
set_option maxHeartbeats 4000000 in
set_option maxRecDepth 100000 in
theorem k_Md_operand (C : Cx cX7_operand 2 (some .int) wsX7_operand RX7 A D cA tb p s m args meth c) {mu nu : Mu} {x1 : Int32} {H : Heap} {locs : List Loc} {ls : Array Slot} (w : Wd A D cA ad s nu mu H locs) (hl : lv_has ls 2 [(0, .ref (ad 12)), (1, .int x1)]) : W p l e { frames := 6, cells := 0, slots := 0, locals := 128 } s m args below meth c H locs 0 0 (QI A D cA ad below args s (F_Md_operand x1 mu).1 nu (F_Md_operand x1 mu).2) (F0 m 0 ls []) := by
  have hx := C.1
  have hb := C.2.1
  have hts := C.2.2.2.2.2.1
  have hown := C.2.2.2.2.1
  unfold F_Md_operand
  refine lv_iload_n hx hb dX7_operand_0 rfl (lv_at hl 1 rfl) ?_
  refine lv_if_ne (tgt := 11) hx hb dX7_operand_1 (by decide) (fun h1 => ?_) (fun h1 => ?_)
  · rw [if_neg h1]
    refine lv_aload_n hx hb dX7_operand_11 rfl (lv_at hl 0 rfl) ?_
    refine lv_aload_n hx hb dX7_operand_12 rfl (lv_at hl 0 rfl) ?_
    refine lv_iload_n hx hb dX7_operand_13 rfl (lv_at hl 1 rfl) ?_
    refine kcI (k := 12) (ci := 7) (As := [.int x1]) (rest := [.ref (ad 12)]) C w rfl rfl (c_Md_addressOf l A D cA tb ad mu nu x1) (cwV 1 hts gX7_operand_X7_addressOf rfl rfl rfl (by decide +kernel) ⟨Nat.le_of_ble_eq_true rfl, Nat.le_of_ble_eq_true rfl⟩) rfl rfl hl.1 (Nat.le_of_ble_eq_true rfl) dX7_operand_14 (fun H locs w => ?_)
    exact k_Md_operand_17 C w (lv_sub hl [] rfl)
  · rw [if_pos h1]
    refine lv_aload_n hx hb dX7_operand_4 rfl (lv_at hl 0 rfl) ?_
    refine kcI (k := 12) (ci := 7) (As := []) (rest := []) C w rfl rfl (c_Md_next l A D cA tb ad mu nu) (cwV 0 hts gX7_operand_X7_next rfl rfl rfl (by decide +kernel) ⟨Nat.le_of_ble_eq_true rfl, Nat.le_of_ble_eq_true rfl⟩) rfl rfl hl.1 (Nat.le_of_ble_eq_true rfl) dX7_operand_5 (fun H locs w => ?_)
    refine lv_goto (tgt := 20) hx hb dX7_operand_8 (by decide) ?_
    exact retI C w dX7_operand_20
set_option maxHeartbeats 4000000 in
set_option maxRecDepth 100000 in
theorem c_Md_operand (l : Launch) (A : Nat → Prop) (D : va_G) (cA : Nat → ClassId) (tb : Nat) (ad : Nat → Nat) (mu nu : Mu) (x1 : Int32) : Met l yX7_operand wsX7_operand ({ frames := 6, cells := 0, slots := 0, locals := 128 }) (va_Pc [.ref (ad 12), .int x1] (Pw A D cA tb ad nu mu)) (va_Qi (fun (r : Int32) (u : Mu × Mu) => r = (F_Md_operand x1 mu).1 ∧ u = (nu, (F_Md_operand x1 mu).2)) (Bw A D cA ad) A) 0 0 A := by
  refine Met.ofW (cc := cX7_operand) (maxL := 2) (ret := (some .int)) (by decide) rfl ?_
  intro p e s m args below meth c s₁ B hml hv
  obtain ⟨rfl, w0⟩ := hv
  have C : Cx cX7_operand 2 (some .int) wsX7_operand RX7 A D cA tb p s m _ meth c := ⟨B.exec, B.bytes, B.returns, hml, findClass_of_methodNamed B.named, atoms_spec (ws := wsX7_operand) B.pre, B.notSynchronized, w0.2.1, w0.2.2.2.1, w0.2.2.2.2⟩
  have hl := lv_entry ([.ref (ad 12), .int x1]) (n := 2) (Nat.le_of_ble_eq_true rfl)
  rw [lg_entry_eq]
  exact k_Md_operand C w0.wd hl
end
