section
variable {p : Program} {l : Launch} {e : Env} {s : State} {m : MethodId} {args : Array Value} {below : List Frame} {meth : Method} {c : Code} 
variable {A : Nat → Prop} {D : va_G} {cA : Nat → ClassId} {tb : Nat} {ad : Nat → Nat}
def F_Md_first_180 (y1 : Int32) (y2 : Int32) (mu : Mu) : Int32 × Mu := (1, (F_Md_tell y1 y2 mu))
set_option maxHeartbeats 4000000 in
set_option maxRecDepth 100000 in
theorem k_Md_first_180 (C : Cx cX7_first 2 (some .boolean) wsX7_first RX7 A D cA tb p s m args meth c) {mu nu : Mu} {y1 : Int32} {y2 : Int32} {H : Heap} {locs : List Loc} {ls : Array Slot} (w : Wd A D cA ad s nu mu H locs) (hl : lv_has ls 2 []) : W p l e { frames := 4, cells := 0, slots := 0, locals := 88 } s m args below meth c H locs 0 0 (QI A D cA ad below args s (F_Md_first_180 y1 y2 mu).1 nu (F_Md_first_180 y1 y2 mu).2) (F0 m 180 ls [.int y2, .int y1, .ref (ad 12)]) := by
  have hx := C.1
  have hb := C.2.1
  have hts := C.2.2.2.2.2.1
  have hown := C.2.2.2.2.1
  unfold F_Md_first_180
  refine kcV (k := 12) (ci := 7) (As := [.int y1, .int y2]) (rest := []) C w rfl rfl (c_Md_tell l A D cA tb ad mu nu y1 y2) (cwV 2 hts gX7_first_X7_tell rfl rfl rfl (by decide +kernel) ⟨Nat.le_of_ble_eq_true rfl, Nat.le_of_ble_eq_true rfl⟩) rfl rfl hl.1 (Nat.le_of_ble_eq_true rfl) dX7_first_180 (fun H locs w => ?_)
  refine lv_iconst (v := 1) hx hb dX7_first_183 (by decide) ?_
  exact retZ C w dX7_first_184 (Or.inr rfl)
def F_Md_first_212 (y1 : Int32) (y2 : Int32) (mu : Mu) : Int32 × Mu := (1, (F_Md_tell y1 y2 mu))
set_option maxHeartbeats 4000000 in
set_option maxRecDepth 100000 in
theorem k_Md_first_212 (C : Cx cX7_first 2 (some .boolean) wsX7_first RX7 A D cA tb p s m args meth c) {mu nu : Mu} {y1 : Int32} {y2 : Int32} {H : Heap} {locs : List Loc} {ls : Array Slot} (w : Wd A D cA ad s nu mu H locs) (hl : lv_has ls 2 []) : W p l e { frames := 4, cells := 0, slots := 0, locals := 88 } s m args below meth c H locs 0 0 (QI A D cA ad below args s (F_Md_first_212 y1 y2 mu).1 nu (F_Md_first_212 y1 y2 mu).2) (F0 m 212 ls [.int y2, .int y1, .ref (ad 12)]) := by
  have hx := C.1
  have hb := C.2.1
  have hts := C.2.2.2.2.2.1
  have hown := C.2.2.2.2.1
  unfold F_Md_first_212
  refine kcV (k := 12) (ci := 7) (As := [.int y1, .int y2]) (rest := []) C w rfl rfl (c_Md_tell l A D cA tb ad mu nu y1 y2) (cwV 2 hts gX7_first_X7_tell rfl rfl rfl (by decide +kernel) ⟨Nat.le_of_ble_eq_true rfl, Nat.le_of_ble_eq_true rfl⟩) rfl rfl hl.1 (Nat.le_of_ble_eq_true rfl) dX7_first_212 (fun H locs w => ?_)
  refine lv_iconst (v := 1) hx hb dX7_first_215 (by decide) ?_
  exact retZ C w dX7_first_216 (Or.inr rfl)
def F_Md_first_230 (y1 : Int32) (y2 : Int32) (mu : Mu) : Int32 × Mu := (1, (F_Md_tell y1 y2 mu))
set_option maxHeartbeats 4000000 in
set_option maxRecDepth 100000 in
theorem k_Md_first_230 (C : Cx cX7_first 2 (some .boolean) wsX7_first RX7 A D cA tb p s m args meth c) {mu nu : Mu} {y1 : Int32} {y2 : Int32} {H : Heap} {locs : List Loc} {ls : Array Slot} (w : Wd A D cA ad s nu mu H locs) (hl : lv_has ls 2 []) : W p l e { frames := 4, cells := 0, slots := 0, locals := 88 } s m args below meth c H locs 0 0 (QI A D cA ad below args s (F_Md_first_230 y1 y2 mu).1 nu (F_Md_first_230 y1 y2 mu).2) (F0 m 230 ls [.int y2, .int y1, .ref (ad 12)]) := by
  have hx := C.1
  have hb := C.2.1
  have hts := C.2.2.2.2.2.1
  have hown := C.2.2.2.2.1
  unfold F_Md_first_230
  refine kcV (k := 12) (ci := 7) (As := [.int y1, .int y2]) (rest := []) C w rfl rfl (c_Md_tell l A D cA tb ad mu nu y1 y2) (cwV 2 hts gX7_first_X7_tell rfl rfl rfl (by decide +kernel) ⟨Nat.le_of_ble_eq_true rfl, Nat.le_of_ble_eq_true rfl⟩) rfl rfl hl.1 (Nat.le_of_ble_eq_true rfl) dX7_first_230 (fun H locs w => ?_)
  refine lv_iconst (v := 1) hx hb dX7_first_233 (by decide) ?_
  exact retZ C w dX7_first_234 (Or.inr rfl)
def F_Md_first_217 (x1 : Int32) (mu : Mu) : Int32 × Mu := (if x1 = (11 : Int32) then F_Md_first_230 2 1 mu else F_Md_first_230 2 0 mu)
set_option maxHeartbeats 4000000 in
set_option maxRecDepth 100000 in
theorem k_Md_first_217 (C : Cx cX7_first 2 (some .boolean) wsX7_first RX7 A D cA tb p s m args meth c) {mu nu : Mu} {x1 : Int32} {H : Heap} {locs : List Loc} {ls : Array Slot} (w : Wd A D cA ad s nu mu H locs) (hl : lv_has ls 2 [(0, .ref (ad 12)), (1, .int x1)]) : W p l e { frames := 4, cells := 0, slots := 0, locals := 88 } s m args below meth c H locs 0 0 (QI A D cA ad below args s (F_Md_first_217 x1 mu).1 nu (F_Md_first_217 x1 mu).2) (F0 m 217 ls []) := by
  have hx := C.1
  have hb := C.2.1
  have hts := C.2.2.2.2.2.1
  have hown := C.2.2.2.2.1
  unfold F_Md_first_217
  refine lv_aload_n hx hb dX7_first_217 rfl (lv_at hl 0 rfl) ?_
  refine lv_iconst (v := 2) hx hb dX7_first_218 (by decide) ?_
  refine lv_iload_n hx hb dX7_first_219 rfl (lv_at hl 1 rfl) ?_
  refine lv_bipush (v := 11) hx hb dX7_first_220 (by decide) ?_
  refine lv_icmp_ne (tgt := 229) hx hb dX7_first_222 (by decide) (fun h222 => ?_) (fun h222 => ?_)
  · rw [if_neg h222]
    refine lv_iconst (v := 0) hx hb dX7_first_229 (by decide) ?_
    exact k_Md_first_230 C w (lv_sub hl [] rfl)
  · rw [if_pos h222]
    refine lv_iconst (v := 1) hx hb dX7_first_225 (by decide) ?_
    refine lv_goto (tgt := 230) hx hb dX7_first_226 (by decide) ?_
    exact k_Md_first_230 C w (lv_sub hl [] rfl)
def F_Md_first_248 (y1 : Int32) (y2 : Int32) (mu : Mu) : Int32 × Mu := (1, (F_Md_tell y1 y2 mu))
set_option maxHeartbeats 4000000 in
set_option maxRecDepth 100000 in
theorem k_Md_first_248 (C : Cx cX7_first 2 (some .boolean) wsX7_first RX7 A D cA tb p s m args meth c) {mu nu : Mu} {y1 : Int32} {y2 : Int32} {H : Heap} {locs : List Loc} {ls : Array Slot} (w : Wd A D cA ad s nu mu H locs) (hl : lv_has ls 2 []) : W p l e { frames := 4, cells := 0, slots := 0, locals := 88 } s m args below meth c H locs 0 0 (QI A D cA ad below args s (F_Md_first_248 y1 y2 mu).1 nu (F_Md_first_248 y1 y2 mu).2) (F0 m 248 ls [.int y2, .int y1, .ref (ad 12)]) := by
  have hx := C.1
  have hb := C.2.1
  have hts := C.2.2.2.2.2.1
  have hown := C.2.2.2.2.1
  unfold F_Md_first_248
  refine kcV (k := 12) (ci := 7) (As := [.int y1, .int y2]) (rest := []) C w rfl rfl (c_Md_tell l A D cA tb ad mu nu y1 y2) (cwV 2 hts gX7_first_X7_tell rfl rfl rfl (by decide +kernel) ⟨Nat.le_of_ble_eq_true rfl, Nat.le_of_ble_eq_true rfl⟩) rfl rfl hl.1 (Nat.le_of_ble_eq_true rfl) dX7_first_248 (fun H locs w => ?_)
  refine lv_iconst (v := 1) hx hb dX7_first_251 (by decide) ?_
  exact retZ C w dX7_first_252 (Or.inr rfl)
def F_Md_first_235 (x1 : Int32) (mu : Mu) : Int32 × Mu := (if x1 = (13 : Int32) then F_Md_first_248 1 1 mu else F_Md_first_248 1 0 mu)
set_option maxHeartbeats 4000000 in
set_option maxRecDepth 100000 in
theorem k_Md_first_235 (C : Cx cX7_first 2 (some .boolean) wsX7_first RX7 A D cA tb p s m args meth c) {mu nu : Mu} {x1 : Int32} {H : Heap} {locs : List Loc} {ls : Array Slot} (w : Wd A D cA ad s nu mu H locs) (hl : lv_has ls 2 [(0, .ref (ad 12)), (1, .int x1)]) : W p l e { frames := 4, cells := 0, slots := 0, locals := 88 } s m args below meth c H locs 0 0 (QI A D cA ad below args s (F_Md_first_235 x1 mu).1 nu (F_Md_first_235 x1 mu).2) (F0 m 235 ls []) := by
  have hx := C.1
  have hb := C.2.1
  have hts := C.2.2.2.2.2.1
  have hown := C.2.2.2.2.1
  unfold F_Md_first_235
  refine lv_aload_n hx hb dX7_first_235 rfl (lv_at hl 0 rfl) ?_
  refine lv_iconst (v := 1) hx hb dX7_first_236 (by decide) ?_
  refine lv_iload_n hx hb dX7_first_237 rfl (lv_at hl 1 rfl) ?_
  refine lv_bipush (v := 13) hx hb dX7_first_238 (by decide) ?_
  refine lv_icmp_ne (tgt := 247) hx hb dX7_first_240 (by decide) (fun h240 => ?_) (fun h240 => ?_)
  · rw [if_neg h240]
    refine lv_iconst (v := 0) hx hb dX7_first_247 (by decide) ?_
    exact k_Md_first_248 C w (lv_sub hl [] rfl)
  · rw [if_pos h240]
    refine lv_iconst (v := 1) hx hb dX7_first_243 (by decide) ?_
    refine lv_goto (tgt := 248) hx hb dX7_first_244 (by decide) ?_
    exact k_Md_first_248 C w (lv_sub hl [] rfl)
def F_Md_first_267 (y1 : Int32) (y2 : Int32) (mu : Mu) : Int32 × Mu := (1, (F_Md_tell y1 y2 mu))
set_option maxHeartbeats 4000000 in
set_option maxRecDepth 100000 in
theorem k_Md_first_267 (C : Cx cX7_first 2 (some .boolean) wsX7_first RX7 A D cA tb p s m args meth c) {mu nu : Mu} {y1 : Int32} {y2 : Int32} {H : Heap} {locs : List Loc} {ls : Array Slot} (w : Wd A D cA ad s nu mu H locs) (hl : lv_has ls 2 []) : W p l e { frames := 4, cells := 0, slots := 0, locals := 88 } s m args below meth c H locs 0 0 (QI A D cA ad below args s (F_Md_first_267 y1 y2 mu).1 nu (F_Md_first_267 y1 y2 mu).2) (F0 m 267 ls [.int y2, .int y1, .ref (ad 12)]) := by
  have hx := C.1
  have hb := C.2.1
  have hts := C.2.2.2.2.2.1
  have hown := C.2.2.2.2.1
  unfold F_Md_first_267
  refine kcV (k := 12) (ci := 7) (As := [.int y1, .int y2]) (rest := []) C w rfl rfl (c_Md_tell l A D cA tb ad mu nu y1 y2) (cwV 2 hts gX7_first_X7_tell rfl rfl rfl (by decide +kernel) ⟨Nat.le_of_ble_eq_true rfl, Nat.le_of_ble_eq_true rfl⟩) rfl rfl hl.1 (Nat.le_of_ble_eq_true rfl) dX7_first_267 (fun H locs w => ?_)
  refine lv_iconst (v := 1) hx hb dX7_first_270 (by decide) ?_
  exact retZ C w dX7_first_271 (Or.inr rfl)
def F_Md_first_253 (x1 : Int32) (mu : Mu) : Int32 × Mu := (if x1 = (15 : Int32) then F_Md_first_267 16 1 mu else F_Md_first_267 16 0 mu)
set_option maxHeartbeats 4000000 in
set_option maxRecDepth 100000 in
theorem k_Md_first_253 (C : Cx cX7_first 2 (some .boolean) wsX7_first RX7 A D cA tb p s m args meth c) {mu nu : Mu} {x1 : Int32} {H : Heap} {locs : List Loc} {ls : Array Slot} (w : Wd A D cA ad s nu mu H locs) (hl : lv_has ls 2 [(0, .ref (ad 12)), (1, .int x1)]) : W p l e { frames := 4, cells := 0, slots := 0, locals := 88 } s m args below meth c H locs 0 0 (QI A D cA ad below args s (F_Md_first_253 x1 mu).1 nu (F_Md_first_253 x1 mu).2) (F0 m 253 ls []) := by
  have hx := C.1
  have hb := C.2.1
  have hts := C.2.2.2.2.2.1
  have hown := C.2.2.2.2.1
  unfold F_Md_first_253
  refine lv_aload_n hx hb dX7_first_253 rfl (lv_at hl 0 rfl) ?_
  refine lv_bipush (v := 16) hx hb dX7_first_254 (by decide) ?_
  refine lv_iload_n hx hb dX7_first_256 rfl (lv_at hl 1 rfl) ?_
  refine lv_bipush (v := 15) hx hb dX7_first_257 (by decide) ?_
  refine lv_icmp_ne (tgt := 266) hx hb dX7_first_259 (by decide) (fun h259 => ?_) (fun h259 => ?_)
  · rw [if_neg h259]
    refine lv_iconst (v := 0) hx hb dX7_first_266 (by decide) ?_
    exact k_Md_first_267 C w (lv_sub hl [] rfl)
  · rw [if_pos h259]
    refine lv_iconst (v := 1) hx hb dX7_first_262 (by decide) ?_
    refine lv_goto (tgt := 267) hx hb dX7_first_263 (by decide) ?_
    exact k_Md_first_267 C w (lv_sub hl [] rfl)
def F_Md_first_286 (y1 : Int32) (mu : Mu) : Int32 × Mu := (1, (ps mu 12 2 y1))
set_option maxHeartbeats 4000000 in
set_option maxRecDepth 100000 in
theorem k_Md_first_286 (C : Cx cX7_first 2 (some .boolean) wsX7_first RX7 A D cA tb p s m args meth c) {mu nu : Mu} {y1 : Int32} {H : Heap} {locs : List Loc} {ls : Array Slot} (w : Wd A D cA ad s nu mu H locs) (hl : lv_has ls 2 []) : W p l e { frames := 4, cells := 0, slots := 0, locals := 88 } s m args below meth c H locs 0 0 (QI A D cA ad below args s (F_Md_first_286 y1 mu).1 nu (F_Md_first_286 y1 mu).2) (F0 m 286 ls [.int y1, .ref (ad 12)]) := by
  have hx := C.1
  have hb := C.2.1
  have hts := C.2.2.2.2.2.1
  have hown := C.2.2.2.2.1
  unfold F_Md_first_286
  refine pt_12_2 C (fun _ h => List.mem_cons_of_mem _ (List.mem_append_right _ h)) (hts _ (List.mem_of_getElem? (i := 1) rfl)) w dX7_first_286 (fun H locs w => ?_)
  refine lv_iconst (v := 1) hx hb dX7_first_289 (by decide) ?_
  exact retZ C w dX7_first_290 (Or.inr rfl)
def F_Md_first_316 (y1 : Int32) (mu : Mu) : Int32 × Mu := (1, (ps mu 12 3 y1))
set_option maxHeartbeats 4000000 in
set_option maxRecDepth 100000 in
theorem k_Md_first_316 (C : Cx cX7_first 2 (some .boolean) wsX7_first RX7 A D cA tb p s m args meth c) {mu nu : Mu} {y1 : Int32} {H : Heap} {locs : List Loc} {ls : Array Slot} (w : Wd A D cA ad s nu mu H locs) (hl : lv_has ls 2 []) : W p l e { frames := 4, cells := 0, slots := 0, locals := 88 } s m args below meth c H locs 0 0 (QI A D cA ad below args s (F_Md_first_316 y1 mu).1 nu (F_Md_first_316 y1 mu).2) (F0 m 316 ls [.int y1, .ref (ad 12)]) := by
  have hx := C.1
  have hb := C.2.1
  have hts := C.2.2.2.2.2.1
  have hown := C.2.2.2.2.1
  unfold F_Md_first_316
  refine pt_12_3 C (fun _ h => List.mem_cons_of_mem _ (List.mem_append_right _ h)) (hts _ (List.mem_of_getElem? (i := 5) rfl)) w dX7_first_316 (fun H locs w => ?_)
  refine lv_iconst (v := 1) hx hb dX7_first_319 (by decide) ?_
  exact retZ C w dX7_first_320 (Or.inr rfl)
def F_Md_first_330 (y1 : Int32) (mu : Mu) : Int32 × Mu := (1, (ps mu 12 2 y1))
set_option maxHeartbeats 4000000 in
set_option maxRecDepth 100000 in
theorem k_Md_first_330 (C : Cx cX7_first 2 (some .boolean) wsX7_first RX7 A D cA tb p s m args meth c) {mu nu : Mu} {y1 : Int32} {H : Heap} {locs : List Loc} {ls : Array Slot} (w : Wd A D cA ad s nu mu H locs) (hl : lv_has ls 2 []) : W p l e { frames := 4, cells := 0, slots := 0, locals := 88 } s m args below meth c H locs 0 0 (QI A D cA ad below args s (F_Md_first_330 y1 mu).1 nu (F_Md_first_330 y1 mu).2) (F0 m 330 ls [.int y1, .ref (ad 12)]) := by
  have hx := C.1
  have hb := C.2.1
  have hts := C.2.2.2.2.2.1
  have hown := C.2.2.2.2.1
  unfold F_Md_first_330
  refine pt_12_2 C (fun _ h => List.mem_cons_of_mem _ (List.mem_append_right _ h)) (hts _ (List.mem_of_getElem? (i := 1) rfl)) w dX7_first_330 (fun H locs w => ?_)
  refine lv_iconst (v := 1) hx hb dX7_first_333 (by decide) ?_
  exact retZ C w dX7_first_334 (Or.inr rfl)
def F_Md_first_355 (y1 : Int32) (mu : Mu) : Int32 × Mu := (1, (ps mu 12 2 y1))
set_option maxHeartbeats 4000000 in
set_option maxRecDepth 100000 in
theorem k_Md_first_355 (C : Cx cX7_first 2 (some .boolean) wsX7_first RX7 A D cA tb p s m args meth c) {mu nu : Mu} {y1 : Int32} {H : Heap} {locs : List Loc} {ls : Array Slot} (w : Wd A D cA ad s nu mu H locs) (hl : lv_has ls 2 []) : W p l e { frames := 4, cells := 0, slots := 0, locals := 88 } s m args below meth c H locs 0 0 (QI A D cA ad below args s (F_Md_first_355 y1 mu).1 nu (F_Md_first_355 y1 mu).2) (F0 m 355 ls [.int y1, .ref (ad 12)]) := by
  have hx := C.1
  have hb := C.2.1
  have hts := C.2.2.2.2.2.1
  have hown := C.2.2.2.2.1
  unfold F_Md_first_355
  refine pt_12_2 C (fun _ h => List.mem_cons_of_mem _ (List.mem_append_right _ h)) (hts _ (List.mem_of_getElem? (i := 1) rfl)) w dX7_first_355 (fun H locs w => ?_)
  refine lv_iconst (v := 1) hx hb dX7_first_358 (by decide) ?_
  exact retZ C w dX7_first_359 (Or.inr rfl)
def F_Md_first (x1 : Int32) (mu : Mu) : Int32 × Mu := (if x1 = 1 then (1, mu) else (if x1 = 2 then (0, mu) else (if x1 = 3 then (0, mu) else (if x1 = 4 then (0, mu) else (if x1 = 5 then (0, mu) else (if x1 = 6 then (1, (ps mu 12 7 ((mu 12 2) &&& 63))) else (if x1 = 7 then (1, (ps mu 12 2 ((mu 12 7) ||| 192))) else (if x1 = 8 then (if (((mu 12 4) + 1) &&& 65535) = (0 : Int32) then F_Md_first_180 4 1 (ps mu 12 4 (((mu 12 4) + 1) &&& 65535)) else F_Md_first_180 4 0 (ps mu 12 4 (((mu 12 4) + 1) &&& 65535))) else (if x1 = 9 then (if (((mu 12 4) - 1) &&& 65535) = (0 : Int32) then F_Md_first_212 4 1 (ps mu 12 4 (((mu 12 4) - 1) &&& 65535)) else F_Md_first_212 4 0 (ps mu 12 4 (((mu 12 4) - 1) &&& 65535))) else (if x1 = 10 then F_Md_first_217 x1 mu else (if x1 = 11 then F_Md_first_217 x1 mu else (if x1 = 12 then F_Md_first_235 x1 mu else (if x1 = 13 then F_Md_first_235 x1 mu else (if x1 = 14 then F_Md_first_253 x1 mu else (if x1 = 15 then F_Md_first_253 x1 mu else (if x1 = 16 then F_Md_first_286 ((F_Md_less (mu 12 2) (mu 12 3) 0 mu).1) ((F_Md_less (mu 12 2) (mu 12 3) 0 mu).2) else (if x1 = 17 then (1, (F_Md_less (mu 12 2) (mu 12 3) 0 mu).2) else (if x1 = 18 then (0, mu) else (if x1 = 19 then (0, mu) else (if x1 = 20 then (0, mu) else (if x1 = 21 then (0, mu) else (if x1 = 22 then F_Md_first_316 ((F_Md_nzv (mu 12 2) mu).1) ((F_Md_nzv (mu 12 2) mu).2) else (if x1 = 23 then F_Md_first_330 ((F_Md_nzv (mu 12 3) mu).1) ((F_Md_nzv (mu 12 3) mu).2) else (if x1 = 24 then (0, mu) else (if x1 = 25 then (1, (F_Md_adjust mu)) else (if x1 = 26 then (0, mu) else (if x1 = 27 then F_Md_first_355 ((F_Md_plus (mu 12 2) (mu 12 3) 0 mu).1) ((F_Md_plus (mu 12 2) (mu 12 3) 0 mu).2) else (0, mu))))))))))))))))))))))))))))
set_option maxHeartbeats 4000000 in
set_option maxRecDepth 100000 in
theorem k_Md_first (C : Cx cX7_first 2 (some .boolean) wsX7_first RX7 A D cA tb p s m args meth c) {mu nu : Mu} {x1 : Int32} {H : Heap} {locs : List Loc} {ls : Array Slot} (w : Wd A D cA ad s nu mu H locs) (hl : lv_has ls 2 [(0, .ref (ad 12)), (1, .int x1)]) : W p l e { frames := 4, cells := 0, slots := 0, locals := 88 } s m args below meth c H locs 0 0 (QI A D cA ad below args s (F_Md_first x1 mu).1 nu (F_Md_first x1 mu).2) (F0 m 0 ls []) := by
  have hx := C.1
  have hb := C.2.1
  have hts := C.2.2.2.2.2.1
  have hown := C.2.2.2.2.1
  unfold F_Md_first
  refine lv_iload_n hx hb dX7_first_0 rfl (lv_at hl 1 rfl) ?_
  by_cases h1_1 : x1 = (1 : Int32)
  · rw [if_pos h1_1]
    refine lv_tableIn (off := 123) (tgt := 124) hx hb dX7_first_1 (by rw [h1_1]; decide) (by rw [h1_1]; decide) (by rw [h1_1]; decide) (by decide) ?_
    refine lv_iconst (v := 1) hx hb dX7_first_124 (by decide) ?_
    exact retZ C w dX7_first_125 (Or.inr rfl)
  · rw [if_neg h1_1]
    by_cases h1_2 : x1 = (2 : Int32)
    · rw [if_pos h1_2]
      refine lv_tableIn (off := 359) (tgt := 360) hx hb dX7_first_1 (by rw [h1_2]; decide) (by rw [h1_2]; decide) (by rw [h1_2]; decide) (by decide) ?_
      refine lv_iconst (v := 0) hx hb dX7_first_360 (by decide) ?_
      exact retZ C w dX7_first_361 (Or.inl rfl)
    · rw [if_neg h1_2]
      by_cases h1_3 : x1 = (3 : Int32)
      · rw [if_pos h1_3]
        refine lv_tableIn (off := 359) (tgt := 360) hx hb dX7_first_1 (by rw [h1_3]; decide) (by rw [h1_3]; decide) (by rw [h1_3]; decide) (by decide) ?_
        refine lv_iconst (v := 0) hx hb dX7_first_360 (by decide) ?_
        exact retZ C w dX7_first_361 (Or.inl rfl)
      · rw [if_neg h1_3]
        by_cases h1_4 : x1 = (4 : Int32)
        · rw [if_pos h1_4]
          refine lv_tableIn (off := 359) (tgt := 360) hx hb dX7_first_1 (by rw [h1_4]; decide) (by rw [h1_4]; decide) (by rw [h1_4]; decide) (by decide) ?_
          refine lv_iconst (v := 0) hx hb dX7_first_360 (by decide) ?_
          exact retZ C w dX7_first_361 (Or.inl rfl)
        · rw [if_neg h1_4]
          by_cases h1_5 : x1 = (5 : Int32)
          · rw [if_pos h1_5]
            refine lv_tableIn (off := 359) (tgt := 360) hx hb dX7_first_1 (by rw [h1_5]; decide) (by rw [h1_5]; decide) (by rw [h1_5]; decide) (by decide) ?_
            refine lv_iconst (v := 0) hx hb dX7_first_360 (by decide) ?_
            exact retZ C w dX7_first_361 (Or.inl rfl)
          · rw [if_neg h1_5]
            by_cases h1_6 : x1 = (6 : Int32)
            · rw [if_pos h1_6]
              refine lv_tableIn (off := 125) (tgt := 126) hx hb dX7_first_1 (by rw [h1_6]; decide) (by rw [h1_6]; decide) (by rw [h1_6]; decide) (by decide) ?_
              refine lv_aload_n hx hb dX7_first_126 rfl (lv_at hl 0 rfl) ?_
              refine lv_aload_n hx hb dX7_first_127 rfl (lv_at hl 0 rfl) ?_
              refine gt_12_2 C (fun _ h => List.mem_cons_of_mem _ (List.mem_append_right _ h)) (hts _ (List.mem_of_getElem? (i := 1) rfl)) w (v := (mu 12 2)) rfl dX7_first_128 ?_
              refine lv_bipush (v := 63) hx hb dX7_first_131 (by decide) ?_
              refine lv_iand hx hb dX7_first_133 ?_
              refine pt_12_7 C (fun _ h => List.mem_cons_of_mem _ (List.mem_append_right _ h)) (hts _ (List.mem_of_getElem? (i := 2) rfl)) w dX7_first_134 (fun H locs w => ?_)
              refine lv_iconst (v := 1) hx hb dX7_first_137 (by decide) ?_
              exact retZ C w dX7_first_138 (Or.inr rfl)
            · rw [if_neg h1_6]
              by_cases h1_7 : x1 = (7 : Int32)
              · rw [if_pos h1_7]
                refine lv_tableIn (off := 138) (tgt := 139) hx hb dX7_first_1 (by rw [h1_7]; decide) (by rw [h1_7]; decide) (by rw [h1_7]; decide) (by decide) ?_
                refine lv_aload_n hx hb dX7_first_139 rfl (lv_at hl 0 rfl) ?_
                refine lv_aload_n hx hb dX7_first_140 rfl (lv_at hl 0 rfl) ?_
                refine gt_12_7 C (fun _ h => List.mem_cons_of_mem _ (List.mem_append_right _ h)) (hts _ (List.mem_of_getElem? (i := 2) rfl)) w (v := (mu 12 7)) rfl dX7_first_141 ?_
                refine lv_sipush (v := 192) hx hb dX7_first_144 (by decide) ?_
                refine lv_ior hx hb dX7_first_147 ?_
                refine pt_12_2 C (fun _ h => List.mem_cons_of_mem _ (List.mem_append_right _ h)) (hts _ (List.mem_of_getElem? (i := 1) rfl)) w dX7_first_148 (fun H locs w => ?_)
                refine lv_iconst (v := 1) hx hb dX7_first_151 (by decide) ?_
                exact retZ C w dX7_first_152 (Or.inr rfl)
              · rw [if_neg h1_7]
                by_cases h1_8 : x1 = (8 : Int32)
                · rw [if_pos h1_8]
                  refine lv_tableIn (off := 152) (tgt := 153) hx hb dX7_first_1 (by rw [h1_8]; decide) (by rw [h1_8]; decide) (by rw [h1_8]; decide) (by decide) ?_
                  refine lv_aload_n hx hb dX7_first_153 rfl (lv_at hl 0 rfl) ?_
                  refine lv_aload_n hx hb dX7_first_154 rfl (lv_at hl 0 rfl) ?_
                  refine gt_12_4 C (fun _ h => List.mem_cons_of_mem _ (List.mem_append_right _ h)) (hts _ (List.mem_of_getElem? (i := 3) rfl)) w (v := (mu 12 4)) rfl dX7_first_155 ?_
                  refine lv_iconst (v := 1) hx hb dX7_first_158 (by decide) ?_
                  refine lv_iadd hx hb dX7_first_159 ?_
                  refine lv_ldc (v := 65535) hx hb hown (hts _ (List.mem_of_getElem? (i := 4) rfl)) dX7_first_160 ?_
                  refine lv_iand hx hb dX7_first_162 ?_
                  refine pt_12_4 C (fun _ h => List.mem_cons_of_mem _ (List.mem_append_right _ h)) (hts _ (List.mem_of_getElem? (i := 3) rfl)) w dX7_first_163 (fun H locs w => ?_)
                  refine lv_aload_n hx hb dX7_first_166 rfl (lv_at hl 0 rfl) ?_
                  refine lv_iconst (v := 4) hx hb dX7_first_167 (by decide) ?_
                  refine lv_aload_n hx hb dX7_first_168 rfl (lv_at hl 0 rfl) ?_
                  refine gt_12_4 C (fun _ h => List.mem_cons_of_mem _ (List.mem_append_right _ h)) (hts _ (List.mem_of_getElem? (i := 3) rfl)) w (v := (((mu 12 4) + 1) &&& 65535)) rfl dX7_first_169 ?_
                  refine lv_if_ne (tgt := 179) hx hb dX7_first_172 (by decide) (fun h172 => ?_) (fun h172 => ?_)
                  · rw [if_neg h172]
                    refine lv_iconst (v := 0) hx hb dX7_first_179 (by decide) ?_
                    exact k_Md_first_180 C w (lv_sub hl [] rfl)
                  · rw [if_pos h172]
                    refine lv_iconst (v := 1) hx hb dX7_first_175 (by decide) ?_
                    refine lv_goto (tgt := 180) hx hb dX7_first_176 (by decide) ?_
                    exact k_Md_first_180 C w (lv_sub hl [] rfl)
                · rw [if_neg h1_8]
                  by_cases h1_9 : x1 = (9 : Int32)
                  · rw [if_pos h1_9]
                    refine lv_tableIn (off := 184) (tgt := 185) hx hb dX7_first_1 (by rw [h1_9]; decide) (by rw [h1_9]; decide) (by rw [h1_9]; decide) (by decide) ?_
                    refine lv_aload_n hx hb dX7_first_185 rfl (lv_at hl 0 rfl) ?_
                    refine lv_aload_n hx hb dX7_first_186 rfl (lv_at hl 0 rfl) ?_
                    refine gt_12_4 C (fun _ h => List.mem_cons_of_mem _ (List.mem_append_right _ h)) (hts _ (List.mem_of_getElem? (i := 3) rfl)) w (v := (mu 12 4)) rfl dX7_first_187 ?_
                    refine lv_iconst (v := 1) hx hb dX7_first_190 (by decide) ?_
                    refine lv_isub hx hb dX7_first_191 ?_
                    refine lv_ldc (v := 65535) hx hb hown (hts _ (List.mem_of_getElem? (i := 4) rfl)) dX7_first_192 ?_
                    refine lv_iand hx hb dX7_first_194 ?_
                    refine pt_12_4 C (fun _ h => List.mem_cons_of_mem _ (List.mem_append_right _ h)) (hts _ (List.mem_of_getElem? (i := 3) rfl)) w dX7_first_195 (fun H locs w => ?_)
                    refine lv_aload_n hx hb dX7_first_198 rfl (lv_at hl 0 rfl) ?_
                    refine lv_iconst (v := 4) hx hb dX7_first_199 (by decide) ?_
                    refine lv_aload_n hx hb dX7_first_200 rfl (lv_at hl 0 rfl) ?_
                    refine gt_12_4 C (fun _ h => List.mem_cons_of_mem _ (List.mem_append_right _ h)) (hts _ (List.mem_of_getElem? (i := 3) rfl)) w (v := (((mu 12 4) - 1) &&& 65535)) rfl dX7_first_201 ?_
                    refine lv_if_ne (tgt := 211) hx hb dX7_first_204 (by decide) (fun h204 => ?_) (fun h204 => ?_)
                    · rw [if_neg h204]
                      refine lv_iconst (v := 0) hx hb dX7_first_211 (by decide) ?_
                      exact k_Md_first_212 C w (lv_sub hl [] rfl)
                    · rw [if_pos h204]
                      refine lv_iconst (v := 1) hx hb dX7_first_207 (by decide) ?_
                      refine lv_goto (tgt := 212) hx hb dX7_first_208 (by decide) ?_
                      exact k_Md_first_212 C w (lv_sub hl [] rfl)
                  · rw [if_neg h1_9]
                    by_cases h1_10 : x1 = (10 : Int32)
                    · rw [if_pos h1_10]
                      refine lv_tableIn (off := 216) (tgt := 217) hx hb dX7_first_1 (by rw [h1_10]; decide) (by rw [h1_10]; decide) (by rw [h1_10]; decide) (by decide) ?_
                      exact k_Md_first_217 C w (lv_sub hl [0, 1] rfl)
                    · rw [if_neg h1_10]
                      by_cases h1_11 : x1 = (11 : Int32)
                      · rw [if_pos h1_11]
                        refine lv_tableIn (off := 216) (tgt := 217) hx hb dX7_first_1 (by rw [h1_11]; decide) (by rw [h1_11]; decide) (by rw [h1_11]; decide) (by decide) ?_
                        exact k_Md_first_217 C w (lv_sub hl [0, 1] rfl)
                      · rw [if_neg h1_11]
                        by_cases h1_12 : x1 = (12 : Int32)
                        · rw [if_pos h1_12]
                          refine lv_tableIn (off := 234) (tgt := 235) hx hb dX7_first_1 (by rw [h1_12]; decide) (by rw [h1_12]; decide) (by rw [h1_12]; decide) (by decide) ?_
                          exact k_Md_first_235 C w (lv_sub hl [0, 1] rfl)
                        · rw [if_neg h1_12]
                          by_cases h1_13 : x1 = (13 : Int32)
                          · rw [if_pos h1_13]
                            refine lv_tableIn (off := 234) (tgt := 235) hx hb dX7_first_1 (by rw [h1_13]; decide) (by rw [h1_13]; decide) (by rw [h1_13]; decide) (by decide) ?_
                            exact k_Md_first_235 C w (lv_sub hl [0, 1] rfl)
                          · rw [if_neg h1_13]
                            by_cases h1_14 : x1 = (14 : Int32)
                            · rw [if_pos h1_14]
                              refine lv_tableIn (off := 252) (tgt := 253) hx hb dX7_first_1 (by rw [h1_14]; decide) (by rw [h1_14]; decide) (by rw [h1_14]; decide) (by decide) ?_
                              exact k_Md_first_253 C w (lv_sub hl [0, 1] rfl)
                            · rw [if_neg h1_14]
                              by_cases h1_15 : x1 = (15 : Int32)
                              · rw [if_pos h1_15]
                                refine lv_tableIn (off := 252) (tgt := 253) hx hb dX7_first_1 (by rw [h1_15]; decide) (by rw [h1_15]; decide) (by rw [h1_15]; decide) (by decide) ?_
                                exact k_Md_first_253 C w (lv_sub hl [0, 1] rfl)
                              · rw [if_neg h1_15]
                                by_cases h1_16 : x1 = (16 : Int32)
                                · rw [if_pos h1_16]
                                  refine lv_tableIn (off := 271) (tgt := 272) hx hb dX7_first_1 (by rw [h1_16]; decide) (by rw [h1_16]; decide) (by rw [h1_16]; decide) (by decide) ?_
                                  refine lv_aload_n hx hb dX7_first_272 rfl (lv_at hl 0 rfl) ?_
                                  refine lv_aload_n hx hb dX7_first_273 rfl (lv_at hl 0 rfl) ?_
                                  refine lv_aload_n hx hb dX7_first_274 rfl (lv_at hl 0 rfl) ?_
                                  refine gt_12_2 C (fun _ h => List.mem_cons_of_mem _ (List.mem_append_right _ h)) (hts _ (List.mem_of_getElem? (i := 1) rfl)) w (v := (mu 12 2)) rfl dX7_first_275 ?_
                                  refine lv_aload_n hx hb dX7_first_278 rfl (lv_at hl 0 rfl) ?_
                                  refine gt_12_3 C (fun _ h => List.mem_cons_of_mem _ (List.mem_append_right _ h)) (hts _ (List.mem_of_getElem? (i := 5) rfl)) w (v := (mu 12 3)) rfl dX7_first_279 ?_
                                  refine lv_iconst (v := 0) hx hb dX7_first_282 (by decide) ?_
                                  refine kcI (k := 12) (ci := 7) (As := [.int ((mu 12 2)), .int ((mu 12 3)), .int 0]) (rest := [.ref (ad 12)]) C w rfl rfl (c_Md_less l A D cA tb ad mu nu (mu 12 2) (mu 12 3) 0) (cwV 3 hts gX7_first_X7_less rfl rfl rfl (by decide +kernel) ⟨Nat.le_of_ble_eq_true rfl, Nat.le_of_ble_eq_true rfl⟩) rfl rfl hl.1 (Nat.le_of_ble_eq_true rfl) dX7_first_283 (fun H locs w => ?_)
                                  exact k_Md_first_286 C w (lv_sub hl [] rfl)
                                · rw [if_neg h1_16]
                                  by_cases h1_17 : x1 = (17 : Int32)
                                  · rw [if_pos h1_17]
                                    refine lv_tableIn (off := 290) (tgt := 291) hx hb dX7_first_1 (by rw [h1_17]; decide) (by rw [h1_17]; decide) (by rw [h1_17]; decide) (by decide) ?_
                                    refine lv_aload_n hx hb dX7_first_291 rfl (lv_at hl 0 rfl) ?_
                                    refine lv_aload_n hx hb dX7_first_292 rfl (lv_at hl 0 rfl) ?_
                                    refine gt_12_2 C (fun _ h => List.mem_cons_of_mem _ (List.mem_append_right _ h)) (hts _ (List.mem_of_getElem? (i := 1) rfl)) w (v := (mu 12 2)) rfl dX7_first_293 ?_
                                    refine lv_aload_n hx hb dX7_first_296 rfl (lv_at hl 0 rfl) ?_
                                    refine gt_12_3 C (fun _ h => List.mem_cons_of_mem _ (List.mem_append_right _ h)) (hts _ (List.mem_of_getElem? (i := 5) rfl)) w (v := (mu 12 3)) rfl dX7_first_297 ?_
                                    refine lv_iconst (v := 0) hx hb dX7_first_300 (by decide) ?_
                                    refine kcI (k := 12) (ci := 7) (As := [.int ((mu 12 2)), .int ((mu 12 3)), .int 0]) (rest := []) C w rfl rfl (c_Md_less l A D cA tb ad mu nu (mu 12 2) (mu 12 3) 0) (cwV 3 hts gX7_first_X7_less rfl rfl rfl (by decide +kernel) ⟨Nat.le_of_ble_eq_true rfl, Nat.le_of_ble_eq_true rfl⟩) rfl rfl hl.1 (Nat.le_of_ble_eq_true rfl) dX7_first_301 (fun H locs w => ?_)
                                    refine lv_pop hx hb dX7_first_304 rfl ?_
                                    refine lv_iconst (v := 1) hx hb dX7_first_305 (by decide) ?_
                                    exact retZ C w dX7_first_306 (Or.inr rfl)
                                  · rw [if_neg h1_17]
                                    by_cases h1_18 : x1 = (18 : Int32)
                                    · rw [if_pos h1_18]
                                      refine lv_tableIn (off := 359) (tgt := 360) hx hb dX7_first_1 (by rw [h1_18]; decide) (by rw [h1_18]; decide) (by rw [h1_18]; decide) (by decide) ?_
                                      refine lv_iconst (v := 0) hx hb dX7_first_360 (by decide) ?_
                                      exact retZ C w dX7_first_361 (Or.inl rfl)
                                    · rw [if_neg h1_18]
                                      by_cases h1_19 : x1 = (19 : Int32)
                                      · rw [if_pos h1_19]
                                        refine lv_tableIn (off := 359) (tgt := 360) hx hb dX7_first_1 (by rw [h1_19]; decide) (by rw [h1_19]; decide) (by rw [h1_19]; decide) (by decide) ?_
                                        refine lv_iconst (v := 0) hx hb dX7_first_360 (by decide) ?_
                                        exact retZ C w dX7_first_361 (Or.inl rfl)
                                      · rw [if_neg h1_19]
                                        by_cases h1_20 : x1 = (20 : Int32)
                                        · rw [if_pos h1_20]
                                          refine lv_tableIn (off := 359) (tgt := 360) hx hb dX7_first_1 (by rw [h1_20]; decide) (by rw [h1_20]; decide) (by rw [h1_20]; decide) (by decide) ?_
                                          refine lv_iconst (v := 0) hx hb dX7_first_360 (by decide) ?_
                                          exact retZ C w dX7_first_361 (Or.inl rfl)
                                        · rw [if_neg h1_20]
                                          by_cases h1_21 : x1 = (21 : Int32)
                                          · rw [if_pos h1_21]
                                            refine lv_tableIn (off := 359) (tgt := 360) hx hb dX7_first_1 (by rw [h1_21]; decide) (by rw [h1_21]; decide) (by rw [h1_21]; decide) (by decide) ?_
                                            refine lv_iconst (v := 0) hx hb dX7_first_360 (by decide) ?_
                                            exact retZ C w dX7_first_361 (Or.inl rfl)
                                          · rw [if_neg h1_21]
                                            by_cases h1_22 : x1 = (22 : Int32)
                                            · rw [if_pos h1_22]
                                              refine lv_tableIn (off := 306) (tgt := 307) hx hb dX7_first_1 (by rw [h1_22]; decide) (by rw [h1_22]; decide) (by rw [h1_22]; decide) (by decide) ?_
                                              refine lv_aload_n hx hb dX7_first_307 rfl (lv_at hl 0 rfl) ?_
                                              refine lv_aload_n hx hb dX7_first_308 rfl (lv_at hl 0 rfl) ?_
                                              refine lv_aload_n hx hb dX7_first_309 rfl (lv_at hl 0 rfl) ?_
                                              refine gt_12_2 C (fun _ h => List.mem_cons_of_mem _ (List.mem_append_right _ h)) (hts _ (List.mem_of_getElem? (i := 1) rfl)) w (v := (mu 12 2)) rfl dX7_first_310 ?_
                                              refine kcI (k := 12) (ci := 7) (As := [.int ((mu 12 2))]) (rest := [.ref (ad 12)]) C w rfl rfl (c_Md_nzv l A D cA tb ad mu nu (mu 12 2)) (cwV 1 hts gX7_first_X7_nzv rfl rfl rfl (by decide +kernel) ⟨Nat.le_of_ble_eq_true rfl, Nat.le_of_ble_eq_true rfl⟩) rfl rfl hl.1 (Nat.le_of_ble_eq_true rfl) dX7_first_313 (fun H locs w => ?_)
                                              exact k_Md_first_316 C w (lv_sub hl [] rfl)
                                            · rw [if_neg h1_22]
                                              by_cases h1_23 : x1 = (23 : Int32)
                                              · rw [if_pos h1_23]
                                                refine lv_tableIn (off := 320) (tgt := 321) hx hb dX7_first_1 (by rw [h1_23]; decide) (by rw [h1_23]; decide) (by rw [h1_23]; decide) (by decide) ?_
                                                refine lv_aload_n hx hb dX7_first_321 rfl (lv_at hl 0 rfl) ?_
                                                refine lv_aload_n hx hb dX7_first_322 rfl (lv_at hl 0 rfl) ?_
                                                refine lv_aload_n hx hb dX7_first_323 rfl (lv_at hl 0 rfl) ?_
                                                refine gt_12_3 C (fun _ h => List.mem_cons_of_mem _ (List.mem_append_right _ h)) (hts _ (List.mem_of_getElem? (i := 5) rfl)) w (v := (mu 12 3)) rfl dX7_first_324 ?_
                                                refine kcI (k := 12) (ci := 7) (As := [.int ((mu 12 3))]) (rest := [.ref (ad 12)]) C w rfl rfl (c_Md_nzv l A D cA tb ad mu nu (mu 12 3)) (cwV 1 hts gX7_first_X7_nzv rfl rfl rfl (by decide +kernel) ⟨Nat.le_of_ble_eq_true rfl, Nat.le_of_ble_eq_true rfl⟩) rfl rfl hl.1 (Nat.le_of_ble_eq_true rfl) dX7_first_327 (fun H locs w => ?_)
                                                exact k_Md_first_330 C w (lv_sub hl [] rfl)
                                              · rw [if_neg h1_23]
                                                by_cases h1_24 : x1 = (24 : Int32)
                                                · rw [if_pos h1_24]
                                                  refine lv_tableIn (off := 359) (tgt := 360) hx hb dX7_first_1 (by rw [h1_24]; decide) (by rw [h1_24]; decide) (by rw [h1_24]; decide) (by decide) ?_
                                                  refine lv_iconst (v := 0) hx hb dX7_first_360 (by decide) ?_
                                                  exact retZ C w dX7_first_361 (Or.inl rfl)
                                                · rw [if_neg h1_24]
                                                  by_cases h1_25 : x1 = (25 : Int32)
                                                  · rw [if_pos h1_25]
                                                    refine lv_tableIn (off := 334) (tgt := 335) hx hb dX7_first_1 (by rw [h1_25]; decide) (by rw [h1_25]; decide) (by rw [h1_25]; decide) (by decide) ?_
                                                    refine lv_aload_n hx hb dX7_first_335 rfl (lv_at hl 0 rfl) ?_
                                                    refine kcV (k := 12) (ci := 7) (As := []) (rest := []) C w rfl rfl (c_Md_adjust l A D cA tb ad mu nu) (cwV 0 hts gX7_first_X7_adjust rfl rfl rfl (by decide +kernel) ⟨Nat.le_of_ble_eq_true rfl, Nat.le_of_ble_eq_true rfl⟩) rfl rfl hl.1 (Nat.le_of_ble_eq_true rfl) dX7_first_336 (fun H locs w => ?_)
                                                    refine lv_iconst (v := 1) hx hb dX7_first_339 (by decide) ?_
                                                    exact retZ C w dX7_first_340 (Or.inr rfl)
                                                  · rw [if_neg h1_25]
                                                    by_cases h1_26 : x1 = (26 : Int32)
                                                    · rw [if_pos h1_26]
                                                      refine lv_tableIn (off := 359) (tgt := 360) hx hb dX7_first_1 (by rw [h1_26]; decide) (by rw [h1_26]; decide) (by rw [h1_26]; decide) (by decide) ?_
                                                      refine lv_iconst (v := 0) hx hb dX7_first_360 (by decide) ?_
                                                      exact retZ C w dX7_first_361 (Or.inl rfl)
                                                    · rw [if_neg h1_26]
                                                      by_cases h1_27 : x1 = (27 : Int32)
                                                      · rw [if_pos h1_27]
                                                        refine lv_tableIn (off := 340) (tgt := 341) hx hb dX7_first_1 (by rw [h1_27]; decide) (by rw [h1_27]; decide) (by rw [h1_27]; decide) (by decide) ?_
                                                        refine lv_aload_n hx hb dX7_first_341 rfl (lv_at hl 0 rfl) ?_
                                                        refine lv_aload_n hx hb dX7_first_342 rfl (lv_at hl 0 rfl) ?_
                                                        refine lv_aload_n hx hb dX7_first_343 rfl (lv_at hl 0 rfl) ?_
                                                        refine gt_12_2 C (fun _ h => List.mem_cons_of_mem _ (List.mem_append_right _ h)) (hts _ (List.mem_of_getElem? (i := 1) rfl)) w (v := (mu 12 2)) rfl dX7_first_344 ?_
                                                        refine lv_aload_n hx hb dX7_first_347 rfl (lv_at hl 0 rfl) ?_
                                                        refine gt_12_3 C (fun _ h => List.mem_cons_of_mem _ (List.mem_append_right _ h)) (hts _ (List.mem_of_getElem? (i := 5) rfl)) w (v := (mu 12 3)) rfl dX7_first_348 ?_
                                                        refine lv_iconst (v := 0) hx hb dX7_first_351 (by decide) ?_
                                                        refine kcI (k := 12) (ci := 7) (As := [.int ((mu 12 2)), .int ((mu 12 3)), .int 0]) (rest := [.ref (ad 12)]) C w rfl rfl (c_Md_plus l A D cA tb ad mu nu (mu 12 2) (mu 12 3) 0) (cwV 3 hts gX7_first_X7_plus rfl rfl rfl (by decide +kernel) ⟨Nat.le_of_ble_eq_true rfl, Nat.le_of_ble_eq_true rfl⟩) rfl rfl hl.1 (Nat.le_of_ble_eq_true rfl) dX7_first_352 (fun H locs w => ?_)
                                                        exact k_Md_first_355 C w (lv_sub hl [] rfl)
                                                      · rw [if_neg h1_27]
                                                        refine lv_tableOut (tgt := 360) hx hb dX7_first_1 (by have := lv_neT h1_1 (a := 1) rfl; have := lv_neT h1_2 (a := 2) rfl; have := lv_neT h1_3 (a := 3) rfl; have := lv_neT h1_4 (a := 4) rfl; have := lv_neT h1_5 (a := 5) rfl; have := lv_neT h1_6 (a := 6) rfl; have := lv_neT h1_7 (a := 7) rfl; have := lv_neT h1_8 (a := 8) rfl; have := lv_neT h1_9 (a := 9) rfl; have := lv_neT h1_10 (a := 10) rfl; have := lv_neT h1_11 (a := 11) rfl; have := lv_neT h1_12 (a := 12) rfl; have := lv_neT h1_13 (a := 13) rfl; have := lv_neT h1_14 (a := 14) rfl; have := lv_neT h1_15 (a := 15) rfl; have := lv_neT h1_16 (a := 16) rfl; have := lv_neT h1_17 (a := 17) rfl; have := lv_neT h1_18 (a := 18) rfl; have := lv_neT h1_19 (a := 19) rfl; have := lv_neT h1_20 (a := 20) rfl; have := lv_neT h1_21 (a := 21) rfl; have := lv_neT h1_22 (a := 22) rfl; have := lv_neT h1_23 (a := 23) rfl; have := lv_neT h1_24 (a := 24) rfl; have := lv_neT h1_25 (a := 25) rfl; have := lv_neT h1_26 (a := 26) rfl; have := lv_neT h1_27 (a := 27) rfl; omega) (by decide) ?_
                                                        refine lv_iconst (v := 0) hx hb dX7_first_360 (by decide) ?_
                                                        exact retZ C w dX7_first_361 (Or.inl rfl)
set_option maxHeartbeats 4000000 in
set_option maxRecDepth 100000 in
theorem c_Md_first (l : Launch) (A : Nat → Prop) (D : va_G) (cA : Nat → ClassId) (tb : Nat) (ad : Nat → Nat) (mu nu : Mu) (x1 : Int32) : Met l yX7_first wsX7_first ({ frames := 4, cells := 0, slots := 0, locals := 88 }) (va_Pc [.ref (ad 12), .int x1] (Pw A D cA tb ad nu mu)) (va_Qi (fun (r : Int32) (u : Mu × Mu) => r = (F_Md_first x1 mu).1 ∧ u = (nu, (F_Md_first x1 mu).2)) (Bw A D cA ad) A) 0 0 A := by
  refine Met.ofW (cc := cX7_first) (maxL := 2) (ret := (some .boolean)) (by decide) rfl ?_
  intro p e s m args below meth c s₁ B hml hv
  obtain ⟨rfl, w0⟩ := hv
  have C : Cx cX7_first 2 (some .boolean) wsX7_first RX7 A D cA tb p s m _ meth c := ⟨B.exec, B.bytes, B.returns, hml, findClass_of_methodNamed B.named, atoms_spec (ws := wsX7_first) B.pre, B.notSynchronized, w0.2.1, w0.2.2.2.1, w0.2.2.2.2⟩
  have hl := lv_entry ([.ref (ad 12), .int x1]) (n := 2) (Nat.le_of_ble_eq_true rfl)
  rw [lg_entry_eq]
  exact k_Md_first C w0.wd hl
def F_Md_branches_203 (y0 : Int32) (y1 : Int32) (mu : Mu) : Int32 := (if y0 = y1 then 1 else 0)
set_option maxHeartbeats 4000000 in
set_option maxRecDepth 100000 in
theorem k_Md_branches_203 (C : Cx cX7_branches 3 (some .boolean) wsX7_branches RX7 A D cA tb p s m args meth c) {mu nu : Mu} {y0 : Int32} {y1 : Int32} {H : Heap} {locs : List Loc} {ls : Array Slot} (w : Wd A D cA ad s nu mu H locs) (hl : lv_has ls 3 []) : W p l e { frames := 1, cells := 0, slots := 0, locals := 21 } s m args below meth c H locs 0 0 (QI A D cA ad below args s (F_Md_branches_203 y0 y1 mu) nu mu) (F0 m 203 ls [.int y1, .int y0]) := by
  have hx := C.1
  have hb := C.2.1
  have hts := C.2.2.2.2.2.1
  have hown := C.2.2.2.2.1
  unfold F_Md_branches_203
  refine lv_icmp_ne (tgt := 210) hx hb dX7_branches_203 (by decide) (fun h203 => ?_) (fun h203 => ?_)
  · rw [if_neg h203]
    refine lv_iconst (v := 0) hx hb dX7_branches_210 (by decide) ?_
    exact retZ C w dX7_branches_211 (Or.inl rfl)
  · rw [if_pos h203]
    refine lv_iconst (v := 1) hx hb dX7_branches_206 (by decide) ?_
    refine lv_goto (tgt := 211) hx hb dX7_branches_207 (by decide) ?_
    exact retZ C w dX7_branches_211 (Or.inr rfl)
def F_Md_branches_191 (x1 : Int32) (x2 : Int32) (mu : Mu) : Int32 := (if (x1 &&& 1) = (0 : Int32) then F_Md_branches_203 x2 1 mu else F_Md_branches_203 x2 0 mu)
set_option maxHeartbeats 4000000 in
set_option maxRecDepth 100000 in
theorem k_Md_branches_191 (C : Cx cX7_branches 3 (some .boolean) wsX7_branches RX7 A D cA tb p s m args meth c) {mu nu : Mu} {x1 : Int32} {x2 : Int32} {H : Heap} {locs : List Loc} {ls : Array Slot} (w : Wd A D cA ad s nu mu H locs) (hl : lv_has ls 3 [(1, .int x1), (2, .int x2)]) : W p l e { frames := 1, cells := 0, slots := 0, locals := 21 } s m args below meth c H locs 0 0 (QI A D cA ad below args s (F_Md_branches_191 x1 x2 mu) nu mu) (F0 m 191 ls []) := by
  have hx := C.1
  have hb := C.2.1
  have hts := C.2.2.2.2.2.1
  have hown := C.2.2.2.2.1
  unfold F_Md_branches_191
  refine lv_iload_n hx hb dX7_branches_191 rfl (lv_at hl 1 rfl) ?_
  refine lv_iload_n hx hb dX7_branches_192 rfl (lv_at hl 0 rfl) ?_
  refine lv_iconst (v := 1) hx hb dX7_branches_193 (by decide) ?_
  refine lv_iand hx hb dX7_branches_194 ?_
  refine lv_if_ne (tgt := 202) hx hb dX7_branches_195 (by decide) (fun h195 => ?_) (fun h195 => ?_)
  · rw [if_neg h195]
    refine lv_iconst (v := 0) hx hb dX7_branches_202 (by decide) ?_
    exact k_Md_branches_203 C w (lv_sub hl [] rfl)
  · rw [if_pos h195]
    refine lv_iconst (v := 1) hx hb dX7_branches_198 (by decide) ?_
    refine lv_goto (tgt := 203) hx hb dX7_branches_199 (by decide) ?_
    exact k_Md_branches_203 C w (lv_sub hl [] rfl)
def F_Md_branches_67 (x1 : Int32) (y0 : Int32) (mu : Mu) : Int32 := F_Md_branches_191 x1 y0 mu
set_option maxHeartbeats 4000000 in
set_option maxRecDepth 100000 in
theorem k_Md_branches_67 (C : Cx cX7_branches 3 (some .boolean) wsX7_branches RX7 A D cA tb p s m args meth c) {mu nu : Mu} {x1 : Int32} {y0 : Int32} {H : Heap} {locs : List Loc} {ls : Array Slot} (w : Wd A D cA ad s nu mu H locs) (hl : lv_has ls 3 [(1, .int x1)]) : W p l e { frames := 1, cells := 0, slots := 0, locals := 21 } s m args below meth c H locs 0 0 (QI A D cA ad below args s (F_Md_branches_67 x1 y0 mu) nu mu) (F0 m 67 ls [.int y0]) := by
  have hx := C.1
  have hb := C.2.1
  have hts := C.2.2.2.2.2.1
  have hown := C.2.2.2.2.1
  unfold F_Md_branches_67
  refine lv_istore_n (lv' := [(2, .int y0), (1, .int x1)]) hx hb dX7_branches_67 rfl hl (by decide) rfl (fun ls hl => ?_)
  refine lv_goto (tgt := 191) hx hb dX7_branches_68 (by decide) ?_
  exact k_Md_branches_191 C w (lv_sub hl [1, 0] rfl)
def F_Md_branches_66 (x1 : Int32) (mu : Mu) : Int32 := F_Md_branches_67 x1 0 mu
set_option maxHeartbeats 4000000 in
set_option maxRecDepth 100000 in
theorem k_Md_branches_66 (C : Cx cX7_branches 3 (some .boolean) wsX7_branches RX7 A D cA tb p s m args meth c) {mu nu : Mu} {x1 : Int32} {H : Heap} {locs : List Loc} {ls : Array Slot} (w : Wd A D cA ad s nu mu H locs) (hl : lv_has ls 3 [(1, .int x1)]) : W p l e { frames := 1, cells := 0, slots := 0, locals := 21 } s m args below meth c H locs 0 0 (QI A D cA ad below args s (F_Md_branches_66 x1 mu) nu mu) (F0 m 66 ls []) := by
  have hx := C.1
  have hb := C.2.1
  have hts := C.2.2.2.2.2.1
  have hown := C.2.2.2.2.1
  unfold F_Md_branches_66
  refine lv_iconst (v := 0) hx hb dX7_branches_66 (by decide) ?_
  exact k_Md_branches_67 C w (lv_sub hl [0] rfl)
def F_Md_branches_84 (x1 : Int32) (y0 : Int32) (mu : Mu) : Int32 := F_Md_branches_191 x1 y0 mu
set_option maxHeartbeats 4000000 in
set_option maxRecDepth 100000 in
theorem k_Md_branches_84 (C : Cx cX7_branches 3 (some .boolean) wsX7_branches RX7 A D cA tb p s m args meth c) {mu nu : Mu} {x1 : Int32} {y0 : Int32} {H : Heap} {locs : List Loc} {ls : Array Slot} (w : Wd A D cA ad s nu mu H locs) (hl : lv_has ls 3 [(1, .int x1)]) : W p l e { frames := 1, cells := 0, slots := 0, locals := 21 } s m args below meth c H locs 0 0 (QI A D cA ad below args s (F_Md_branches_84 x1 y0 mu) nu mu) (F0 m 84 ls [.int y0]) := by
  have hx := C.1
  have hb := C.2.1
  have hts := C.2.2.2.2.2.1
  have hown := C.2.2.2.2.1
  unfold F_Md_branches_84
  refine lv_istore_n (lv' := [(2, .int y0), (1, .int x1)]) hx hb dX7_branches_84 rfl hl (by decide) rfl (fun ls hl => ?_)
  refine lv_goto (tgt := 191) hx hb dX7_branches_85 (by decide) ?_
  exact k_Md_branches_191 C w (lv_sub hl [1, 0] rfl)
def F_Md_branches_101 (x1 : Int32) (y0 : Int32) (mu : Mu) : Int32 := F_Md_branches_191 x1 y0 mu
set_option maxHeartbeats 4000000 in
set_option maxRecDepth 100000 in
theorem k_Md_branches_101 (C : Cx cX7_branches 3 (some .boolean) wsX7_branches RX7 A D cA tb p s m args meth c) {mu nu : Mu} {x1 : Int32} {y0 : Int32} {H : Heap} {locs : List Loc} {ls : Array Slot} (w : Wd A D cA ad s nu mu H locs) (hl : lv_has ls 3 [(1, .int x1)]) : W p l e { frames := 1, cells := 0, slots := 0, locals := 21 } s m args below meth c H locs 0 0 (QI A D cA ad below args s (F_Md_branches_101 x1 y0 mu) nu mu) (F0 m 101 ls [.int y0]) := by
  have hx := C.1
  have hb := C.2.1
  have hts := C.2.2.2.2.2.1
  have hown := C.2.2.2.2.1
  unfold F_Md_branches_101
  refine lv_istore_n (lv' := [(2, .int y0), (1, .int x1)]) hx hb dX7_branches_101 rfl hl (by decide) rfl (fun ls hl => ?_)
  refine lv_goto (tgt := 191) hx hb dX7_branches_102 (by decide) ?_
  exact k_Md_branches_191 C w (lv_sub hl [1, 0] rfl)
def F_Md_branches_118 (x1 : Int32) (y0 : Int32) (mu : Mu) : Int32 := F_Md_branches_191 x1 y0 mu
set_option maxHeartbeats 4000000 in
set_option maxRecDepth 100000 in
theorem k_Md_branches_118 (C : Cx cX7_branches 3 (some .boolean) wsX7_branches RX7 A D cA tb p s m args meth c) {mu nu : Mu} {x1 : Int32} {y0 : Int32} {H : Heap} {locs : List Loc} {ls : Array Slot} (w : Wd A D cA ad s nu mu H locs) (hl : lv_has ls 3 [(1, .int x1)]) : W p l e { frames := 1, cells := 0, slots := 0, locals := 21 } s m args below meth c H locs 0 0 (QI A D cA ad below args s (F_Md_branches_118 x1 y0 mu) nu mu) (F0 m 118 ls [.int y0]) := by
  have hx := C.1
  have hb := C.2.1
  have hts := C.2.2.2.2.2.1
  have hown := C.2.2.2.2.1
  unfold F_Md_branches_118
  refine lv_istore_n (lv' := [(2, .int y0), (1, .int x1)]) hx hb dX7_branches_118 rfl hl (by decide) rfl (fun ls hl => ?_)
  refine lv_goto (tgt := 191) hx hb dX7_branches_119 (by decide) ?_
  exact k_Md_branches_191 C w (lv_sub hl [1, 0] rfl)
def F_Md_branches_136 (x1 : Int32) (y0 : Int32) (mu : Mu) : Int32 := F_Md_branches_191 x1 y0 mu
set_option maxHeartbeats 4000000 in
set_option maxRecDepth 100000 in
theorem k_Md_branches_136 (C : Cx cX7_branches 3 (some .boolean) wsX7_branches RX7 A D cA tb p s m args meth c) {mu nu : Mu} {x1 : Int32} {y0 : Int32} {H : Heap} {locs : List Loc} {ls : Array Slot} (w : Wd A D cA ad s nu mu H locs) (hl : lv_has ls 3 [(1, .int x1)]) : W p l e { frames := 1, cells := 0, slots := 0, locals := 21 } s m args below meth c H locs 0 0 (QI A D cA ad below args s (F_Md_branches_136 x1 y0 mu) nu mu) (F0 m 136 ls [.int y0]) := by
  have hx := C.1
  have hb := C.2.1
  have hts := C.2.2.2.2.2.1
  have hown := C.2.2.2.2.1
  unfold F_Md_branches_136
  refine lv_istore_n (lv' := [(2, .int y0), (1, .int x1)]) hx hb dX7_branches_136 rfl hl (by decide) rfl (fun ls hl => ?_)
  refine lv_goto (tgt := 191) hx hb dX7_branches_137 (by decide) ?_
  exact k_Md_branches_191 C w (lv_sub hl [1, 0] rfl)
def F_Md_branches_159 (x1 : Int32) (y0 : Int32) (mu : Mu) : Int32 := F_Md_branches_191 x1 y0 mu
set_option maxHeartbeats 4000000 in
set_option maxRecDepth 100000 in
theorem k_Md_branches_159 (C : Cx cX7_branches 3 (some .boolean) wsX7_branches RX7 A D cA tb p s m args meth c) {mu nu : Mu} {x1 : Int32} {y0 : Int32} {H : Heap} {locs : List Loc} {ls : Array Slot} (w : Wd A D cA ad s nu mu H locs) (hl : lv_has ls 3 [(1, .int x1)]) : W p l e { frames := 1, cells := 0, slots := 0, locals := 21 } s m args below meth c H locs 0 0 (QI A D cA ad below args s (F_Md_branches_159 x1 y0 mu) nu mu) (F0 m 159 ls [.int y0]) := by
  have hx := C.1
  have hb := C.2.1
  have hts := C.2.2.2.2.2.1
  have hown := C.2.2.2.2.1
  unfold F_Md_branches_159
  refine lv_istore_n (lv' := [(2, .int y0), (1, .int x1)]) hx hb dX7_branches_159 rfl hl (by decide) rfl (fun ls hl => ?_)
  refine lv_goto (tgt := 191) hx hb dX7_branches_160 (by decide) ?_
  exact k_Md_branches_191 C w (lv_sub hl [1, 0] rfl)
def F_Md_branches_190 (x1 : Int32) (y0 : Int32) (mu : Mu) : Int32 := F_Md_branches_191 x1 y0 mu
set_option maxHeartbeats 4000000 in
set_option maxRecDepth 100000 in
theorem k_Md_branches_190 (C : Cx cX7_branches 3 (some .boolean) wsX7_branches RX7 A D cA tb p s m args meth c) {mu nu : Mu} {x1 : Int32} {y0 : Int32} {H : Heap} {locs : List Loc} {ls : Array Slot} (w : Wd A D cA ad s nu mu H locs) (hl : lv_has ls 3 [(1, .int x1)]) : W p l e { frames := 1, cells := 0, slots := 0, locals := 21 } s m args below meth c H locs 0 0 (QI A D cA ad below args s (F_Md_branches_190 x1 y0 mu) nu mu) (F0 m 190 ls [.int y0]) := by
  have hx := C.1
  have hb := C.2.1
  have hts := C.2.2.2.2.2.1
  have hown := C.2.2.2.2.1
  unfold F_Md_branches_190
  refine lv_istore_n (lv' := [(2, .int y0), (1, .int x1)]) hx hb dX7_branches_190 rfl hl (by decide) rfl (fun ls hl => ?_)
  exact k_Md_branches_191 C w (lv_sub hl [1, 0] rfl)
def F_Md_branches_189 (x1 : Int32) (mu : Mu) : Int32 := F_Md_branches_190 x1 0 mu
set_option maxHeartbeats 4000000 in
set_option maxRecDepth 100000 in
theorem k_Md_branches_189 (C : Cx cX7_branches 3 (some .boolean) wsX7_branches RX7 A D cA tb p s m args meth c) {mu nu : Mu} {x1 : Int32} {H : Heap} {locs : List Loc} {ls : Array Slot} (w : Wd A D cA ad s nu mu H locs) (hl : lv_has ls 3 [(1, .int x1)]) : W p l e { frames := 1, cells := 0, slots := 0, locals := 21 } s m args below meth c H locs 0 0 (QI A D cA ad below args s (F_Md_branches_189 x1 mu) nu mu) (F0 m 189 ls []) := by
  have hx := C.1
  have hb := C.2.1
  have hts := C.2.2.2.2.2.1
  have hown := C.2.2.2.2.1
  unfold F_Md_branches_189
  refine lv_iconst (v := 0) hx hb dX7_branches_189 (by decide) ?_
  exact k_Md_branches_190 C w (lv_sub hl [0] rfl)
def F_Md_branches (x1 : Int32) (mu : Mu) : Int32 := (if (x1 >>> (1 &&& 31)) = 0 then 1 else (if (x1 >>> (1 &&& 31)) = 1 then (if (F_Md_is 1 mu) = (0 : Int32) then (if (F_Md_is 4 mu) = (0 : Int32) then F_Md_branches_67 x1 1 mu else F_Md_branches_66 x1 mu) else F_Md_branches_66 x1 mu) else (if (x1 >>> (1 &&& 31)) = 2 then (if (F_Md_is 1 mu) = (0 : Int32) then F_Md_branches_84 x1 1 mu else F_Md_branches_84 x1 0 mu) else (if (x1 >>> (1 &&& 31)) = 3 then (if (F_Md_is 4 mu) = (0 : Int32) then F_Md_branches_101 x1 1 mu else F_Md_branches_101 x1 0 mu) else (if (x1 >>> (1 &&& 31)) = 4 then (if (F_Md_is 2 mu) = (0 : Int32) then F_Md_branches_118 x1 1 mu else F_Md_branches_118 x1 0 mu) else (if (x1 >>> (1 &&& 31)) = 5 then (if (F_Md_is 8 mu) = (0 : Int32) then F_Md_branches_136 x1 1 mu else F_Md_branches_136 x1 0 mu) else (if (x1 >>> (1 &&& 31)) = 6 then (if (F_Md_is 8 mu) = (F_Md_is 2 mu) then F_Md_branches_159 x1 1 mu else F_Md_branches_159 x1 0 mu) else (if (F_Md_is 4 mu) = (0 : Int32) then (if (F_Md_is 8 mu) = (F_Md_is 2 mu) then F_Md_branches_190 x1 1 mu else F_Md_branches_189 x1 mu) else F_Md_branches_189 x1 mu))))))))
set_option maxHeartbeats 4000000 in
set_option maxRecDepth 100000 in
theorem k_Md_branches (C : Cx cX7_branches 3 (some .boolean) wsX7_branches RX7 A D cA tb p s m args meth c) {mu nu : Mu} {x1 : Int32} {H : Heap} {locs : List Loc} {ls : Array Slot} (w : Wd A D cA ad s nu mu H locs) (hl : lv_has ls 3 [(0, .ref (ad 12)), (1, .int x1)]) : W p l e { frames := 1, cells := 0, slots := 0, locals := 21 } s m args below meth c H locs 0 0 (QI A D cA ad below args s (F_Md_branches x1 mu) nu mu) (F0 m 0 ls []) := by
  have hx := C.1
  have hb := C.2.1
  have hts := C.2.2.2.2.2.1
  have hown := C.2.2.2.2.1
  unfold F_Md_branches
  refine lv_iload_n hx hb dX7_branches_0 rfl (lv_at hl 1 rfl) ?_
  refine lv_iconst (v := 1) hx hb dX7_branches_1 (by decide) ?_
  refine lv_ishr hx hb dX7_branches_2 ?_
  by_cases h3_0 : (x1 >>> (1 &&& 31)) = (0 : Int32)
  · rw [if_pos h3_0]
    refine lv_tableIn (off := 41) (tgt := 44) hx hb dX7_branches_3 (by rw [h3_0]; decide) (by rw [h3_0]; decide) (by rw [h3_0]; decide) (by decide) ?_
    refine lv_iconst (v := 1) hx hb dX7_branches_44 (by decide) ?_
    exact retZ C w dX7_branches_45 (Or.inr rfl)
  · rw [if_neg h3_0]
    by_cases h3_1 : (x1 >>> (1 &&& 31)) = (1 : Int32)
    · rw [if_pos h3_1]
      refine lv_tableIn (off := 43) (tgt := 46) hx hb dX7_branches_3 (by rw [h3_1]; decide) (by rw [h3_1]; decide) (by rw [h3_1]; decide) (by decide) ?_
      refine lv_aload_n hx hb dX7_branches_46 rfl (lv_at hl 0 rfl) ?_
      refine lv_iconst (v := 1) hx hb dX7_branches_47 (by decide) ?_
      refine kcI (k := 12) (ci := 7) (As := [.int 1]) (rest := []) C w rfl rfl (c_Md_is l A D cA tb ad mu nu 1) (cwV 1 hts gX7_branches_X7_is rfl rfl rfl (by decide +kernel) ⟨Nat.le_of_ble_eq_true rfl, Nat.le_of_ble_eq_true rfl⟩) rfl rfl hl.1 (Nat.le_of_ble_eq_true rfl) dX7_branches_48 (fun H locs w => ?_)
      refine lv_if_ne (tgt := 66) hx hb dX7_branches_51 (by decide) (fun h51 => ?_) (fun h51 => ?_)
      · rw [if_neg h51]
        exact k_Md_branches_66 C w (lv_sub hl [1] rfl)
      · rw [if_pos h51]
        refine lv_aload_n hx hb dX7_branches_54 rfl (lv_at hl 0 rfl) ?_
        refine lv_iconst (v := 4) hx hb dX7_branches_55 (by decide) ?_
        refine kcI (k := 12) (ci := 7) (As := [.int 4]) (rest := []) C w rfl rfl (c_Md_is l A D cA tb ad mu nu 4) (cwV 1 hts gX7_branches_X7_is rfl rfl rfl (by decide +kernel) ⟨Nat.le_of_ble_eq_true rfl, Nat.le_of_ble_eq_true rfl⟩) rfl rfl hl.1 (Nat.le_of_ble_eq_true rfl) dX7_branches_56 (fun H locs w => ?_)
        refine lv_if_ne (tgt := 66) hx hb dX7_branches_59 (by decide) (fun h59 => ?_) (fun h59 => ?_)
        · rw [if_neg h59]
          exact k_Md_branches_66 C w (lv_sub hl [1] rfl)
        · rw [if_pos h59]
          refine lv_iconst (v := 1) hx hb dX7_branches_62 (by decide) ?_
          refine lv_goto (tgt := 67) hx hb dX7_branches_63 (by decide) ?_
          exact k_Md_branches_67 C w (lv_sub hl [1] rfl)
    · rw [if_neg h3_1]
      by_cases h3_2 : (x1 >>> (1 &&& 31)) = (2 : Int32)
      · rw [if_pos h3_2]
        refine lv_tableIn (off := 68) (tgt := 71) hx hb dX7_branches_3 (by rw [h3_2]; decide) (by rw [h3_2]; decide) (by rw [h3_2]; decide) (by decide) ?_
        refine lv_aload_n hx hb dX7_branches_71 rfl (lv_at hl 0 rfl) ?_
        refine lv_iconst (v := 1) hx hb dX7_branches_72 (by decide) ?_
        refine kcI (k := 12) (ci := 7) (As := [.int 1]) (rest := []) C w rfl rfl (c_Md_is l A D cA tb ad mu nu 1) (cwV 1 hts gX7_branches_X7_is rfl rfl rfl (by decide +kernel) ⟨Nat.le_of_ble_eq_true rfl, Nat.le_of_ble_eq_true rfl⟩) rfl rfl hl.1 (Nat.le_of_ble_eq_true rfl) dX7_branches_73 (fun H locs w => ?_)
        refine lv_if_ne (tgt := 83) hx hb dX7_branches_76 (by decide) (fun h76 => ?_) (fun h76 => ?_)
        · rw [if_neg h76]
          refine lv_iconst (v := 0) hx hb dX7_branches_83 (by decide) ?_
          exact k_Md_branches_84 C w (lv_sub hl [1] rfl)
        · rw [if_pos h76]
          refine lv_iconst (v := 1) hx hb dX7_branches_79 (by decide) ?_
          refine lv_goto (tgt := 84) hx hb dX7_branches_80 (by decide) ?_
          exact k_Md_branches_84 C w (lv_sub hl [1] rfl)
      · rw [if_neg h3_2]
        by_cases h3_3 : (x1 >>> (1 &&& 31)) = (3 : Int32)
        · rw [if_pos h3_3]
          refine lv_tableIn (off := 85) (tgt := 88) hx hb dX7_branches_3 (by rw [h3_3]; decide) (by rw [h3_3]; decide) (by rw [h3_3]; decide) (by decide) ?_
          refine lv_aload_n hx hb dX7_branches_88 rfl (lv_at hl 0 rfl) ?_
          refine lv_iconst (v := 4) hx hb dX7_branches_89 (by decide) ?_
          refine kcI (k := 12) (ci := 7) (As := [.int 4]) (rest := []) C w rfl rfl (c_Md_is l A D cA tb ad mu nu 4) (cwV 1 hts gX7_branches_X7_is rfl rfl rfl (by decide +kernel) ⟨Nat.le_of_ble_eq_true rfl, Nat.le_of_ble_eq_true rfl⟩) rfl rfl hl.1 (Nat.le_of_ble_eq_true rfl) dX7_branches_90 (fun H locs w => ?_)
          refine lv_if_ne (tgt := 100) hx hb dX7_branches_93 (by decide) (fun h93 => ?_) (fun h93 => ?_)
          · rw [if_neg h93]
            refine lv_iconst (v := 0) hx hb dX7_branches_100 (by decide) ?_
            exact k_Md_branches_101 C w (lv_sub hl [1] rfl)
          · rw [if_pos h93]
            refine lv_iconst (v := 1) hx hb dX7_branches_96 (by decide) ?_
            refine lv_goto (tgt := 101) hx hb dX7_branches_97 (by decide) ?_
            exact k_Md_branches_101 C w (lv_sub hl [1] rfl)
        · rw [if_neg h3_3]
          by_cases h3_4 : (x1 >>> (1 &&& 31)) = (4 : Int32)
          · rw [if_pos h3_4]
            refine lv_tableIn (off := 102) (tgt := 105) hx hb dX7_branches_3 (by rw [h3_4]; decide) (by rw [h3_4]; decide) (by rw [h3_4]; decide) (by decide) ?_
            refine lv_aload_n hx hb dX7_branches_105 rfl (lv_at hl 0 rfl) ?_
            refine lv_iconst (v := 2) hx hb dX7_branches_106 (by decide) ?_
            refine kcI (k := 12) (ci := 7) (As := [.int 2]) (rest := []) C w rfl rfl (c_Md_is l A D cA tb ad mu nu 2) (cwV 1 hts gX7_branches_X7_is rfl rfl rfl (by decide +kernel) ⟨Nat.le_of_ble_eq_true rfl, Nat.le_of_ble_eq_true rfl⟩) rfl rfl hl.1 (Nat.le_of_ble_eq_true rfl) dX7_branches_107 (fun H locs w => ?_)
            refine lv_if_ne (tgt := 117) hx hb dX7_branches_110 (by decide) (fun h110 => ?_) (fun h110 => ?_)
            · rw [if_neg h110]
              refine lv_iconst (v := 0) hx hb dX7_branches_117 (by decide) ?_
              exact k_Md_branches_118 C w (lv_sub hl [1] rfl)
            · rw [if_pos h110]
              refine lv_iconst (v := 1) hx hb dX7_branches_113 (by decide) ?_
              refine lv_goto (tgt := 118) hx hb dX7_branches_114 (by decide) ?_
              exact k_Md_branches_118 C w (lv_sub hl [1] rfl)
          · rw [if_neg h3_4]
            by_cases h3_5 : (x1 >>> (1 &&& 31)) = (5 : Int32)
            · rw [if_pos h3_5]
              refine lv_tableIn (off := 119) (tgt := 122) hx hb dX7_branches_3 (by rw [h3_5]; decide) (by rw [h3_5]; decide) (by rw [h3_5]; decide) (by decide) ?_
              refine lv_aload_n hx hb dX7_branches_122 rfl (lv_at hl 0 rfl) ?_
              refine lv_bipush (v := 8) hx hb dX7_branches_123 (by decide) ?_
              refine kcI (k := 12) (ci := 7) (As := [.int 8]) (rest := []) C w rfl rfl (c_Md_is l A D cA tb ad mu nu 8) (cwV 1 hts gX7_branches_X7_is rfl rfl rfl (by decide +kernel) ⟨Nat.le_of_ble_eq_true rfl, Nat.le_of_ble_eq_true rfl⟩) rfl rfl hl.1 (Nat.le_of_ble_eq_true rfl) dX7_branches_125 (fun H locs w => ?_)
              refine lv_if_ne (tgt := 135) hx hb dX7_branches_128 (by decide) (fun h128 => ?_) (fun h128 => ?_)
              · rw [if_neg h128]
                refine lv_iconst (v := 0) hx hb dX7_branches_135 (by decide) ?_
                exact k_Md_branches_136 C w (lv_sub hl [1] rfl)
              · rw [if_pos h128]
                refine lv_iconst (v := 1) hx hb dX7_branches_131 (by decide) ?_
                refine lv_goto (tgt := 136) hx hb dX7_branches_132 (by decide) ?_
                exact k_Md_branches_136 C w (lv_sub hl [1] rfl)
            · rw [if_neg h3_5]
              by_cases h3_6 : (x1 >>> (1 &&& 31)) = (6 : Int32)
              · rw [if_pos h3_6]
                refine lv_tableIn (off := 137) (tgt := 140) hx hb dX7_branches_3 (by rw [h3_6]; decide) (by rw [h3_6]; decide) (by rw [h3_6]; decide) (by decide) ?_
                refine lv_aload_n hx hb dX7_branches_140 rfl (lv_at hl 0 rfl) ?_
                refine lv_bipush (v := 8) hx hb dX7_branches_141 (by decide) ?_
                refine kcI (k := 12) (ci := 7) (As := [.int 8]) (rest := []) C w rfl rfl (c_Md_is l A D cA tb ad mu nu 8) (cwV 1 hts gX7_branches_X7_is rfl rfl rfl (by decide +kernel) ⟨Nat.le_of_ble_eq_true rfl, Nat.le_of_ble_eq_true rfl⟩) rfl rfl hl.1 (Nat.le_of_ble_eq_true rfl) dX7_branches_143 (fun H locs w => ?_)
                refine lv_aload_n hx hb dX7_branches_146 rfl (lv_at hl 0 rfl) ?_
                refine lv_iconst (v := 2) hx hb dX7_branches_147 (by decide) ?_
                refine kcI (k := 12) (ci := 7) (As := [.int 2]) (rest := [.int ((F_Md_is 8 mu))]) C w rfl rfl (c_Md_is l A D cA tb ad mu nu 2) (cwV 1 hts gX7_branches_X7_is rfl rfl rfl (by decide +kernel) ⟨Nat.le_of_ble_eq_true rfl, Nat.le_of_ble_eq_true rfl⟩) rfl rfl hl.1 (Nat.le_of_ble_eq_true rfl) dX7_branches_148 (fun H locs w => ?_)
                refine lv_icmp_ne (tgt := 158) hx hb dX7_branches_151 (by decide) (fun h151 => ?_) (fun h151 => ?_)
                · rw [if_neg h151]
                  refine lv_iconst (v := 0) hx hb dX7_branches_158 (by decide) ?_
                  exact k_Md_branches_159 C w (lv_sub hl [1] rfl)
                · rw [if_pos h151]
                  refine lv_iconst (v := 1) hx hb dX7_branches_154 (by decide) ?_
                  refine lv_goto (tgt := 159) hx hb dX7_branches_155 (by decide) ?_
                  exact k_Md_branches_159 C w (lv_sub hl [1] rfl)
              · rw [if_neg h3_6]
                refine lv_tableOut (tgt := 163) hx hb dX7_branches_3 (by have := lv_neT h3_0 (a := 0) rfl; have := lv_neT h3_1 (a := 1) rfl; have := lv_neT h3_2 (a := 2) rfl; have := lv_neT h3_3 (a := 3) rfl; have := lv_neT h3_4 (a := 4) rfl; have := lv_neT h3_5 (a := 5) rfl; have := lv_neT h3_6 (a := 6) rfl; omega) (by decide) ?_
                refine lv_aload_n hx hb dX7_branches_163 rfl (lv_at hl 0 rfl) ?_
                refine lv_iconst (v := 4) hx hb dX7_branches_164 (by decide) ?_
                refine kcI (k := 12) (ci := 7) (As := [.int 4]) (rest := []) C w rfl rfl (c_Md_is l A D cA tb ad mu nu 4) (cwV 1 hts gX7_branches_X7_is rfl rfl rfl (by decide +kernel) ⟨Nat.le_of_ble_eq_true rfl, Nat.le_of_ble_eq_true rfl⟩) rfl rfl hl.1 (Nat.le_of_ble_eq_true rfl) dX7_branches_165 (fun H locs w => ?_)
                refine lv_if_ne (tgt := 189) hx hb dX7_branches_168 (by decide) (fun h168 => ?_) (fun h168 => ?_)
                · rw [if_neg h168]
                  exact k_Md_branches_189 C w (lv_sub hl [1] rfl)
                · rw [if_pos h168]
                  refine lv_aload_n hx hb dX7_branches_171 rfl (lv_at hl 0 rfl) ?_
                  refine lv_bipush (v := 8) hx hb dX7_branches_172 (by decide) ?_
                  refine kcI (k := 12) (ci := 7) (As := [.int 8]) (rest := []) C w rfl rfl (c_Md_is l A D cA tb ad mu nu 8) (cwV 1 hts gX7_branches_X7_is rfl rfl rfl (by decide +kernel) ⟨Nat.le_of_ble_eq_true rfl, Nat.le_of_ble_eq_true rfl⟩) rfl rfl hl.1 (Nat.le_of_ble_eq_true rfl) dX7_branches_174 (fun H locs w => ?_)
                  refine lv_aload_n hx hb dX7_branches_177 rfl (lv_at hl 0 rfl) ?_
                  refine lv_iconst (v := 2) hx hb dX7_branches_178 (by decide) ?_
                  refine kcI (k := 12) (ci := 7) (As := [.int 2]) (rest := [.int ((F_Md_is 8 mu))]) C w rfl rfl (c_Md_is l A D cA tb ad mu nu 2) (cwV 1 hts gX7_branches_X7_is rfl rfl rfl (by decide +kernel) ⟨Nat.le_of_ble_eq_true rfl, Nat.le_of_ble_eq_true rfl⟩) rfl rfl hl.1 (Nat.le_of_ble_eq_true rfl) dX7_branches_179 (fun H locs w => ?_)
                  refine lv_icmp_ne (tgt := 189) hx hb dX7_branches_182 (by decide) (fun h182 => ?_) (fun h182 => ?_)
                  · rw [if_neg h182]
                    exact k_Md_branches_189 C w (lv_sub hl [1] rfl)
                  · rw [if_pos h182]
                    refine lv_iconst (v := 1) hx hb dX7_branches_185 (by decide) ?_
                    refine lv_goto (tgt := 190) hx hb dX7_branches_186 (by decide) ?_
                    exact k_Md_branches_190 C w (lv_sub hl [1] rfl)
set_option maxHeartbeats 4000000 in
set_option maxRecDepth 100000 in
theorem c_Md_branches (l : Launch) (A : Nat → Prop) (D : va_G) (cA : Nat → ClassId) (tb : Nat) (ad : Nat → Nat) (mu nu : Mu) (x1 : Int32) : Met l yX7_branches wsX7_branches ({ frames := 1, cells := 0, slots := 0, locals := 21 }) (va_Pc [.ref (ad 12), .int x1] (Pw A D cA tb ad nu mu)) (va_Qi (fun (r : Int32) (u : Mu × Mu) => r = F_Md_branches x1 mu ∧ u = (nu, mu)) (Bw A D cA ad) A) 0 0 A := by
  refine Met.ofW (cc := cX7_branches) (maxL := 3) (ret := (some .boolean)) (by decide) rfl ?_
  intro p e s m args below meth c s₁ B hml hv
  obtain ⟨rfl, w0⟩ := hv
  have C : Cx cX7_branches 3 (some .boolean) wsX7_branches RX7 A D cA tb p s m _ meth c := ⟨B.exec, B.bytes, B.returns, hml, findClass_of_methodNamed B.named, atoms_spec (ws := wsX7_branches) B.pre, B.notSynchronized, w0.2.1, w0.2.2.2.1, w0.2.2.2.2⟩
  have hl := lv_entry ([.ref (ad 12), .int x1]) (n := 3) (Nat.le_of_ble_eq_true rfl)
  rw [lg_entry_eq]
  exact k_Md_branches C w0.wd hl
def F_Md_branch_4 (x1 : Int32) (y0 : Int32) (mu : Mu) : Mu := (if x1 = (0 : Int32) then mu else (ps mu 12 6 (((mu 12 6) + (F_Md_signed y0 mu)) &&& 65535)))
set_option maxHeartbeats 4000000 in
set_option maxRecDepth 100000 in
theorem k_Md_branch_4 (C : Cx cX7_branch 3 none wsX7_branch RX7 A D cA tb p s m args meth c) {mu nu : Mu} {x1 : Int32} {y0 : Int32} {H : Heap} {locs : List Loc} {ls : Array Slot} (w : Wd A D cA ad s nu mu H locs) (hl : lv_has ls 3 [(0, .ref (ad 12)), (1, .int x1)]) : W p l e { frames := 4, cells := 0, slots := 0, locals := 85 } s m args below meth c H locs 0 0 (QV A D cA ad below args s nu (F_Md_branch_4 x1 y0 mu)) (F0 m 4 ls [.int y0]) := by
  have hx := C.1
  have hb := C.2.1
  have hts := C.2.2.2.2.2.1
  have hown := C.2.2.2.2.1
  unfold F_Md_branch_4
  refine kcIS (As := [.int y0]) (rest := []) C w (c_Md_signed l A D cA tb ad mu nu y0) (va_cwS 1 hts gX7_branch_X7_signed rfl rfl rfl (by decide +kernel) ⟨Nat.le_of_ble_eq_true rfl, Nat.le_of_ble_eq_true rfl⟩) rfl rfl hl.1 (Nat.le_of_ble_eq_true rfl) dX7_branch_4 (fun H locs w => ?_)
  refine lv_istore_n (lv' := [(2, .int ((F_Md_signed y0 mu))), (0, .ref (ad 12)), (1, .int x1)]) hx hb dX7_branch_7 rfl hl (by decide) rfl (fun ls hl => ?_)
  refine lv_iload_n hx hb dX7_branch_8 rfl (lv_at hl 2 rfl) ?_
  refine lv_if_eq (tgt := 25) hx hb dX7_branch_9 (by decide) (fun h9 => ?_) (fun h9 => ?_)
  · rw [if_pos h9]
    exact retV C w dX7_branch_25
  · rw [if_neg h9]
    refine lv_aload_n hx hb dX7_branch_12 rfl (lv_at hl 1 rfl) ?_
    refine lv_aload_n hx hb dX7_branch_13 rfl (lv_at hl 1 rfl) ?_
    refine gt_12_6 C (fun _ h => List.mem_cons_of_mem _ (List.mem_append_right _ h)) (hts _ (List.mem_of_getElem? (i := 1) rfl)) w (v := (mu 12 6)) rfl dX7_branch_14 ?_
    refine lv_iload_n hx hb dX7_branch_17 rfl (lv_at hl 0 rfl) ?_
    refine lv_iadd hx hb dX7_branch_18 ?_
    refine lv_ldc (v := 65535) hx hb hown (hts _ (List.mem_of_getElem? (i := 2) rfl)) dX7_branch_19 ?_
    refine lv_iand hx hb dX7_branch_21 ?_
    refine pt_12_6 C (fun _ h => List.mem_cons_of_mem _ (List.mem_append_right _ h)) (hts _ (List.mem_of_getElem? (i := 1) rfl)) w dX7_branch_22 (fun H locs w => ?_)
    exact retV C w dX7_branch_25
def F_Md_branch (x1 : Int32) (mu : Mu) : Mu := F_Md_branch_4 x1 ((F_Md_next mu).1) ((F_Md_next mu).2)
set_option maxHeartbeats 4000000 in
set_option maxRecDepth 100000 in
theorem k_Md_branch (C : Cx cX7_branch 3 none wsX7_branch RX7 A D cA tb p s m args meth c) {mu nu : Mu} {x1 : Int32} {H : Heap} {locs : List Loc} {ls : Array Slot} (w : Wd A D cA ad s nu mu H locs) (hl : lv_has ls 3 [(0, .ref (ad 12)), (1, .int x1)]) : W p l e { frames := 4, cells := 0, slots := 0, locals := 85 } s m args below meth c H locs 0 0 (QV A D cA ad below args s nu (F_Md_branch x1 mu)) (F0 m 0 ls []) := by
  have hx := C.1
  have hb := C.2.1
  have hts := C.2.2.2.2.2.1
  have hown := C.2.2.2.2.1
  unfold F_Md_branch
  refine lv_aload_n hx hb dX7_branch_0 rfl (lv_at hl 0 rfl) ?_
  refine kcI (k := 12) (ci := 7) (As := []) (rest := []) C w rfl rfl (c_Md_next l A D cA tb ad mu nu) (cwV 0 hts gX7_branch_X7_next rfl rfl rfl (by decide +kernel) ⟨Nat.le_of_ble_eq_true rfl, Nat.le_of_ble_eq_true rfl⟩) rfl rfl hl.1 (Nat.le_of_ble_eq_true rfl) dX7_branch_1 (fun H locs w => ?_)
  exact k_Md_branch_4 C w (lv_sub hl [0, 1] rfl)
set_option maxHeartbeats 4000000 in
set_option maxRecDepth 100000 in
theorem c_Md_branch (l : Launch) (A : Nat → Prop) (D : va_G) (cA : Nat → ClassId) (tb : Nat) (ad : Nat → Nat) (mu nu : Mu) (x1 : Int32) : Met l yX7_branch wsX7_branch ({ frames := 4, cells := 0, slots := 0, locals := 85 }) (va_Pc [.ref (ad 12), .int x1] (Pw A D cA tb ad nu mu)) (va_Qv (fun (u : Mu × Mu) => u = (nu, F_Md_branch x1 mu)) (Bw A D cA ad) A) 0 0 A := by
  refine Met.ofW (cc := cX7_branch) (maxL := 3) (ret := none) (by decide) rfl ?_
  intro p e s m args below meth c s₁ B hml hv
  obtain ⟨rfl, w0⟩ := hv
  have C : Cx cX7_branch 3 none wsX7_branch RX7 A D cA tb p s m _ meth c := ⟨B.exec, B.bytes, B.returns, hml, findClass_of_methodNamed B.named, atoms_spec (ws := wsX7_branch) B.pre, B.notSynchronized, w0.2.1, w0.2.2.2.1, w0.2.2.2.2⟩
  have hl := lv_entry ([.ref (ad 12), .int x1]) (n := 3) (Nat.le_of_ble_eq_true rfl)
  rw [lg_entry_eq]
  exact k_Md_branch C w0.wd hl
def F_Md_pull (mu : Mu) : Int32 × Mu := ((F_Md_read (((mu 12 5) + 1) &&& 65535) (ps mu 12 5 (((mu 12 5) + 1) &&& 65535))).1, (F_Md_read (((mu 12 5) + 1) &&& 65535) (ps mu 12 5 (((mu 12 5) + 1) &&& 65535))).2)
set_option maxHeartbeats 4000000 in
set_option maxRecDepth 100000 in
theorem k_Md_pull (C : Cx cX7_pull 1 (some .int) wsX7_pull RX7 A D cA tb p s m args meth c) {mu nu : Mu} {H : Heap} {locs : List Loc} {ls : Array Slot} (w : Wd A D cA ad s nu mu H locs) (hl : lv_has ls 1 [(0, .ref (ad 12))]) : W p l e { frames := 3, cells := 0, slots := 0, locals := 64 } s m args below meth c H locs 0 0 (QI A D cA ad below args s (F_Md_pull mu).1 nu (F_Md_pull mu).2) (F0 m 0 ls []) := by
  have hx := C.1
  have hb := C.2.1
  have hts := C.2.2.2.2.2.1
  have hown := C.2.2.2.2.1
  unfold F_Md_pull
  refine lv_aload_n hx hb dX7_pull_0 rfl (lv_at hl 0 rfl) ?_
  refine lv_aload_n hx hb dX7_pull_1 rfl (lv_at hl 0 rfl) ?_
  refine gt_12_5 C (fun _ h => List.mem_cons_of_mem _ (List.mem_append_right _ h)) (hts _ (List.mem_of_getElem? (i := 1) rfl)) w (v := (mu 12 5)) rfl dX7_pull_2 ?_
  refine lv_iconst (v := 1) hx hb dX7_pull_5 (by decide) ?_
  refine lv_iadd hx hb dX7_pull_6 ?_
  refine lv_ldc (v := 65535) hx hb hown (hts _ (List.mem_of_getElem? (i := 2) rfl)) dX7_pull_7 ?_
  refine lv_iand hx hb dX7_pull_9 ?_
  refine pt_12_5 C (fun _ h => List.mem_cons_of_mem _ (List.mem_append_right _ h)) (hts _ (List.mem_of_getElem? (i := 1) rfl)) w dX7_pull_10 (fun H locs w => ?_)
  refine lv_aload_n hx hb dX7_pull_13 rfl (lv_at hl 0 rfl) ?_
  refine lv_aload_n hx hb dX7_pull_14 rfl (lv_at hl 0 rfl) ?_
  refine gt_12_5 C (fun _ h => List.mem_cons_of_mem _ (List.mem_append_right _ h)) (hts _ (List.mem_of_getElem? (i := 1) rfl)) w (v := (((mu 12 5) + 1) &&& 65535)) rfl dX7_pull_15 ?_
  refine kcI (k := 12) (ci := 7) (As := [.int ((((mu 12 5) + 1) &&& 65535))]) (rest := []) C w rfl rfl (c_Md_read l A D cA tb ad (ps mu 12 5 (((mu 12 5) + 1) &&& 65535)) nu (((mu 12 5) + 1) &&& 65535)) (cwV 1 hts gX7_pull_X7_read rfl rfl rfl (by decide +kernel) ⟨Nat.le_of_ble_eq_true rfl, Nat.le_of_ble_eq_true rfl⟩) rfl rfl hl.1 (Nat.le_of_ble_eq_true rfl) dX7_pull_18 (fun H locs w => ?_)
  exact retI C w dX7_pull_21
set_option maxHeartbeats 4000000 in
set_option maxRecDepth 100000 in
theorem c_Md_pull (l : Launch) (A : Nat → Prop) (D : va_G) (cA : Nat → ClassId) (tb : Nat) (ad : Nat → Nat) (mu nu : Mu) : Met l yX7_pull wsX7_pull ({ frames := 3, cells := 0, slots := 0, locals := 64 }) (va_Pc [.ref (ad 12)] (Pw A D cA tb ad nu mu)) (va_Qi (fun (r : Int32) (u : Mu × Mu) => r = (F_Md_pull mu).1 ∧ u = (nu, (F_Md_pull mu).2)) (Bw A D cA ad) A) 0 0 A := by
  refine Met.ofW (cc := cX7_pull) (maxL := 1) (ret := (some .int)) (by decide) rfl ?_
  intro p e s m args below meth c s₁ B hml hv
  obtain ⟨rfl, w0⟩ := hv
  have C : Cx cX7_pull 1 (some .int) wsX7_pull RX7 A D cA tb p s m _ meth c := ⟨B.exec, B.bytes, B.returns, hml, findClass_of_methodNamed B.named, atoms_spec (ws := wsX7_pull) B.pre, B.notSynchronized, w0.2.1, w0.2.2.2.1, w0.2.2.2.2⟩
  have hl := lv_entry ([.ref (ad 12)]) (n := 1) (Nat.le_of_ble_eq_true rfl)
  rw [lg_entry_eq]
  exact k_Md_pull C w0.wd hl
def F_Md_pullWord_4 (y0 : Int32) (mu : Mu) : Int32 × Mu := (((y0 * 256) + (F_Md_pull mu).1), (F_Md_pull mu).2)
set_option maxHeartbeats 4000000 in
set_option maxRecDepth 100000 in
theorem k_Md_pullWord_4 (C : Cx cX7_pullWord 2 (some .int) wsX7_pullWord RX7 A D cA tb p s m args meth c) {mu nu : Mu} {y0 : Int32} {H : Heap} {locs : List Loc} {ls : Array Slot} (w : Wd A D cA ad s nu mu H locs) (hl : lv_has ls 2 [(0, .ref (ad 12))]) : W p l e { frames := 4, cells := 0, slots := 0, locals := 84 } s m args below meth c H locs 0 0 (QI A D cA ad below args s (F_Md_pullWord_4 y0 mu).1 nu (F_Md_pullWord_4 y0 mu).2) (F0 m 4 ls [.int y0]) := by
  have hx := C.1
  have hb := C.2.1
  have hts := C.2.2.2.2.2.1
  have hown := C.2.2.2.2.1
  unfold F_Md_pullWord_4
  refine lv_istore_n (lv' := [(1, .int y0), (0, .ref (ad 12))]) hx hb dX7_pullWord_4 rfl hl (by decide) rfl (fun ls hl => ?_)
  refine lv_iload_n hx hb dX7_pullWord_5 rfl (lv_at hl 0 rfl) ?_
  refine lv_sipush (v := 256) hx hb dX7_pullWord_6 (by decide) ?_
  refine lv_imul hx hb dX7_pullWord_9 ?_
  refine lv_aload_n hx hb dX7_pullWord_10 rfl (lv_at hl 1 rfl) ?_
  refine kcI (k := 12) (ci := 7) (As := []) (rest := [.int ((y0 * 256))]) C w rfl rfl (c_Md_pull l A D cA tb ad mu nu) (cwV 0 hts gX7_pullWord_X7_pull rfl rfl rfl (by decide +kernel) ⟨Nat.le_of_ble_eq_true rfl, Nat.le_of_ble_eq_true rfl⟩) rfl rfl hl.1 (Nat.le_of_ble_eq_true rfl) dX7_pullWord_11 (fun H locs w => ?_)
  refine lv_iadd hx hb dX7_pullWord_14 ?_
  exact retI C w dX7_pullWord_15
def F_Md_pullWord (mu : Mu) : Int32 × Mu := F_Md_pullWord_4 ((F_Md_pull mu).1) ((F_Md_pull mu).2)
set_option maxHeartbeats 4000000 in
set_option maxRecDepth 100000 in
theorem k_Md_pullWord (C : Cx cX7_pullWord 2 (some .int) wsX7_pullWord RX7 A D cA tb p s m args meth c) {mu nu : Mu} {H : Heap} {locs : List Loc} {ls : Array Slot} (w : Wd A D cA ad s nu mu H locs) (hl : lv_has ls 2 [(0, .ref (ad 12))]) : W p l e { frames := 4, cells := 0, slots := 0, locals := 84 } s m args below meth c H locs 0 0 (QI A D cA ad below args s (F_Md_pullWord mu).1 nu (F_Md_pullWord mu).2) (F0 m 0 ls []) := by
  have hx := C.1
  have hb := C.2.1
  have hts := C.2.2.2.2.2.1
  have hown := C.2.2.2.2.1
  unfold F_Md_pullWord
  refine lv_aload_n hx hb dX7_pullWord_0 rfl (lv_at hl 0 rfl) ?_
  refine kcI (k := 12) (ci := 7) (As := []) (rest := []) C w rfl rfl (c_Md_pull l A D cA tb ad mu nu) (cwV 0 hts gX7_pullWord_X7_pull rfl rfl rfl (by decide +kernel) ⟨Nat.le_of_ble_eq_true rfl, Nat.le_of_ble_eq_true rfl⟩) rfl rfl hl.1 (Nat.le_of_ble_eq_true rfl) dX7_pullWord_1 (fun H locs w => ?_)
  exact k_Md_pullWord_4 C w (lv_sub hl [0] rfl)
set_option maxHeartbeats 4000000 in
set_option maxRecDepth 100000 in
theorem c_Md_pullWord (l : Launch) (A : Nat → Prop) (D : va_G) (cA : Nat → ClassId) (tb : Nat) (ad : Nat → Nat) (mu nu : Mu) : Met l yX7_pullWord wsX7_pullWord ({ frames := 4, cells := 0, slots := 0, locals := 84 }) (va_Pc [.ref (ad 12)] (Pw A D cA tb ad nu mu)) (va_Qi (fun (r : Int32) (u : Mu × Mu) => r = (F_Md_pullWord mu).1 ∧ u = (nu, (F_Md_pullWord mu).2)) (Bw A D cA ad) A) 0 0 A := by
  refine Met.ofW (cc := cX7_pullWord) (maxL := 2) (ret := (some .int)) (by decide) rfl ?_
  intro p e s m args below meth c s₁ B hml hv
  obtain ⟨rfl, w0⟩ := hv
  have C : Cx cX7_pullWord 2 (some .int) wsX7_pullWord RX7 A D cA tb p s m _ meth c := ⟨B.exec, B.bytes, B.returns, hml, findClass_of_methodNamed B.named, atoms_spec (ws := wsX7_pullWord) B.pre, B.notSynchronized, w0.2.1, w0.2.2.2.1, w0.2.2.2.2⟩
  have hl := lv_entry ([.ref (ad 12)]) (n := 2) (Nat.le_of_ble_eq_true rfl)
  rw [lg_entry_eq]
  exact k_Md_pullWord C w0.wd hl
def F_Md_pullAll_40 (y1 : Int32) (mu : Mu) : Mu := (ps mu 12 6 y1)
set_option maxHeartbeats 4000000 in
set_option maxRecDepth 100000 in
theorem k_Md_pullAll_40 (C : Cx cX7_pullAll 1 none wsX7_pullAll RX7 A D cA tb p s m args meth c) {mu nu : Mu} {y1 : Int32} {H : Heap} {locs : List Loc} {ls : Array Slot} (w : Wd A D cA ad s nu mu H locs) (hl : lv_has ls 1 []) : W p l e { frames := 5, cells := 0, slots := 0, locals := 105 } s m args below meth c H locs 0 0 (QV A D cA ad below args s nu (F_Md_pullAll_40 y1 mu)) (F0 m 40 ls [.int y1, .ref (ad 12)]) := by
  have hx := C.1
  have hb := C.2.1
  have hts := C.2.2.2.2.2.1
  have hown := C.2.2.2.2.1
  unfold F_Md_pullAll_40
  refine pt_12_6 C (fun _ h => List.mem_cons_of_mem _ (List.mem_append_right _ h)) (hts _ (List.mem_of_getElem? (i := 5) rfl)) w dX7_pullAll_40 (fun H locs w => ?_)
  exact retV C w dX7_pullAll_43
def F_Md_pullAll_32 (y1 : Int32) (mu : Mu) : Mu := F_Md_pullAll_40 ((F_Md_pullWord (ps mu 12 4 y1)).1) ((F_Md_pullWord (ps mu 12 4 y1)).2)
set_option maxHeartbeats 4000000 in
set_option maxRecDepth 100000 in
theorem k_Md_pullAll_32 (C : Cx cX7_pullAll 1 none wsX7_pullAll RX7 A D cA tb p s m args meth c) {mu nu : Mu} {y1 : Int32} {H : Heap} {locs : List Loc} {ls : Array Slot} (w : Wd A D cA ad s nu mu H locs) (hl : lv_has ls 1 [(0, .ref (ad 12))]) : W p l e { frames := 5, cells := 0, slots := 0, locals := 105 } s m args below meth c H locs 0 0 (QV A D cA ad below args s nu (F_Md_pullAll_32 y1 mu)) (F0 m 32 ls [.int y1, .ref (ad 12)]) := by
  have hx := C.1
  have hb := C.2.1
  have hts := C.2.2.2.2.2.1
  have hown := C.2.2.2.2.1
  unfold F_Md_pullAll_32
  refine pt_12_4 C (fun _ h => List.mem_cons_of_mem _ (List.mem_append_right _ h)) (hts _ (List.mem_of_getElem? (i := 4) rfl)) w dX7_pullAll_32 (fun H locs w => ?_)
  refine lv_aload_n hx hb dX7_pullAll_35 rfl (lv_at hl 0 rfl) ?_
  refine lv_aload_n hx hb dX7_pullAll_36 rfl (lv_at hl 0 rfl) ?_
  refine kcI (k := 12) (ci := 7) (As := []) (rest := [.ref (ad 12)]) C w rfl rfl (c_Md_pullWord l A D cA tb ad (ps mu 12 4 y1) nu) (cwV 0 hts gX7_pullAll_X7_pullWord rfl rfl rfl (by decide +kernel) ⟨Nat.le_of_ble_eq_true rfl, Nat.le_of_ble_eq_true rfl⟩) rfl rfl hl.1 (Nat.le_of_ble_eq_true rfl) dX7_pullAll_37 (fun H locs w => ?_)
  exact k_Md_pullAll_40 C w (lv_sub hl [] rfl)
def F_Md_pullAll_24 (y1 : Int32) (mu : Mu) : Mu := F_Md_pullAll_32 ((F_Md_pullWord (ps mu 12 2 y1)).1) ((F_Md_pullWord (ps mu 12 2 y1)).2)
set_option maxHeartbeats 4000000 in
set_option maxRecDepth 100000 in
theorem k_Md_pullAll_24 (C : Cx cX7_pullAll 1 none wsX7_pullAll RX7 A D cA tb p s m args meth c) {mu nu : Mu} {y1 : Int32} {H : Heap} {locs : List Loc} {ls : Array Slot} (w : Wd A D cA ad s nu mu H locs) (hl : lv_has ls 1 [(0, .ref (ad 12))]) : W p l e { frames := 5, cells := 0, slots := 0, locals := 105 } s m args below meth c H locs 0 0 (QV A D cA ad below args s nu (F_Md_pullAll_24 y1 mu)) (F0 m 24 ls [.int y1, .ref (ad 12)]) := by
  have hx := C.1
  have hb := C.2.1
  have hts := C.2.2.2.2.2.1
  have hown := C.2.2.2.2.1
  unfold F_Md_pullAll_24
  refine pt_12_2 C (fun _ h => List.mem_cons_of_mem _ (List.mem_append_right _ h)) (hts _ (List.mem_of_getElem? (i := 3) rfl)) w dX7_pullAll_24 (fun H locs w => ?_)
  refine lv_aload_n hx hb dX7_pullAll_27 rfl (lv_at hl 0 rfl) ?_
  refine lv_aload_n hx hb dX7_pullAll_28 rfl (lv_at hl 0 rfl) ?_
  refine kcI (k := 12) (ci := 7) (As := []) (rest := [.ref (ad 12)]) C w rfl rfl (c_Md_pullWord l A D cA tb ad (ps mu 12 2 y1) nu) (cwV 0 hts gX7_pullAll_X7_pullWord rfl rfl rfl (by decide +kernel) ⟨Nat.le_of_ble_eq_true rfl, Nat.le_of_ble_eq_true rfl⟩) rfl rfl hl.1 (Nat.le_of_ble_eq_true rfl) dX7_pullAll_29 (fun H locs w => ?_)
  exact k_Md_pullAll_32 C w (lv_sub hl [0] rfl)
def F_Md_pullAll_16 (y1 : Int32) (mu : Mu) : Mu := F_Md_pullAll_24 ((F_Md_pull (ps mu 12 3 y1)).1) ((F_Md_pull (ps mu 12 3 y1)).2)
set_option maxHeartbeats 4000000 in
set_option maxRecDepth 100000 in
theorem k_Md_pullAll_16 (C : Cx cX7_pullAll 1 none wsX7_pullAll RX7 A D cA tb p s m args meth c) {mu nu : Mu} {y1 : Int32} {H : Heap} {locs : List Loc} {ls : Array Slot} (w : Wd A D cA ad s nu mu H locs) (hl : lv_has ls 1 [(0, .ref (ad 12))]) : W p l e { frames := 5, cells := 0, slots := 0, locals := 105 } s m args below meth c H locs 0 0 (QV A D cA ad below args s nu (F_Md_pullAll_16 y1 mu)) (F0 m 16 ls [.int y1, .ref (ad 12)]) := by
  have hx := C.1
  have hb := C.2.1
  have hts := C.2.2.2.2.2.1
  have hown := C.2.2.2.2.1
  unfold F_Md_pullAll_16
  refine pt_12_3 C (fun _ h => List.mem_cons_of_mem _ (List.mem_append_right _ h)) (hts _ (List.mem_of_getElem? (i := 2) rfl)) w dX7_pullAll_16 (fun H locs w => ?_)
  refine lv_aload_n hx hb dX7_pullAll_19 rfl (lv_at hl 0 rfl) ?_
  refine lv_aload_n hx hb dX7_pullAll_20 rfl (lv_at hl 0 rfl) ?_
  refine kcI (k := 12) (ci := 7) (As := []) (rest := [.ref (ad 12)]) C w rfl rfl (c_Md_pull l A D cA tb ad (ps mu 12 3 y1) nu) (cwV 0 hts gX7_pullAll_X7_pull rfl rfl rfl (by decide +kernel) ⟨Nat.le_of_ble_eq_true rfl, Nat.le_of_ble_eq_true rfl⟩) rfl rfl hl.1 (Nat.le_of_ble_eq_true rfl) dX7_pullAll_21 (fun H locs w => ?_)
  exact k_Md_pullAll_24 C w (lv_sub hl [0] rfl)
def F_Md_pullAll_5 (y1 : Int32) (mu : Mu) : Mu := F_Md_pullAll_16 ((F_Md_pull (ps mu 12 7 (y1 &&& 63))).1) ((F_Md_pull (ps mu 12 7 (y1 &&& 63))).2)
set_option maxHeartbeats 4000000 in
set_option maxRecDepth 100000 in
theorem k_Md_pullAll_5 (C : Cx cX7_pullAll 1 none wsX7_pullAll RX7 A D cA tb p s m args meth c) {mu nu : Mu} {y1 : Int32} {H : Heap} {locs : List Loc} {ls : Array Slot} (w : Wd A D cA ad s nu mu H locs) (hl : lv_has ls 1 [(0, .ref (ad 12))]) : W p l e { frames := 5, cells := 0, slots := 0, locals := 105 } s m args below meth c H locs 0 0 (QV A D cA ad below args s nu (F_Md_pullAll_5 y1 mu)) (F0 m 5 ls [.int y1, .ref (ad 12)]) := by
  have hx := C.1
  have hb := C.2.1
  have hts := C.2.2.2.2.2.1
  have hown := C.2.2.2.2.1
  unfold F_Md_pullAll_5
  refine lv_bipush (v := 63) hx hb dX7_pullAll_5 (by decide) ?_
  refine lv_iand hx hb dX7_pullAll_7 ?_
  refine pt_12_7 C (fun _ h => List.mem_cons_of_mem _ (List.mem_append_right _ h)) (hts _ (List.mem_of_getElem? (i := 1) rfl)) w dX7_pullAll_8 (fun H locs w => ?_)
  refine lv_aload_n hx hb dX7_pullAll_11 rfl (lv_at hl 0 rfl) ?_
  refine lv_aload_n hx hb dX7_pullAll_12 rfl (lv_at hl 0 rfl) ?_
  refine kcI (k := 12) (ci := 7) (As := []) (rest := [.ref (ad 12)]) C w rfl rfl (c_Md_pull l A D cA tb ad (ps mu 12 7 (y1 &&& 63)) nu) (cwV 0 hts gX7_pullAll_X7_pull rfl rfl rfl (by decide +kernel) ⟨Nat.le_of_ble_eq_true rfl, Nat.le_of_ble_eq_true rfl⟩) rfl rfl hl.1 (Nat.le_of_ble_eq_true rfl) dX7_pullAll_13 (fun H locs w => ?_)
  exact k_Md_pullAll_16 C w (lv_sub hl [0] rfl)
def F_Md_pullAll (mu : Mu) : Mu := F_Md_pullAll_5 ((F_Md_pull mu).1) ((F_Md_pull mu).2)
set_option maxHeartbeats 4000000 in
set_option maxRecDepth 100000 in
theorem k_Md_pullAll (C : Cx cX7_pullAll 1 none wsX7_pullAll RX7 A D cA tb p s m args meth c) {mu nu : Mu} {H : Heap} {locs : List Loc} {ls : Array Slot} (w : Wd A D cA ad s nu mu H locs) (hl : lv_has ls 1 [(0, .ref (ad 12))]) : W p l e { frames := 5, cells := 0, slots := 0, locals := 105 } s m args below meth c H locs 0 0 (QV A D cA ad below args s nu (F_Md_pullAll mu)) (F0 m 0 ls []) := by
  have hx := C.1
  have hb := C.2.1
  have hts := C.2.2.2.2.2.1
  have hown := C.2.2.2.2.1
  unfold F_Md_pullAll
  refine lv_aload_n hx hb dX7_pullAll_0 rfl (lv_at hl 0 rfl) ?_
  refine lv_aload_n hx hb dX7_pullAll_1 rfl (lv_at hl 0 rfl) ?_
  refine kcI (k := 12) (ci := 7) (As := []) (rest := [.ref (ad 12)]) C w rfl rfl (c_Md_pull l A D cA tb ad mu nu) (cwV 0 hts gX7_pullAll_X7_pull rfl rfl rfl (by decide +kernel) ⟨Nat.le_of_ble_eq_true rfl, Nat.le_of_ble_eq_true rfl⟩) rfl rfl hl.1 (Nat.le_of_ble_eq_true rfl) dX7_pullAll_2 (fun H locs w => ?_)
  exact k_Md_pullAll_5 C w (lv_sub hl [0] rfl)
set_option maxHeartbeats 4000000 in
set_option maxRecDepth 100000 in
theorem c_Md_pullAll (l : Launch) (A : Nat → Prop) (D : va_G) (cA : Nat → ClassId) (tb : Nat) (ad : Nat → Nat) (mu nu : Mu) : Met l yX7_pullAll wsX7_pullAll ({ frames := 5, cells := 0, slots := 0, locals := 105 }) (va_Pc [.ref (ad 12)] (Pw A D cA tb ad nu mu)) (va_Qv (fun (u : Mu × Mu) => u = (nu, F_Md_pullAll mu)) (Bw A D cA ad) A) 0 0 A := by
  refine Met.ofW (cc := cX7_pullAll) (maxL := 1) (ret := none) (by decide) rfl ?_
  intro p e s m args below meth c s₁ B hml hv
  obtain ⟨rfl, w0⟩ := hv
  have C : Cx cX7_pullAll 1 none wsX7_pullAll RX7 A D cA tb p s m _ meth c := ⟨B.exec, B.bytes, B.returns, hml, findClass_of_methodNamed B.named, atoms_spec (ws := wsX7_pullAll) B.pre, B.notSynchronized, w0.2.1, w0.2.2.2.1, w0.2.2.2.2⟩
  have hl := lv_entry ([.ref (ad 12)]) (n := 1) (Nat.le_of_ble_eq_true rfl)
  rw [lg_entry_eq]
  exact k_Md_pullAll C w0.wd hl
def F_Md_stacked_115 (y1 : Int32) (mu : Mu) : Int32 × Mu := (1, (ps mu 12 2 y1))
set_option maxHeartbeats 4000000 in
set_option maxRecDepth 100000 in
theorem k_Md_stacked_115 (C : Cx cX7_stacked 2 (some .boolean) wsX7_stacked RX7 A D cA tb p s m args meth c) {mu nu : Mu} {y1 : Int32} {H : Heap} {locs : List Loc} {ls : Array Slot} (w : Wd A D cA ad s nu mu H locs) (hl : lv_has ls 2 []) : W p l e { frames := 6, cells := 0, slots := 0, locals := 128 } s m args below meth c H locs 0 0 (QI A D cA ad below args s (F_Md_stacked_115 y1 mu).1 nu (F_Md_stacked_115 y1 mu).2) (F0 m 115 ls [.int y1, .ref (ad 12)]) := by
  have hx := C.1
  have hb := C.2.1
  have hts := C.2.2.2.2.2.1
  have hown := C.2.2.2.2.1
  unfold F_Md_stacked_115
  refine pt_12_2 C (fun _ h => List.mem_cons_of_mem _ (List.mem_append_right _ h)) (hts _ (List.mem_of_getElem? (i := 4) rfl)) w dX7_stacked_115 (fun H locs w => ?_)
  refine lv_iconst (v := 1) hx hb dX7_stacked_118 (by decide) ?_
  exact retZ C w dX7_stacked_119 (Or.inr rfl)
def F_Md_stacked_125 (y1 : Int32) (mu : Mu) : Int32 × Mu := (1, (ps mu 12 3 y1))
set_option maxHeartbeats 4000000 in
set_option maxRecDepth 100000 in
theorem k_Md_stacked_125 (C : Cx cX7_stacked 2 (some .boolean) wsX7_stacked RX7 A D cA tb p s m args meth c) {mu nu : Mu} {y1 : Int32} {H : Heap} {locs : List Loc} {ls : Array Slot} (w : Wd A D cA ad s nu mu H locs) (hl : lv_has ls 2 []) : W p l e { frames := 6, cells := 0, slots := 0, locals := 128 } s m args below meth c H locs 0 0 (QI A D cA ad below args s (F_Md_stacked_125 y1 mu).1 nu (F_Md_stacked_125 y1 mu).2) (F0 m 125 ls [.int y1, .ref (ad 12)]) := by
  have hx := C.1
  have hb := C.2.1
  have hts := C.2.2.2.2.2.1
  have hown := C.2.2.2.2.1
  unfold F_Md_stacked_125
  refine pt_12_3 C (fun _ h => List.mem_cons_of_mem _ (List.mem_append_right _ h)) (hts _ (List.mem_of_getElem? (i := 5) rfl)) w dX7_stacked_125 (fun H locs w => ?_)
  refine lv_iconst (v := 1) hx hb dX7_stacked_128 (by decide) ?_
  exact retZ C w dX7_stacked_129 (Or.inr rfl)
def F_Md_stacked_185 (y1 : Int32) (mu : Mu) : Int32 × Mu := (1, (ps mu 12 6 y1))
set_option maxHeartbeats 4000000 in
set_option maxRecDepth 100000 in
theorem k_Md_stacked_185 (C : Cx cX7_stacked 2 (some .boolean) wsX7_stacked RX7 A D cA tb p s m args meth c) {mu nu : Mu} {y1 : Int32} {H : Heap} {locs : List Loc} {ls : Array Slot} (w : Wd A D cA ad s nu mu H locs) (hl : lv_has ls 2 []) : W p l e { frames := 6, cells := 0, slots := 0, locals := 128 } s m args below meth c H locs 0 0 (QI A D cA ad below args s (F_Md_stacked_185 y1 mu).1 nu (F_Md_stacked_185 y1 mu).2) (F0 m 185 ls [.int y1, .ref (ad 12)]) := by
  have hx := C.1
  have hb := C.2.1
  have hts := C.2.2.2.2.2.1
  have hown := C.2.2.2.2.1
  unfold F_Md_stacked_185
  refine pt_12_6 C (fun _ h => List.mem_cons_of_mem _ (List.mem_append_right _ h)) (hts _ (List.mem_of_getElem? (i := 6) rfl)) w dX7_stacked_185 (fun H locs w => ?_)
  refine lv_iconst (v := 1) hx hb dX7_stacked_188 (by decide) ?_
  exact retZ C w dX7_stacked_189 (Or.inr rfl)
def F_Md_stacked_200 (mu : Mu) : Int32 × Mu := (1, (ps mu 12 8 1))
set_option maxHeartbeats 4000000 in
set_option maxRecDepth 100000 in
theorem k_Md_stacked_200 (C : Cx cX7_stacked 2 (some .boolean) wsX7_stacked RX7 A D cA tb p s m args meth c) {mu nu : Mu} {H : Heap} {locs : List Loc} {ls : Array Slot} (w : Wd A D cA ad s nu mu H locs) (hl : lv_has ls 2 [(0, .ref (ad 12))]) : W p l e { frames := 6, cells := 0, slots := 0, locals := 128 } s m args below meth c H locs 0 0 (QI A D cA ad below args s (F_Md_stacked_200 mu).1 nu (F_Md_stacked_200 mu).2) (F0 m 200 ls []) := by
  have hx := C.1
  have hb := C.2.1
  have hts := C.2.2.2.2.2.1
  have hown := C.2.2.2.2.1
  unfold F_Md_stacked_200
  refine lv_aload_n hx hb dX7_stacked_200 rfl (lv_at hl 0 rfl) ?_
  refine lv_iconst (v := 1) hx hb dX7_stacked_201 (by decide) ?_
  refine pt_12_8 C (fun _ h => List.mem_cons_of_mem _ (List.mem_append_right _ h)) (hts _ (List.mem_of_getElem? (i := 7) rfl)) w (Or.inr rfl) dX7_stacked_202 (fun H locs w => ?_)
  refine lv_iconst (v := 1) hx hb dX7_stacked_205 (by decide) ?_
  exact retZ C w dX7_stacked_206 (Or.inr rfl)
def F_Md_stacked_225 (y1 : Int32) (mu : Mu) : Int32 × Mu := (1, (ps mu 12 6 y1))
set_option maxHeartbeats 4000000 in
set_option maxRecDepth 100000 in
theorem k_Md_stacked_225 (C : Cx cX7_stacked 2 (some .boolean) wsX7_stacked RX7 A D cA tb p s m args meth c) {mu nu : Mu} {y1 : Int32} {H : Heap} {locs : List Loc} {ls : Array Slot} (w : Wd A D cA ad s nu mu H locs) (hl : lv_has ls 2 []) : W p l e { frames := 6, cells := 0, slots := 0, locals := 128 } s m args below meth c H locs 0 0 (QI A D cA ad below args s (F_Md_stacked_225 y1 mu).1 nu (F_Md_stacked_225 y1 mu).2) (F0 m 225 ls [.int y1, .ref (ad 12)]) := by
  have hx := C.1
  have hb := C.2.1
  have hts := C.2.2.2.2.2.1
  have hown := C.2.2.2.2.1
  unfold F_Md_stacked_225
  refine pt_12_6 C (fun _ h => List.mem_cons_of_mem _ (List.mem_append_right _ h)) (hts _ (List.mem_of_getElem? (i := 6) rfl)) w dX7_stacked_225 (fun H locs w => ?_)
  refine lv_iconst (v := 1) hx hb dX7_stacked_228 (by decide) ?_
  exact retZ C w dX7_stacked_229 (Or.inr rfl)
def F_Md_stacked_218 (mu : Mu) : Int32 × Mu := F_Md_stacked_225 ((F_Md_readWord 65530 mu).1) ((F_Md_readWord 65530 mu).2)
set_option maxHeartbeats 4000000 in
set_option maxRecDepth 100000 in
theorem k_Md_stacked_218 (C : Cx cX7_stacked 2 (some .boolean) wsX7_stacked RX7 A D cA tb p s m args meth c) {mu nu : Mu} {H : Heap} {locs : List Loc} {ls : Array Slot} (w : Wd A D cA ad s nu mu H locs) (hl : lv_has ls 2 [(0, .ref (ad 12))]) : W p l e { frames := 6, cells := 0, slots := 0, locals := 128 } s m args below meth c H locs 0 0 (QI A D cA ad below args s (F_Md_stacked_218 mu).1 nu (F_Md_stacked_218 mu).2) (F0 m 218 ls []) := by
  have hx := C.1
  have hb := C.2.1
  have hts := C.2.2.2.2.2.1
  have hown := C.2.2.2.2.1
  unfold F_Md_stacked_218
  refine lv_aload_n hx hb dX7_stacked_218 rfl (lv_at hl 0 rfl) ?_
  refine lv_aload_n hx hb dX7_stacked_219 rfl (lv_at hl 0 rfl) ?_
  refine lv_ldc (v := 65530) hx hb hown (hts _ (List.mem_of_getElem? (i := 8) rfl)) dX7_stacked_220 ?_
  refine kcI (k := 12) (ci := 7) (As := [.int 65530]) (rest := [.ref (ad 12)]) C w rfl rfl (c_Md_readWord l A D cA tb ad mu nu 65530) (cwV 1 hts gX7_stacked_X7_readWord rfl rfl rfl (by decide +kernel) ⟨Nat.le_of_ble_eq_true rfl, Nat.le_of_ble_eq_true rfl⟩) rfl rfl hl.1 (Nat.le_of_ble_eq_true rfl) dX7_stacked_222 (fun H locs w => ?_)
  exact k_Md_stacked_225 C w (lv_sub hl [] rfl)
def F_Md_stacked_211 (mu : Mu) : Int32 × Mu := F_Md_stacked_218 (F_Md_tell 16 1 mu)
set_option maxHeartbeats 4000000 in
set_option maxRecDepth 100000 in
theorem k_Md_stacked_211 (C : Cx cX7_stacked 2 (some .boolean) wsX7_stacked RX7 A D cA tb p s m args meth c) {mu nu : Mu} {H : Heap} {locs : List Loc} {ls : Array Slot} (w : Wd A D cA ad s nu mu H locs) (hl : lv_has ls 2 [(0, .ref (ad 12))]) : W p l e { frames := 6, cells := 0, slots := 0, locals := 128 } s m args below meth c H locs 0 0 (QI A D cA ad below args s (F_Md_stacked_211 mu).1 nu (F_Md_stacked_211 mu).2) (F0 m 211 ls []) := by
  have hx := C.1
  have hb := C.2.1
  have hts := C.2.2.2.2.2.1
  have hown := C.2.2.2.2.1
  unfold F_Md_stacked_211
  refine lv_aload_n hx hb dX7_stacked_211 rfl (lv_at hl 0 rfl) ?_
  refine lv_bipush (v := 16) hx hb dX7_stacked_212 (by decide) ?_
  refine lv_iconst (v := 1) hx hb dX7_stacked_214 (by decide) ?_
  refine kcV (k := 12) (ci := 7) (As := [.int 16, .int 1]) (rest := []) C w rfl rfl (c_Md_tell l A D cA tb ad mu nu 16 1) (cwV 2 hts gX7_stacked_X7_tell rfl rfl rfl (by decide +kernel) ⟨Nat.le_of_ble_eq_true rfl, Nat.le_of_ble_eq_true rfl⟩) rfl rfl hl.1 (Nat.le_of_ble_eq_true rfl) dX7_stacked_215 (fun H locs w => ?_)
  exact k_Md_stacked_218 C w (lv_sub hl [0] rfl)
def F_Md_stacked (x1 : Int32) (mu : Mu) : Int32 × Mu := (if x1 = 48 then (1, (ps mu 12 4 (((mu 12 5) + 1) &&& 65535))) else (if x1 = 49 then (1, (ps mu 12 5 (((mu 12 5) + 1) &&& 65535))) else (if x1 = 50 then F_Md_stacked_115 ((F_Md_pull mu).1) ((F_Md_pull mu).2) else (if x1 = 51 then F_Md_stacked_125 ((F_Md_pull mu).1) ((F_Md_pull mu).2) else (if x1 = 52 then (1, (ps mu 12 5 (((mu 12 5) - 1) &&& 65535))) else (if x1 = 53 then (1, (ps mu 12 5 (((mu 12 4) - 1) &&& 65535))) else (if x1 = 54 then (1, (F_Md_push (mu 12 2) mu)) else (if x1 = 55 then (1, (F_Md_push (mu 12 3) mu)) else (if x1 = 56 then (0, mu) else (if x1 = 57 then F_Md_stacked_185 ((F_Md_pullWord mu).1) ((F_Md_pullWord mu).2) else (if x1 = 58 then (0, mu) else (if x1 = 59 then (1, (F_Md_pullAll mu)) else (if x1 = 60 then (0, mu) else (if x1 = 61 then (0, mu) else (if x1 = 62 then F_Md_stacked_200 (F_Md_pushAll mu) else (if x1 = 63 then F_Md_stacked_211 (F_Md_pushAll mu) else (0, mu)))))))))))))))))
set_option maxHeartbeats 4000000 in
set_option maxRecDepth 100000 in
theorem k_Md_stacked (C : Cx cX7_stacked 2 (some .boolean) wsX7_stacked RX7 A D cA tb p s m args meth c) {mu nu : Mu} {x1 : Int32} {H : Heap} {locs : List Loc} {ls : Array Slot} (w : Wd A D cA ad s nu mu H locs) (hl : lv_has ls 2 [(0, .ref (ad 12)), (1, .int x1)]) : W p l e { frames := 6, cells := 0, slots := 0, locals := 128 } s m args below meth c H locs 0 0 (QI A D cA ad below args s (F_Md_stacked x1 mu).1 nu (F_Md_stacked x1 mu).2) (F0 m 0 ls []) := by
  have hx := C.1
  have hb := C.2.1
  have hts := C.2.2.2.2.2.1
  have hown := C.2.2.2.2.1
  unfold F_Md_stacked
  refine lv_iload_n hx hb dX7_stacked_0 rfl (lv_at hl 1 rfl) ?_
  by_cases h1_48 : x1 = (48 : Int32)
  · rw [if_pos h1_48]
    refine lv_tableIn (off := 79) (tgt := 80) hx hb dX7_stacked_1 (by rw [h1_48]; decide) (by rw [h1_48]; decide) (by rw [h1_48]; decide) (by decide) ?_
    refine lv_aload_n hx hb dX7_stacked_80 rfl (lv_at hl 0 rfl) ?_
    refine lv_aload_n hx hb dX7_stacked_81 rfl (lv_at hl 0 rfl) ?_
    refine gt_12_5 C (fun _ h => List.mem_cons_of_mem _ (List.mem_append_right _ h)) (hts _ (List.mem_of_getElem? (i := 1) rfl)) w (v := (mu 12 5)) rfl dX7_stacked_82 ?_
    refine lv_iconst (v := 1) hx hb dX7_stacked_85 (by decide) ?_
    refine lv_iadd hx hb dX7_stacked_86 ?_
    refine lv_ldc (v := 65535) hx hb hown (hts _ (List.mem_of_getElem? (i := 2) rfl)) dX7_stacked_87 ?_
    refine lv_iand hx hb dX7_stacked_89 ?_
    refine pt_12_4 C (fun _ h => List.mem_cons_of_mem _ (List.mem_append_right _ h)) (hts _ (List.mem_of_getElem? (i := 3) rfl)) w dX7_stacked_90 (fun H locs w => ?_)
    refine lv_iconst (v := 1) hx hb dX7_stacked_93 (by decide) ?_
    exact retZ C w dX7_stacked_94 (Or.inr rfl)
  · rw [if_neg h1_48]
    by_cases h1_49 : x1 = (49 : Int32)
    · rw [if_pos h1_49]
      refine lv_tableIn (off := 94) (tgt := 95) hx hb dX7_stacked_1 (by rw [h1_49]; decide) (by rw [h1_49]; decide) (by rw [h1_49]; decide) (by decide) ?_
      refine lv_aload_n hx hb dX7_stacked_95 rfl (lv_at hl 0 rfl) ?_
      refine lv_aload_n hx hb dX7_stacked_96 rfl (lv_at hl 0 rfl) ?_
      refine gt_12_5 C (fun _ h => List.mem_cons_of_mem _ (List.mem_append_right _ h)) (hts _ (List.mem_of_getElem? (i := 1) rfl)) w (v := (mu 12 5)) rfl dX7_stacked_97 ?_
      refine lv_iconst (v := 1) hx hb dX7_stacked_100 (by decide) ?_
      refine lv_iadd hx hb dX7_stacked_101 ?_
      refine lv_ldc (v := 65535) hx hb hown (hts _ (List.mem_of_getElem? (i := 2) rfl)) dX7_stacked_102 ?_
      refine lv_iand hx hb dX7_stacked_104 ?_
      refine pt_12_5 C (fun _ h => List.mem_cons_of_mem _ (List.mem_append_right _ h)) (hts _ (List.mem_of_getElem? (i := 1) rfl)) w dX7_stacked_105 (fun H locs w => ?_)
      refine lv_iconst (v := 1) hx hb dX7_stacked_108 (by decide) ?_
      exact retZ C w dX7_stacked_109 (Or.inr rfl)
    · rw [if_neg h1_49]
      by_cases h1_50 : x1 = (50 : Int32)
      · rw [if_pos h1_50]
        refine lv_tableIn (off := 109) (tgt := 110) hx hb dX7_stacked_1 (by rw [h1_50]; decide) (by rw [h1_50]; decide) (by rw [h1_50]; decide) (by decide) ?_
        refine lv_aload_n hx hb dX7_stacked_110 rfl (lv_at hl 0 rfl) ?_
        refine lv_aload_n hx hb dX7_stacked_111 rfl (lv_at hl 0 rfl) ?_
        refine kcI (k := 12) (ci := 7) (As := []) (rest := [.ref (ad 12)]) C w rfl rfl (c_Md_pull l A D cA tb ad mu nu) (cwV 0 hts gX7_stacked_X7_pull rfl rfl rfl (by decide +kernel) ⟨Nat.le_of_ble_eq_true rfl, Nat.le_of_ble_eq_true rfl⟩) rfl rfl hl.1 (Nat.le_of_ble_eq_true rfl) dX7_stacked_112 (fun H locs w => ?_)
        exact k_Md_stacked_115 C w (lv_sub hl [] rfl)
      · rw [if_neg h1_50]
        by_cases h1_51 : x1 = (51 : Int32)
        · rw [if_pos h1_51]
          refine lv_tableIn (off := 119) (tgt := 120) hx hb dX7_stacked_1 (by rw [h1_51]; decide) (by rw [h1_51]; decide) (by rw [h1_51]; decide) (by decide) ?_
          refine lv_aload_n hx hb dX7_stacked_120 rfl (lv_at hl 0 rfl) ?_
          refine lv_aload_n hx hb dX7_stacked_121 rfl (lv_at hl 0 rfl) ?_
          refine kcI (k := 12) (ci := 7) (As := []) (rest := [.ref (ad 12)]) C w rfl rfl (c_Md_pull l A D cA tb ad mu nu) (cwV 0 hts gX7_stacked_X7_pull rfl rfl rfl (by decide +kernel) ⟨Nat.le_of_ble_eq_true rfl, Nat.le_of_ble_eq_true rfl⟩) rfl rfl hl.1 (Nat.le_of_ble_eq_true rfl) dX7_stacked_122 (fun H locs w => ?_)
          exact k_Md_stacked_125 C w (lv_sub hl [] rfl)
        · rw [if_neg h1_51]
          by_cases h1_52 : x1 = (52 : Int32)
          · rw [if_pos h1_52]
            refine lv_tableIn (off := 129) (tgt := 130) hx hb dX7_stacked_1 (by rw [h1_52]; decide) (by rw [h1_52]; decide) (by rw [h1_52]; decide) (by decide) ?_
            refine lv_aload_n hx hb dX7_stacked_130 rfl (lv_at hl 0 rfl) ?_
            refine lv_aload_n hx hb dX7_stacked_131 rfl (lv_at hl 0 rfl) ?_
            refine gt_12_5 C (fun _ h => List.mem_cons_of_mem _ (List.mem_append_right _ h)) (hts _ (List.mem_of_getElem? (i := 1) rfl)) w (v := (mu 12 5)) rfl dX7_stacked_132 ?_
            refine lv_iconst (v := 1) hx hb dX7_stacked_135 (by decide) ?_
            refine lv_isub hx hb dX7_stacked_136 ?_
            refine lv_ldc (v := 65535) hx hb hown (hts _ (List.mem_of_getElem? (i := 2) rfl)) dX7_stacked_137 ?_
            refine lv_iand hx hb dX7_stacked_139 ?_
            refine pt_12_5 C (fun _ h => List.mem_cons_of_mem _ (List.mem_append_right _ h)) (hts _ (List.mem_of_getElem? (i := 1) rfl)) w dX7_stacked_140 (fun H locs w => ?_)
            refine lv_iconst (v := 1) hx hb dX7_stacked_143 (by decide) ?_
            exact retZ C w dX7_stacked_144 (Or.inr rfl)
          · rw [if_neg h1_52]
            by_cases h1_53 : x1 = (53 : Int32)
            · rw [if_pos h1_53]
              refine lv_tableIn (off := 144) (tgt := 145) hx hb dX7_stacked_1 (by rw [h1_53]; decide) (by rw [h1_53]; decide) (by rw [h1_53]; decide) (by decide) ?_
              refine lv_aload_n hx hb dX7_stacked_145 rfl (lv_at hl 0 rfl) ?_
              refine lv_aload_n hx hb dX7_stacked_146 rfl (lv_at hl 0 rfl) ?_
              refine gt_12_4 C (fun _ h => List.mem_cons_of_mem _ (List.mem_append_right _ h)) (hts _ (List.mem_of_getElem? (i := 3) rfl)) w (v := (mu 12 4)) rfl dX7_stacked_147 ?_
              refine lv_iconst (v := 1) hx hb dX7_stacked_150 (by decide) ?_
              refine lv_isub hx hb dX7_stacked_151 ?_
              refine lv_ldc (v := 65535) hx hb hown (hts _ (List.mem_of_getElem? (i := 2) rfl)) dX7_stacked_152 ?_
              refine lv_iand hx hb dX7_stacked_154 ?_
              refine pt_12_5 C (fun _ h => List.mem_cons_of_mem _ (List.mem_append_right _ h)) (hts _ (List.mem_of_getElem? (i := 1) rfl)) w dX7_stacked_155 (fun H locs w => ?_)
              refine lv_iconst (v := 1) hx hb dX7_stacked_158 (by decide) ?_
              exact retZ C w dX7_stacked_159 (Or.inr rfl)
            · rw [if_neg h1_53]
              by_cases h1_54 : x1 = (54 : Int32)
              · rw [if_pos h1_54]
                refine lv_tableIn (off := 159) (tgt := 160) hx hb dX7_stacked_1 (by rw [h1_54]; decide) (by rw [h1_54]; decide) (by rw [h1_54]; decide) (by decide) ?_
                refine lv_aload_n hx hb dX7_stacked_160 rfl (lv_at hl 0 rfl) ?_
                refine lv_aload_n hx hb dX7_stacked_161 rfl (lv_at hl 0 rfl) ?_
                refine gt_12_2 C (fun _ h => List.mem_cons_of_mem _ (List.mem_append_right _ h)) (hts _ (List.mem_of_getElem? (i := 4) rfl)) w (v := (mu 12 2)) rfl dX7_stacked_162 ?_
                refine kcV (k := 12) (ci := 7) (As := [.int ((mu 12 2))]) (rest := []) C w rfl rfl (c_Md_push l A D cA tb ad mu nu (mu 12 2)) (cwV 1 hts gX7_stacked_X7_push rfl rfl rfl (by decide +kernel) ⟨Nat.le_of_ble_eq_true rfl, Nat.le_of_ble_eq_true rfl⟩) rfl rfl hl.1 (Nat.le_of_ble_eq_true rfl) dX7_stacked_165 (fun H locs w => ?_)
                refine lv_iconst (v := 1) hx hb dX7_stacked_168 (by decide) ?_
                exact retZ C w dX7_stacked_169 (Or.inr rfl)
              · rw [if_neg h1_54]
                by_cases h1_55 : x1 = (55 : Int32)
                · rw [if_pos h1_55]
                  refine lv_tableIn (off := 169) (tgt := 170) hx hb dX7_stacked_1 (by rw [h1_55]; decide) (by rw [h1_55]; decide) (by rw [h1_55]; decide) (by decide) ?_
                  refine lv_aload_n hx hb dX7_stacked_170 rfl (lv_at hl 0 rfl) ?_
                  refine lv_aload_n hx hb dX7_stacked_171 rfl (lv_at hl 0 rfl) ?_
                  refine gt_12_3 C (fun _ h => List.mem_cons_of_mem _ (List.mem_append_right _ h)) (hts _ (List.mem_of_getElem? (i := 5) rfl)) w (v := (mu 12 3)) rfl dX7_stacked_172 ?_
                  refine kcV (k := 12) (ci := 7) (As := [.int ((mu 12 3))]) (rest := []) C w rfl rfl (c_Md_push l A D cA tb ad mu nu (mu 12 3)) (cwV 1 hts gX7_stacked_X7_push rfl rfl rfl (by decide +kernel) ⟨Nat.le_of_ble_eq_true rfl, Nat.le_of_ble_eq_true rfl⟩) rfl rfl hl.1 (Nat.le_of_ble_eq_true rfl) dX7_stacked_175 (fun H locs w => ?_)
                  refine lv_iconst (v := 1) hx hb dX7_stacked_178 (by decide) ?_
                  exact retZ C w dX7_stacked_179 (Or.inr rfl)
                · rw [if_neg h1_55]
                  by_cases h1_56 : x1 = (56 : Int32)
                  · rw [if_pos h1_56]
                    refine lv_tableIn (off := 229) (tgt := 230) hx hb dX7_stacked_1 (by rw [h1_56]; decide) (by rw [h1_56]; decide) (by rw [h1_56]; decide) (by decide) ?_
                    refine lv_iconst (v := 0) hx hb dX7_stacked_230 (by decide) ?_
                    exact retZ C w dX7_stacked_231 (Or.inl rfl)
                  · rw [if_neg h1_56]
                    by_cases h1_57 : x1 = (57 : Int32)
                    · rw [if_pos h1_57]
                      refine lv_tableIn (off := 179) (tgt := 180) hx hb dX7_stacked_1 (by rw [h1_57]; decide) (by rw [h1_57]; decide) (by rw [h1_57]; decide) (by decide) ?_
                      refine lv_aload_n hx hb dX7_stacked_180 rfl (lv_at hl 0 rfl) ?_
                      refine lv_aload_n hx hb dX7_stacked_181 rfl (lv_at hl 0 rfl) ?_
                      refine kcI (k := 12) (ci := 7) (As := []) (rest := [.ref (ad 12)]) C w rfl rfl (c_Md_pullWord l A D cA tb ad mu nu) (cwV 0 hts gX7_stacked_X7_pullWord rfl rfl rfl (by decide +kernel) ⟨Nat.le_of_ble_eq_true rfl, Nat.le_of_ble_eq_true rfl⟩) rfl rfl hl.1 (Nat.le_of_ble_eq_true rfl) dX7_stacked_182 (fun H locs w => ?_)
                      exact k_Md_stacked_185 C w (lv_sub hl [] rfl)
                    · rw [if_neg h1_57]
                      by_cases h1_58 : x1 = (58 : Int32)
                      · rw [if_pos h1_58]
                        refine lv_tableIn (off := 229) (tgt := 230) hx hb dX7_stacked_1 (by rw [h1_58]; decide) (by rw [h1_58]; decide) (by rw [h1_58]; decide) (by decide) ?_
                        refine lv_iconst (v := 0) hx hb dX7_stacked_230 (by decide) ?_
                        exact retZ C w dX7_stacked_231 (Or.inl rfl)
                      · rw [if_neg h1_58]
                        by_cases h1_59 : x1 = (59 : Int32)
                        · rw [if_pos h1_59]
                          refine lv_tableIn (off := 189) (tgt := 190) hx hb dX7_stacked_1 (by rw [h1_59]; decide) (by rw [h1_59]; decide) (by rw [h1_59]; decide) (by decide) ?_
                          refine lv_aload_n hx hb dX7_stacked_190 rfl (lv_at hl 0 rfl) ?_
                          refine kcV (k := 12) (ci := 7) (As := []) (rest := []) C w rfl rfl (c_Md_pullAll l A D cA tb ad mu nu) (cwV 0 hts gX7_stacked_X7_pullAll rfl rfl rfl (by decide +kernel) ⟨Nat.le_of_ble_eq_true rfl, Nat.le_of_ble_eq_true rfl⟩) rfl rfl hl.1 (Nat.le_of_ble_eq_true rfl) dX7_stacked_191 (fun H locs w => ?_)
                          refine lv_iconst (v := 1) hx hb dX7_stacked_194 (by decide) ?_
                          exact retZ C w dX7_stacked_195 (Or.inr rfl)
                        · rw [if_neg h1_59]
                          by_cases h1_60 : x1 = (60 : Int32)
                          · rw [if_pos h1_60]
                            refine lv_tableIn (off := 229) (tgt := 230) hx hb dX7_stacked_1 (by rw [h1_60]; decide) (by rw [h1_60]; decide) (by rw [h1_60]; decide) (by decide) ?_
                            refine lv_iconst (v := 0) hx hb dX7_stacked_230 (by decide) ?_
                            exact retZ C w dX7_stacked_231 (Or.inl rfl)
                          · rw [if_neg h1_60]
                            by_cases h1_61 : x1 = (61 : Int32)
                            · rw [if_pos h1_61]
                              refine lv_tableIn (off := 229) (tgt := 230) hx hb dX7_stacked_1 (by rw [h1_61]; decide) (by rw [h1_61]; decide) (by rw [h1_61]; decide) (by decide) ?_
                              refine lv_iconst (v := 0) hx hb dX7_stacked_230 (by decide) ?_
                              exact retZ C w dX7_stacked_231 (Or.inl rfl)
                            · rw [if_neg h1_61]
                              by_cases h1_62 : x1 = (62 : Int32)
                              · rw [if_pos h1_62]
                                refine lv_tableIn (off := 195) (tgt := 196) hx hb dX7_stacked_1 (by rw [h1_62]; decide) (by rw [h1_62]; decide) (by rw [h1_62]; decide) (by decide) ?_
                                refine lv_aload_n hx hb dX7_stacked_196 rfl (lv_at hl 0 rfl) ?_
                                refine kcV (k := 12) (ci := 7) (As := []) (rest := []) C w rfl rfl (c_Md_pushAll l A D cA tb ad mu nu) (cwV 0 hts gX7_stacked_X7_pushAll rfl rfl rfl (by decide +kernel) ⟨Nat.le_of_ble_eq_true rfl, Nat.le_of_ble_eq_true rfl⟩) rfl rfl hl.1 (Nat.le_of_ble_eq_true rfl) dX7_stacked_197 (fun H locs w => ?_)
                                exact k_Md_stacked_200 C w (lv_sub hl [0] rfl)
                              · rw [if_neg h1_62]
                                by_cases h1_63 : x1 = (63 : Int32)
                                · rw [if_pos h1_63]
                                  refine lv_tableIn (off := 206) (tgt := 207) hx hb dX7_stacked_1 (by rw [h1_63]; decide) (by rw [h1_63]; decide) (by rw [h1_63]; decide) (by decide) ?_
                                  refine lv_aload_n hx hb dX7_stacked_207 rfl (lv_at hl 0 rfl) ?_
                                  refine kcV (k := 12) (ci := 7) (As := []) (rest := []) C w rfl rfl (c_Md_pushAll l A D cA tb ad mu nu) (cwV 0 hts gX7_stacked_X7_pushAll rfl rfl rfl (by decide +kernel) ⟨Nat.le_of_ble_eq_true rfl, Nat.le_of_ble_eq_true rfl⟩) rfl rfl hl.1 (Nat.le_of_ble_eq_true rfl) dX7_stacked_208 (fun H locs w => ?_)
                                  exact k_Md_stacked_211 C w (lv_sub hl [0] rfl)
                                · rw [if_neg h1_63]
                                  refine lv_tableOut (tgt := 230) hx hb dX7_stacked_1 (by have := lv_neT h1_48 (a := 48) rfl; have := lv_neT h1_49 (a := 49) rfl; have := lv_neT h1_50 (a := 50) rfl; have := lv_neT h1_51 (a := 51) rfl; have := lv_neT h1_52 (a := 52) rfl; have := lv_neT h1_53 (a := 53) rfl; have := lv_neT h1_54 (a := 54) rfl; have := lv_neT h1_55 (a := 55) rfl; have := lv_neT h1_56 (a := 56) rfl; have := lv_neT h1_57 (a := 57) rfl; have := lv_neT h1_58 (a := 58) rfl; have := lv_neT h1_59 (a := 59) rfl; have := lv_neT h1_60 (a := 60) rfl; have := lv_neT h1_61 (a := 61) rfl; have := lv_neT h1_62 (a := 62) rfl; have := lv_neT h1_63 (a := 63) rfl; omega) (by decide) ?_
                                  refine lv_iconst (v := 0) hx hb dX7_stacked_230 (by decide) ?_
                                  exact retZ C w dX7_stacked_231 (Or.inl rfl)
set_option maxHeartbeats 4000000 in
set_option maxRecDepth 100000 in
theorem c_Md_stacked (l : Launch) (A : Nat → Prop) (D : va_G) (cA : Nat → ClassId) (tb : Nat) (ad : Nat → Nat) (mu nu : Mu) (x1 : Int32) : Met l yX7_stacked wsX7_stacked ({ frames := 6, cells := 0, slots := 0, locals := 128 }) (va_Pc [.ref (ad 12), .int x1] (Pw A D cA tb ad nu mu)) (va_Qi (fun (r : Int32) (u : Mu × Mu) => r = (F_Md_stacked x1 mu).1 ∧ u = (nu, (F_Md_stacked x1 mu).2)) (Bw A D cA ad) A) 0 0 A := by
  refine Met.ofW (cc := cX7_stacked) (maxL := 2) (ret := (some .boolean)) (by decide) rfl ?_
  intro p e s m args below meth c s₁ B hml hv
  obtain ⟨rfl, w0⟩ := hv
  have C : Cx cX7_stacked 2 (some .boolean) wsX7_stacked RX7 A D cA tb p s m _ meth c := ⟨B.exec, B.bytes, B.returns, hml, findClass_of_methodNamed B.named, atoms_spec (ws := wsX7_stacked) B.pre, B.notSynchronized, w0.2.1, w0.2.2.2.1, w0.2.2.2.2⟩
  have hl := lv_entry ([.ref (ad 12), .int x1]) (n := 2) (Nat.le_of_ble_eq_true rfl)
  rw [lg_entry_eq]
  exact k_Md_stacked C w0.wd hl
def F_Md_nextWord_4 (y0 : Int32) (mu : Mu) : Int32 × Mu := (((y0 * 256) + (F_Md_next mu).1), (F_Md_next mu).2)
set_option maxHeartbeats 4000000 in
set_option maxRecDepth 100000 in
theorem k_Md_nextWord_4 (C : Cx cX7_nextWord 2 (some .int) wsX7_nextWord RX7 A D cA tb p s m args meth c) {mu nu : Mu} {y0 : Int32} {H : Heap} {locs : List Loc} {ls : Array Slot} (w : Wd A D cA ad s nu mu H locs) (hl : lv_has ls 2 [(0, .ref (ad 12))]) : W p l e { frames := 4, cells := 0, slots := 0, locals := 85 } s m args below meth c H locs 0 0 (QI A D cA ad below args s (F_Md_nextWord_4 y0 mu).1 nu (F_Md_nextWord_4 y0 mu).2) (F0 m 4 ls [.int y0]) := by
  have hx := C.1
  have hb := C.2.1
  have hts := C.2.2.2.2.2.1
  have hown := C.2.2.2.2.1
  unfold F_Md_nextWord_4
  refine lv_istore_n (lv' := [(1, .int y0), (0, .ref (ad 12))]) hx hb dX7_nextWord_4 rfl hl (by decide) rfl (fun ls hl => ?_)
  refine lv_iload_n hx hb dX7_nextWord_5 rfl (lv_at hl 0 rfl) ?_
  refine lv_sipush (v := 256) hx hb dX7_nextWord_6 (by decide) ?_
  refine lv_imul hx hb dX7_nextWord_9 ?_
  refine lv_aload_n hx hb dX7_nextWord_10 rfl (lv_at hl 1 rfl) ?_
  refine kcI (k := 12) (ci := 7) (As := []) (rest := [.int ((y0 * 256))]) C w rfl rfl (c_Md_next l A D cA tb ad mu nu) (cwV 0 hts gX7_nextWord_X7_next rfl rfl rfl (by decide +kernel) ⟨Nat.le_of_ble_eq_true rfl, Nat.le_of_ble_eq_true rfl⟩) rfl rfl hl.1 (Nat.le_of_ble_eq_true rfl) dX7_nextWord_11 (fun H locs w => ?_)
  refine lv_iadd hx hb dX7_nextWord_14 ?_
  exact retI C w dX7_nextWord_15
def F_Md_nextWord (mu : Mu) : Int32 × Mu := F_Md_nextWord_4 ((F_Md_next mu).1) ((F_Md_next mu).2)
set_option maxHeartbeats 4000000 in
set_option maxRecDepth 100000 in
theorem k_Md_nextWord (C : Cx cX7_nextWord 2 (some .int) wsX7_nextWord RX7 A D cA tb p s m args meth c) {mu nu : Mu} {H : Heap} {locs : List Loc} {ls : Array Slot} (w : Wd A D cA ad s nu mu H locs) (hl : lv_has ls 2 [(0, .ref (ad 12))]) : W p l e { frames := 4, cells := 0, slots := 0, locals := 85 } s m args below meth c H locs 0 0 (QI A D cA ad below args s (F_Md_nextWord mu).1 nu (F_Md_nextWord mu).2) (F0 m 0 ls []) := by
  have hx := C.1
  have hb := C.2.1
  have hts := C.2.2.2.2.2.1
  have hown := C.2.2.2.2.1
  unfold F_Md_nextWord
  refine lv_aload_n hx hb dX7_nextWord_0 rfl (lv_at hl 0 rfl) ?_
  refine kcI (k := 12) (ci := 7) (As := []) (rest := []) C w rfl rfl (c_Md_next l A D cA tb ad mu nu) (cwV 0 hts gX7_nextWord_X7_next rfl rfl rfl (by decide +kernel) ⟨Nat.le_of_ble_eq_true rfl, Nat.le_of_ble_eq_true rfl⟩) rfl rfl hl.1 (Nat.le_of_ble_eq_true rfl) dX7_nextWord_1 (fun H locs w => ?_)
  exact k_Md_nextWord_4 C w (lv_sub hl [0] rfl)
set_option maxHeartbeats 4000000 in
set_option maxRecDepth 100000 in
theorem c_Md_nextWord (l : Launch) (A : Nat → Prop) (D : va_G) (cA : Nat → ClassId) (tb : Nat) (ad : Nat → Nat) (mu nu : Mu) : Met l yX7_nextWord wsX7_nextWord ({ frames := 4, cells := 0, slots := 0, locals := 85 }) (va_Pc [.ref (ad 12)] (Pw A D cA tb ad nu mu)) (va_Qi (fun (r : Int32) (u : Mu × Mu) => r = (F_Md_nextWord mu).1 ∧ u = (nu, (F_Md_nextWord mu).2)) (Bw A D cA ad) A) 0 0 A := by
  refine Met.ofW (cc := cX7_nextWord) (maxL := 2) (ret := (some .int)) (by decide) rfl ?_
  intro p e s m args below meth c s₁ B hml hv
  obtain ⟨rfl, w0⟩ := hv
  have C : Cx cX7_nextWord 2 (some .int) wsX7_nextWord RX7 A D cA tb p s m _ meth c := ⟨B.exec, B.bytes, B.returns, hml, findClass_of_methodNamed B.named, atoms_spec (ws := wsX7_nextWord) B.pre, B.notSynchronized, w0.2.1, w0.2.2.2.1, w0.2.2.2.2⟩
  have hl := lv_entry ([.ref (ad 12)]) (n := 2) (Nat.le_of_ble_eq_true rfl)
  rw [lg_entry_eq]
  exact k_Md_nextWord C w0.wd hl
def F_Md_addressOf_14 (x1 : Int32) (y0 : Int32) (mu : Mu) : Int32 × Mu := (if x1 = (1 : Int32) then (y0, mu) else ((((mu 12 4) + y0) &&& 65535), mu))
set_option maxHeartbeats 4000000 in
set_option maxRecDepth 100000 in
theorem k_Md_addressOf_14 (C : Cx cX7_addressOf 3 (some .int) wsX7_addressOf RX7 A D cA tb p s m args meth c) {mu nu : Mu} {x1 : Int32} {y0 : Int32} {H : Heap} {locs : List Loc} {ls : Array Slot} (w : Wd A D cA ad s nu mu H locs) (hl : lv_has ls 3 [(0, .ref (ad 12)), (1, .int x1)]) : W p l e { frames := 5, cells := 0, slots := 0, locals := 106 } s m args below meth c H locs 0 0 (QI A D cA ad below args s (F_Md_addressOf_14 x1 y0 mu).1 nu (F_Md_addressOf_14 x1 y0 mu).2) (F0 m 14 ls [.int y0]) := by
  have hx := C.1
  have hb := C.2.1
  have hts := C.2.2.2.2.2.1
  have hown := C.2.2.2.2.1
  unfold F_Md_addressOf_14
  refine lv_istore_n (lv' := [(2, .int y0), (0, .ref (ad 12)), (1, .int x1)]) hx hb dX7_addressOf_14 rfl hl (by decide) rfl (fun ls hl => ?_)
  refine lv_iload_n hx hb dX7_addressOf_15 rfl (lv_at hl 2 rfl) ?_
  refine lv_iconst (v := 1) hx hb dX7_addressOf_16 (by decide) ?_
  refine lv_icmp_ne (tgt := 24) hx hb dX7_addressOf_17 (by decide) (fun h17 => ?_) (fun h17 => ?_)
  · rw [if_neg h17]
    refine lv_aload_n hx hb dX7_addressOf_24 rfl (lv_at hl 1 rfl) ?_
    refine gt_12_4 C (fun _ h => List.mem_cons_of_mem _ (List.mem_append_right _ h)) (hts _ (List.mem_of_getElem? (i := 1) rfl)) w (v := (mu 12 4)) rfl dX7_addressOf_25 ?_
    refine lv_iload_n hx hb dX7_addressOf_28 rfl (lv_at hl 0 rfl) ?_
    refine lv_iadd hx hb dX7_addressOf_29 ?_
    refine lv_ldc (v := 65535) hx hb hown (hts _ (List.mem_of_getElem? (i := 2) rfl)) dX7_addressOf_30 ?_
    refine lv_iand hx hb dX7_addressOf_32 ?_
    exact retI C w dX7_addressOf_33
  · rw [if_pos h17]
    refine lv_iload_n hx hb dX7_addressOf_20 rfl (lv_at hl 0 rfl) ?_
    refine lv_goto (tgt := 33) hx hb dX7_addressOf_21 (by decide) ?_
    exact retI C w dX7_addressOf_33
def F_Md_addressOf (x1 : Int32) (mu : Mu) : Int32 × Mu := (if x1 = (3 : Int32) then ((F_Md_nextWord mu).1, (F_Md_nextWord mu).2) else F_Md_addressOf_14 x1 ((F_Md_next mu).1) ((F_Md_next mu).2))
set_option maxHeartbeats 4000000 in
set_option maxRecDepth 100000 in
theorem k_Md_addressOf (C : Cx cX7_addressOf 3 (some .int) wsX7_addressOf RX7 A D cA tb p s m args meth c) {mu nu : Mu} {x1 : Int32} {H : Heap} {locs : List Loc} {ls : Array Slot} (w : Wd A D cA ad s nu mu H locs) (hl : lv_has ls 3 [(0, .ref (ad 12)), (1, .int x1)]) : W p l e { frames := 5, cells := 0, slots := 0, locals := 106 } s m args below meth c H locs 0 0 (QI A D cA ad below args s (F_Md_addressOf x1 mu).1 nu (F_Md_addressOf x1 mu).2) (F0 m 0 ls []) := by
  have hx := C.1
  have hb := C.2.1
  have hts := C.2.2.2.2.2.1
  have hown := C.2.2.2.2.1
  unfold F_Md_addressOf
  refine lv_iload_n hx hb dX7_addressOf_0 rfl (lv_at hl 1 rfl) ?_
  refine lv_iconst (v := 3) hx hb dX7_addressOf_1 (by decide) ?_
  refine lv_icmp_ne (tgt := 10) hx hb dX7_addressOf_2 (by decide) (fun h2 => ?_) (fun h2 => ?_)
  · rw [if_neg h2]
    refine lv_aload_n hx hb dX7_addressOf_10 rfl (lv_at hl 0 rfl) ?_
    refine kcI (k := 12) (ci := 7) (As := []) (rest := []) C w rfl rfl (c_Md_next l A D cA tb ad mu nu) (cwV 0 hts gX7_addressOf_X7_next rfl rfl rfl (by decide +kernel) ⟨Nat.le_of_ble_eq_true rfl, Nat.le_of_ble_eq_true rfl⟩) rfl rfl hl.1 (Nat.le_of_ble_eq_true rfl) dX7_addressOf_11 (fun H locs w => ?_)
    exact k_Md_addressOf_14 C w (lv_sub hl [0, 1] rfl)
  · rw [if_pos h2]
    refine lv_aload_n hx hb dX7_addressOf_5 rfl (lv_at hl 0 rfl) ?_
    refine kcI (k := 12) (ci := 7) (As := []) (rest := []) C w rfl rfl (c_Md_nextWord l A D cA tb ad mu nu) (cwV 0 hts gX7_addressOf_X7_nextWord rfl rfl rfl (by decide +kernel) ⟨Nat.le_of_ble_eq_true rfl, Nat.le_of_ble_eq_true rfl⟩) rfl rfl hl.1 (Nat.le_of_ble_eq_true rfl) dX7_addressOf_6 (fun H locs w => ?_)
    exact retI C w dX7_addressOf_9
set_option maxHeartbeats 4000000 in
set_option maxRecDepth 100000 in
theorem c_Md_addressOf (l : Launch) (A : Nat → Prop) (D : va_G) (cA : Nat → ClassId) (tb : Nat) (ad : Nat → Nat) (mu nu : Mu) (x1 : Int32) : Met l yX7_addressOf wsX7_addressOf ({ frames := 5, cells := 0, slots := 0, locals := 106 }) (va_Pc [.ref (ad 12), .int x1] (Pw A D cA tb ad nu mu)) (va_Qi (fun (r : Int32) (u : Mu × Mu) => r = (F_Md_addressOf x1 mu).1 ∧ u = (nu, (F_Md_addressOf x1 mu).2)) (Bw A D cA ad) A) 0 0 A := by
  refine Met.ofW (cc := cX7_addressOf) (maxL := 3) (ret := (some .int)) (by decide) rfl ?_
  intro p e s m args below meth c s₁ B hml hv
  obtain ⟨rfl, w0⟩ := hv
  have C : Cx cX7_addressOf 3 (some .int) wsX7_addressOf RX7 A D cA tb p s m _ meth c := ⟨B.exec, B.bytes, B.returns, hml, findClass_of_methodNamed B.named, atoms_spec (ws := wsX7_addressOf) B.pre, B.notSynchronized, w0.2.1, w0.2.2.2.1, w0.2.2.2.2⟩
  have hl := lv_entry ([.ref (ad 12), .int x1]) (n := 3) (Nat.le_of_ble_eq_true rfl)
  rw [lg_entry_eq]
  exact k_Md_addressOf C w0.wd hl
def F_Md_isSingle_26 (x0 : Int32) (mu : Mu) : Int32 := (if x0 = (12 : Int32) then 1 else (if x0 = (13 : Int32) then 1 else (if x0 = (15 : Int32) then 1 else 0)))
set_option maxHeartbeats 4000000 in
set_option maxRecDepth 100000 in
theorem k_Md_isSingle_26 (C : Cx cX7_isSingle 1 (some .boolean) wsX7_isSingle RX7 A D cA tb p s m args meth c) {mu nu : Mu} {x0 : Int32} {H : Heap} {locs : List Loc} {ls : Array Slot} (w : Wd A D cA ad s nu mu H locs) (hl : lv_has ls 1 [(0, .int x0)]) : W p l e { frames := 0, cells := 0, slots := 0, locals := 0 } s m args below meth c H locs 0 0 (QI A D cA ad below args s (F_Md_isSingle_26 x0 mu) nu mu) (F0 m 26 ls []) := by
  have hx := C.1
  have hb := C.2.1
  have hts := C.2.2.2.2.2.1
  have hown := C.2.2.2.2.1
  unfold F_Md_isSingle_26
  refine lv_iload_n hx hb dX7_isSingle_26 rfl (lv_at hl 0 rfl) ?_
  refine lv_bipush (v := 12) hx hb dX7_isSingle_27 (by decide) ?_
  refine lv_icmp_eq (tgt := 44) hx hb dX7_isSingle_29 (by decide) (fun h29 => ?_) (fun h29 => ?_)
  · rw [if_pos h29]
    refine lv_iconst (v := 1) hx hb dX7_isSingle_44 (by decide) ?_
    refine lv_goto (tgt := 49) hx hb dX7_isSingle_45 (by decide) ?_
    exact retZ C w dX7_isSingle_49 (Or.inr rfl)
  · rw [if_neg h29]
    refine lv_iload_n hx hb dX7_isSingle_32 rfl (lv_at hl 0 rfl) ?_
    refine lv_bipush (v := 13) hx hb dX7_isSingle_33 (by decide) ?_
    refine lv_icmp_eq (tgt := 44) hx hb dX7_isSingle_35 (by decide) (fun h35 => ?_) (fun h35 => ?_)
    · rw [if_pos h35]
      refine lv_iconst (v := 1) hx hb dX7_isSingle_44 (by decide) ?_
      refine lv_goto (tgt := 49) hx hb dX7_isSingle_45 (by decide) ?_
      exact retZ C w dX7_isSingle_49 (Or.inr rfl)
    · rw [if_neg h35]
      refine lv_iload_n hx hb dX7_isSingle_38 rfl (lv_at hl 0 rfl) ?_
      refine lv_bipush (v := 15) hx hb dX7_isSingle_39 (by decide) ?_
      refine lv_icmp_ne (tgt := 48) hx hb dX7_isSingle_41 (by decide) (fun h41 => ?_) (fun h41 => ?_)
      · rw [if_neg h41]
        refine lv_iconst (v := 0) hx hb dX7_isSingle_48 (by decide) ?_
        exact retZ C w dX7_isSingle_49 (Or.inl rfl)
      · rw [if_pos h41]
        refine lv_iconst (v := 1) hx hb dX7_isSingle_44 (by decide) ?_
        refine lv_goto (tgt := 49) hx hb dX7_isSingle_45 (by decide) ?_
        exact retZ C w dX7_isSingle_49 (Or.inr rfl)
def F_Md_isSingle (x0 : Int32) (mu : Mu) : Int32 := (if x0 = (0 : Int32) then 1 else (if x0 = (3 : Int32) then 1 else (if x0 = (4 : Int32) then 1 else (if x0 < (6 : Int32) then F_Md_isSingle_26 x0 mu else (if x0 ≤ (10 : Int32) then 1 else F_Md_isSingle_26 x0 mu)))))
set_option maxHeartbeats 4000000 in
set_option maxRecDepth 100000 in
theorem k_Md_isSingle (C : Cx cX7_isSingle 1 (some .boolean) wsX7_isSingle RX7 A D cA tb p s m args meth c) {mu nu : Mu} {x0 : Int32} {H : Heap} {locs : List Loc} {ls : Array Slot} (w : Wd A D cA ad s nu mu H locs) (hl : lv_has ls 1 [(0, .int x0)]) : W p l e { frames := 0, cells := 0, slots := 0, locals := 0 } s m args below meth c H locs 0 0 (QI A D cA ad below args s (F_Md_isSingle x0 mu) nu mu) (F0 m 0 ls []) := by
  have hx := C.1
  have hb := C.2.1
  have hts := C.2.2.2.2.2.1
  have hown := C.2.2.2.2.1
  unfold F_Md_isSingle
  refine lv_iload_n hx hb dX7_isSingle_0 rfl (lv_at hl 0 rfl) ?_
  refine lv_if_eq (tgt := 44) hx hb dX7_isSingle_1 (by decide) (fun h1 => ?_) (fun h1 => ?_)
  · rw [if_pos h1]
    refine lv_iconst (v := 1) hx hb dX7_isSingle_44 (by decide) ?_
    refine lv_goto (tgt := 49) hx hb dX7_isSingle_45 (by decide) ?_
    exact retZ C w dX7_isSingle_49 (Or.inr rfl)
  · rw [if_neg h1]
    refine lv_iload_n hx hb dX7_isSingle_4 rfl (lv_at hl 0 rfl) ?_
    refine lv_iconst (v := 3) hx hb dX7_isSingle_5 (by decide) ?_
    refine lv_icmp_eq (tgt := 44) hx hb dX7_isSingle_6 (by decide) (fun h6 => ?_) (fun h6 => ?_)
    · rw [if_pos h6]
      refine lv_iconst (v := 1) hx hb dX7_isSingle_44 (by decide) ?_
      refine lv_goto (tgt := 49) hx hb dX7_isSingle_45 (by decide) ?_
      exact retZ C w dX7_isSingle_49 (Or.inr rfl)
    · rw [if_neg h6]
      refine lv_iload_n hx hb dX7_isSingle_9 rfl (lv_at hl 0 rfl) ?_
      refine lv_iconst (v := 4) hx hb dX7_isSingle_10 (by decide) ?_
      refine lv_icmp_eq (tgt := 44) hx hb dX7_isSingle_11 (by decide) (fun h11 => ?_) (fun h11 => ?_)
      · rw [if_pos h11]
        refine lv_iconst (v := 1) hx hb dX7_isSingle_44 (by decide) ?_
        refine lv_goto (tgt := 49) hx hb dX7_isSingle_45 (by decide) ?_
        exact retZ C w dX7_isSingle_49 (Or.inr rfl)
      · rw [if_neg h11]
        refine lv_iload_n hx hb dX7_isSingle_14 rfl (lv_at hl 0 rfl) ?_
        refine lv_bipush (v := 6) hx hb dX7_isSingle_15 (by decide) ?_
        refine lv_icmp_lt (tgt := 26) hx hb dX7_isSingle_17 (by decide) (fun h17 => ?_) (fun h17 => ?_)
        · rw [if_pos h17]
          exact k_Md_isSingle_26 C w (lv_sub hl [0] rfl)
        · rw [if_neg h17]
          refine lv_iload_n hx hb dX7_isSingle_20 rfl (lv_at hl 0 rfl) ?_
          refine lv_bipush (v := 10) hx hb dX7_isSingle_21 (by decide) ?_
          refine lv_icmp_le (tgt := 44) hx hb dX7_isSingle_23 (by decide) (fun h23 => ?_) (fun h23 => ?_)
          · rw [if_pos h23]
            refine lv_iconst (v := 1) hx hb dX7_isSingle_44 (by decide) ?_
            refine lv_goto (tgt := 49) hx hb dX7_isSingle_45 (by decide) ?_
            exact retZ C w dX7_isSingle_49 (Or.inr rfl)
          · rw [if_neg h23]
            exact k_Md_isSingle_26 C w (lv_sub hl [0] rfl)
set_option maxHeartbeats 4000000 in
set_option maxRecDepth 100000 in
theorem c_Md_isSingle (l : Launch) (A : Nat → Prop) (D : va_G) (cA : Nat → ClassId) (tb : Nat) (ad : Nat → Nat) (mu nu : Mu) (x0 : Int32) : Met l yX7_isSingle wsX7_isSingle ({ frames := 0, cells := 0, slots := 0, locals := 0 }) (va_Pc [.int x0] (Pw A D cA tb ad nu mu)) (va_Qi (fun (r : Int32) (u : Mu × Mu) => r = F_Md_isSingle x0 mu ∧ u = (nu, mu)) (Bw A D cA ad) A) 0 0 A := by
  refine Met.ofW (cc := cX7_isSingle) (maxL := 1) (ret := (some .boolean)) (by decide) rfl ?_
  intro p e s m args below meth c s₁ B hml hv
  obtain ⟨rfl, w0⟩ := hv
  have C : Cx cX7_isSingle 1 (some .boolean) wsX7_isSingle RX7 A D cA tb p s m _ meth c := ⟨B.exec, B.bytes, B.returns, hml, findClass_of_methodNamed B.named, atoms_spec (ws := wsX7_isSingle) B.pre, B.notSynchronized, w0.2.1, w0.2.2.2.1, w0.2.2.2.2⟩
  have hl := lv_entry ([.int x0]) (n := 1) (Nat.le_of_ble_eq_true rfl)
  rw [lg_entry_eq]
  exact k_Md_isSingle C w0.wd hl
def F_Md_shifted_33 (x3 : Int32) (y1 : Int32) (y2 : Int32) (mu : Mu) : Int32 × Mu := (x3, (F_Md_tell y1 y2 mu))
set_option maxHeartbeats 4000000 in
set_option maxRecDepth 100000 in
theorem k_Md_shifted_33 (C : Cx cX7_shifted 4 (some .int) wsX7_shifted RX7 A D cA tb p s m args meth c) {mu nu : Mu} {x3 : Int32} {y1 : Int32} {y2 : Int32} {H : Heap} {locs : List Loc} {ls : Array Slot} (w : Wd A D cA ad s nu mu H locs) (hl : lv_has ls 4 [(3, .int x3)]) : W p l e { frames := 2, cells := 0, slots := 0, locals := 43 } s m args below meth c H locs 0 0 (QI A D cA ad below args s (F_Md_shifted_33 x3 y1 y2 mu).1 nu (F_Md_shifted_33 x3 y1 y2 mu).2) (F0 m 33 ls [.int y2, .int y1, .ref (ad 12)]) := by
  have hx := C.1
  have hb := C.2.1
  have hts := C.2.2.2.2.2.1
  have hown := C.2.2.2.2.1
  unfold F_Md_shifted_33
  refine kcV (k := 12) (ci := 7) (As := [.int y1, .int y2]) (rest := []) C w rfl rfl (c_Md_tell l A D cA tb ad mu nu y1 y2) (cwV 2 hts gX7_shifted_X7_tell rfl rfl rfl (by decide +kernel) ⟨Nat.le_of_ble_eq_true rfl, Nat.le_of_ble_eq_true rfl⟩) rfl rfl hl.1 (Nat.le_of_ble_eq_true rfl) dX7_shifted_33 (fun H locs w => ?_)
  refine lv_iload_n hx hb dX7_shifted_36 rfl (lv_at hl 0 rfl) ?_
  exact retI C w dX7_shifted_37
def F_Md_shifted_11 (y0 : Int32) (mu : Mu) : Int32 × Mu := (if (F_Md_is 8 mu) = (F_Md_is 1 mu) then F_Md_shifted_33 y0 2 0 mu else F_Md_shifted_33 y0 2 1 mu)
set_option maxHeartbeats 4000000 in
set_option maxRecDepth 100000 in
theorem k_Md_shifted_11 (C : Cx cX7_shifted 4 (some .int) wsX7_shifted RX7 A D cA tb p s m args meth c) {mu nu : Mu} {y0 : Int32} {H : Heap} {locs : List Loc} {ls : Array Slot} (w : Wd A D cA ad s nu mu H locs) (hl : lv_has ls 4 [(0, .ref (ad 12))]) : W p l e { frames := 2, cells := 0, slots := 0, locals := 43 } s m args below meth c H locs 0 0 (QI A D cA ad below args s (F_Md_shifted_11 y0 mu).1 nu (F_Md_shifted_11 y0 mu).2) (F0 m 11 ls [.int y0]) := by
  have hx := C.1
  have hb := C.2.1
  have hts := C.2.2.2.2.2.1
  have hown := C.2.2.2.2.1
  unfold F_Md_shifted_11
  refine lv_istore_n (lv' := [(3, .int y0), (0, .ref (ad 12))]) hx hb dX7_shifted_11 rfl hl (by decide) rfl (fun ls hl => ?_)
  refine lv_aload_n hx hb dX7_shifted_12 rfl (lv_at hl 1 rfl) ?_
  refine lv_iconst (v := 2) hx hb dX7_shifted_13 (by decide) ?_
  refine lv_aload_n hx hb dX7_shifted_14 rfl (lv_at hl 1 rfl) ?_
  refine lv_bipush (v := 8) hx hb dX7_shifted_15 (by decide) ?_
  refine kcI (k := 12) (ci := 7) (As := [.int 8]) (rest := [.int 2, .ref (ad 12)]) C w rfl rfl (c_Md_is l A D cA tb ad mu nu 8) (cwV 1 hts gX7_shifted_X7_is rfl rfl rfl (by decide +kernel) ⟨Nat.le_of_ble_eq_true rfl, Nat.le_of_ble_eq_true rfl⟩) rfl rfl hl.1 (Nat.le_of_ble_eq_true rfl) dX7_shifted_17 (fun H locs w => ?_)
  refine lv_aload_n hx hb dX7_shifted_20 rfl (lv_at hl 1 rfl) ?_
  refine lv_iconst (v := 1) hx hb dX7_shifted_21 (by decide) ?_
  refine kcI (k := 12) (ci := 7) (As := [.int 1]) (rest := [.int ((F_Md_is 8 mu)), .int 2, .ref (ad 12)]) C w rfl rfl (c_Md_is l A D cA tb ad mu nu 1) (cwV 1 hts gX7_shifted_X7_is rfl rfl rfl (by decide +kernel) ⟨Nat.le_of_ble_eq_true rfl, Nat.le_of_ble_eq_true rfl⟩) rfl rfl hl.1 (Nat.le_of_ble_eq_true rfl) dX7_shifted_22 (fun H locs w => ?_)
  refine lv_icmp_eq (tgt := 32) hx hb dX7_shifted_25 (by decide) (fun h25 => ?_) (fun h25 => ?_)
  · rw [if_pos h25]
    refine lv_iconst (v := 0) hx hb dX7_shifted_32 (by decide) ?_
    exact k_Md_shifted_33 C w (lv_sub hl [0] rfl)
  · rw [if_neg h25]
    refine lv_iconst (v := 1) hx hb dX7_shifted_28 (by decide) ?_
    refine lv_goto (tgt := 33) hx hb dX7_shifted_29 (by decide) ?_
    exact k_Md_shifted_33 C w (lv_sub hl [0] rfl)
def F_Md_shifted_6 (x1 : Int32) (mu : Mu) : Int32 × Mu := F_Md_shifted_11 ((F_Md_nz x1 mu).1) ((F_Md_nz x1 mu).2)
set_option maxHeartbeats 4000000 in
set_option maxRecDepth 100000 in
theorem k_Md_shifted_6 (C : Cx cX7_shifted 4 (some .int) wsX7_shifted RX7 A D cA tb p s m args meth c) {mu nu : Mu} {x1 : Int32} {H : Heap} {locs : List Loc} {ls : Array Slot} (w : Wd A D cA ad s nu mu H locs) (hl : lv_has ls 4 [(0, .ref (ad 12)), (1, .int x1)]) : W p l e { frames := 2, cells := 0, slots := 0, locals := 43 } s m args below meth c H locs 0 0 (QI A D cA ad below args s (F_Md_shifted_6 x1 mu).1 nu (F_Md_shifted_6 x1 mu).2) (F0 m 6 ls []) := by
  have hx := C.1
  have hb := C.2.1
  have hts := C.2.2.2.2.2.1
  have hown := C.2.2.2.2.1
  unfold F_Md_shifted_6
  refine lv_aload_n hx hb dX7_shifted_6 rfl (lv_at hl 0 rfl) ?_
  refine lv_iload_n hx hb dX7_shifted_7 rfl (lv_at hl 1 rfl) ?_
  refine kcI (k := 12) (ci := 7) (As := [.int x1]) (rest := []) C w rfl rfl (c_Md_nz l A D cA tb ad mu nu x1) (cwV 1 hts gX7_shifted_X7_nz rfl rfl rfl (by decide +kernel) ⟨Nat.le_of_ble_eq_true rfl, Nat.le_of_ble_eq_true rfl⟩) rfl rfl hl.1 (Nat.le_of_ble_eq_true rfl) dX7_shifted_8 (fun H locs w => ?_)
  exact k_Md_shifted_11 C w (lv_sub hl [0] rfl)
def F_Md_shifted (x1 : Int32) (x2 : Int32) (mu : Mu) : Int32 × Mu := F_Md_shifted_6 x1 (F_Md_tell 1 x2 mu)
set_option maxHeartbeats 4000000 in
set_option maxRecDepth 100000 in
theorem k_Md_shifted (C : Cx cX7_shifted 4 (some .int) wsX7_shifted RX7 A D cA tb p s m args meth c) {mu nu : Mu} {x1 : Int32} {x2 : Int32} {H : Heap} {locs : List Loc} {ls : Array Slot} (w : Wd A D cA ad s nu mu H locs) (hl : lv_has ls 4 [(0, .ref (ad 12)), (1, .int x1), (2, .int x2)]) : W p l e { frames := 2, cells := 0, slots := 0, locals := 43 } s m args below meth c H locs 0 0 (QI A D cA ad below args s (F_Md_shifted x1 x2 mu).1 nu (F_Md_shifted x1 x2 mu).2) (F0 m 0 ls []) := by
  have hx := C.1
  have hb := C.2.1
  have hts := C.2.2.2.2.2.1
  have hown := C.2.2.2.2.1
  unfold F_Md_shifted
  refine lv_aload_n hx hb dX7_shifted_0 rfl (lv_at hl 0 rfl) ?_
  refine lv_iconst (v := 1) hx hb dX7_shifted_1 (by decide) ?_
  refine lv_iload_n hx hb dX7_shifted_2 rfl (lv_at hl 2 rfl) ?_
  refine kcV (k := 12) (ci := 7) (As := [.int 1, .int x2]) (rest := []) C w rfl rfl (c_Md_tell l A D cA tb ad mu nu 1 x2) (cwV 2 hts gX7_shifted_X7_tell rfl rfl rfl (by decide +kernel) ⟨Nat.le_of_ble_eq_true rfl, Nat.le_of_ble_eq_true rfl⟩) rfl rfl hl.1 (Nat.le_of_ble_eq_true rfl) dX7_shifted_3 (fun H locs w => ?_)
  exact k_Md_shifted_6 C w (lv_sub hl [0, 1] rfl)
set_option maxHeartbeats 4000000 in
set_option maxRecDepth 100000 in
theorem c_Md_shifted (l : Launch) (A : Nat → Prop) (D : va_G) (cA : Nat → ClassId) (tb : Nat) (ad : Nat → Nat) (mu nu : Mu) (x1 : Int32) (x2 : Int32) : Met l yX7_shifted wsX7_shifted ({ frames := 2, cells := 0, slots := 0, locals := 43 }) (va_Pc [.ref (ad 12), .int x1, .int x2] (Pw A D cA tb ad nu mu)) (va_Qi (fun (r : Int32) (u : Mu × Mu) => r = (F_Md_shifted x1 x2 mu).1 ∧ u = (nu, (F_Md_shifted x1 x2 mu).2)) (Bw A D cA ad) A) 0 0 A := by
  refine Met.ofW (cc := cX7_shifted) (maxL := 4) (ret := (some .int)) (by decide) rfl ?_
  intro p e s m args below meth c s₁ B hml hv
  obtain ⟨rfl, w0⟩ := hv
  have C : Cx cX7_shifted 4 (some .int) wsX7_shifted RX7 A D cA tb p s m _ meth c := ⟨B.exec, B.bytes, B.returns, hml, findClass_of_methodNamed B.named, atoms_spec (ws := wsX7_shifted) B.pre, B.notSynchronized, w0.2.1, w0.2.2.2.1, w0.2.2.2.2⟩
  have hl := lv_entry ([.ref (ad 12), .int x1, .int x2]) (n := 4) (Nat.le_of_ble_eq_true rfl)
  rw [lg_entry_eq]
  exact k_Md_shifted C w0.wd hl
end
