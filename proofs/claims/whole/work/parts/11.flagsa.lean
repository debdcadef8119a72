section
variable {p : Program} {l : Launch} {e : Env} {s : State} {m : MethodId} {args : Array Value} {below : List Frame} {meth : Method} {c : Code} 
variable {A : Nat → Prop} {D : va_G} {cA : Nat → ClassId} {tb : Nat} {ad : Nat → Nat}
def F_Fl_tell_22 (y1 : Int32) (mu : Mu) : Mu := (ps mu 10 0 y1)
set_option maxHeartbeats 4000000 in
set_option maxRecDepth 100000 in
theorem k_Fl_tell_22 (C : Cx cX2_tell 3 none wsX2_tell RX2 A D cA tb p s m args meth c) {mu nu : Mu} {y1 : Int32} {H : Heap} {locs : List Loc} {ls : Array Slot} (w : Wd A D cA ad s mu nu H locs) (hl : lv_has ls 3 []) : W p l e { frames := 0, cells := 0, slots := 0, locals := 0 } s m args below meth c H locs 0 0 (QV A D cA ad below args s (F_Fl_tell_22 y1 mu) nu) (F0 m 22 ls [.int y1, .ref (ad 10)]) := by
  have hx := C.1
  have hb := C.2.1
  have hts := C.2.2.2.2.2.1
  have hown := C.2.2.2.2.1
  unfold F_Fl_tell_22
  refine pt_10_0 C (fun _ h => List.mem_cons_of_mem _ (List.mem_append_right _ h)) (hts _ (List.mem_of_getElem? (i := 1) rfl)) w dX2_tell_22 (fun H locs w => ?_)
  exact retV C w dX2_tell_25
def F_Fl_tell (x1 : Int32) (x2 : Int32) (mu : Mu) : Mu := (if x2 = (0 : Int32) then F_Fl_tell_22 ((mu 10 0) &&& (x1 ^^^ (-1 : Int32))) mu else F_Fl_tell_22 ((mu 10 0) ||| x1) mu)
set_option maxHeartbeats 4000000 in
set_option maxRecDepth 100000 in
theorem k_Fl_tell (C : Cx cX2_tell 3 none wsX2_tell RX2 A D cA tb p s m args meth c) {mu nu : Mu} {x1 : Int32} {x2 : Int32} {H : Heap} {locs : List Loc} {ls : Array Slot} (w : Wd A D cA ad s mu nu H locs) (hl : lv_has ls 3 [(0, .ref (ad 10)), (1, .int x1), (2, .int x2)]) : W p l e { frames := 0, cells := 0, slots := 0, locals := 0 } s m args below meth c H locs 0 0 (QV A D cA ad below args s (F_Fl_tell x1 x2 mu) nu) (F0 m 0 ls []) := by
  have hx := C.1
  have hb := C.2.1
  have hts := C.2.2.2.2.2.1
  have hown := C.2.2.2.2.1
  unfold F_Fl_tell
  refine lv_aload_n hx hb dX2_tell_0 rfl (lv_at hl 0 rfl) ?_
  refine lv_iload_n hx hb dX2_tell_1 rfl (lv_at hl 2 rfl) ?_
  refine lv_if_eq (tgt := 14) hx hb dX2_tell_2 (by decide) (fun h2 => ?_) (fun h2 => ?_)
  · rw [if_pos h2]
    refine lv_aload_n hx hb dX2_tell_14 rfl (lv_at hl 0 rfl) ?_
    refine gt_10_0 C (fun _ h => List.mem_cons_of_mem _ (List.mem_append_right _ h)) (hts _ (List.mem_of_getElem? (i := 1) rfl)) w (v := (mu 10 0)) rfl dX2_tell_15 ?_
    refine lv_iload_n hx hb dX2_tell_18 rfl (lv_at hl 1 rfl) ?_
    refine lv_iconst (v := (-1 : Int32)) hx hb dX2_tell_19 (by decide) ?_
    refine lv_ixor hx hb dX2_tell_20 ?_
    refine lv_iand hx hb dX2_tell_21 ?_
    exact k_Fl_tell_22 C w (lv_sub hl [] rfl)
  · rw [if_neg h2]
    refine lv_aload_n hx hb dX2_tell_5 rfl (lv_at hl 0 rfl) ?_
    refine gt_10_0 C (fun _ h => List.mem_cons_of_mem _ (List.mem_append_right _ h)) (hts _ (List.mem_of_getElem? (i := 1) rfl)) w (v := (mu 10 0)) rfl dX2_tell_6 ?_
    refine lv_iload_n hx hb dX2_tell_9 rfl (lv_at hl 1 rfl) ?_
    refine lv_ior hx hb dX2_tell_10 ?_
    refine lv_goto (tgt := 22) hx hb dX2_tell_11 (by decide) ?_
    exact k_Fl_tell_22 C w (lv_sub hl [] rfl)
set_option maxHeartbeats 4000000 in
set_option maxRecDepth 100000 in
theorem c_Fl_tell (l : Launch) (A : Nat → Prop) (D : va_G) (cA : Nat → ClassId) (tb : Nat) (ad : Nat → Nat) (mu nu : Mu) (x1 : Int32) (x2 : Int32) : Met l yX2_tell wsX2_tell ({ frames := 0, cells := 0, slots := 0, locals := 0 }) (va_Pc [.ref (ad 10), .int x1, .int x2] (Pw A D cA tb ad mu nu)) (va_Qv (fun (u : Mu × Mu) => u = (F_Fl_tell x1 x2 mu, nu)) (Bw A D cA ad) A) 0 0 A := by
  refine Met.ofW (cc := cX2_tell) (maxL := 3) (ret := none) (by decide) rfl ?_
  intro p e s m args below meth c s₁ B hml hv
  obtain ⟨rfl, w0⟩ := hv
  have C : Cx cX2_tell 3 none wsX2_tell RX2 A D cA tb p s m _ meth c := ⟨B.exec, B.bytes, B.returns, hml, findClass_of_methodNamed B.named, atoms_spec (ws := wsX2_tell) B.pre, B.notSynchronized, w0.2.1, w0.2.2.2.1, w0.2.2.2.2⟩
  have hl := lv_entry ([.ref (ad 10), .int x1, .int x2]) (n := 3) (Nat.le_of_ble_eq_true rfl)
  rw [lg_entry_eq]
  exact k_Fl_tell C w0.wd hl
def F_Fl_has (x1 : Int32) (mu : Mu) : Int32 := (if ((mu 10 0) &&& x1) = (0 : Int32) then 0 else 1)
set_option maxHeartbeats 4000000 in
set_option maxRecDepth 100000 in
theorem k_Fl_has (C : Cx cX2_has 2 (some .boolean) wsX2_has RX2 A D cA tb p s m args meth c) {mu nu : Mu} {x1 : Int32} {H : Heap} {locs : List Loc} {ls : Array Slot} (w : Wd A D cA ad s mu nu H locs) (hl : lv_has ls 2 [(0, .ref (ad 10)), (1, .int x1)]) : W p l e { frames := 0, cells := 0, slots := 0, locals := 0 } s m args below meth c H locs 0 0 (QI A D cA ad below args s (F_Fl_has x1 mu) mu nu) (F0 m 0 ls []) := by
  have hx := C.1
  have hb := C.2.1
  have hts := C.2.2.2.2.2.1
  have hown := C.2.2.2.2.1
  unfold F_Fl_has
  refine lv_aload_n hx hb dX2_has_0 rfl (lv_at hl 0 rfl) ?_
  refine gt_10_0 C (fun _ h => List.mem_cons_of_mem _ (List.mem_append_right _ h)) (hts _ (List.mem_of_getElem? (i := 1) rfl)) w (v := (mu 10 0)) rfl dX2_has_1 ?_
  refine lv_iload_n hx hb dX2_has_4 rfl (lv_at hl 1 rfl) ?_
  refine lv_iand hx hb dX2_has_5 ?_
  refine lv_if_eq (tgt := 13) hx hb dX2_has_6 (by decide) (fun h6 => ?_) (fun h6 => ?_)
  · rw [if_pos h6]
    refine lv_iconst (v := 0) hx hb dX2_has_13 (by decide) ?_
    exact retZ C w dX2_has_14 (Or.inl rfl)
  · rw [if_neg h6]
    refine lv_iconst (v := 1) hx hb dX2_has_9 (by decide) ?_
    refine lv_goto (tgt := 14) hx hb dX2_has_10 (by decide) ?_
    exact retZ C w dX2_has_14 (Or.inr rfl)
set_option maxHeartbeats 4000000 in
set_option maxRecDepth 100000 in
theorem c_Fl_has (l : Launch) (A : Nat → Prop) (D : va_G) (cA : Nat → ClassId) (tb : Nat) (ad : Nat → Nat) (mu nu : Mu) (x1 : Int32) : Met l yX2_has wsX2_has ({ frames := 0, cells := 0, slots := 0, locals := 0 }) (va_Pc [.ref (ad 10), .int x1] (Pw A D cA tb ad mu nu)) (va_Qi (fun (r : Int32) (u : Mu × Mu) => r = F_Fl_has x1 mu ∧ u = (mu, nu)) (Bw A D cA ad) A) 0 0 A := by
  refine Met.ofW (cc := cX2_has) (maxL := 2) (ret := (some .boolean)) (by decide) rfl ?_
  intro p e s m args below meth c s₁ B hml hv
  obtain ⟨rfl, w0⟩ := hv
  have C : Cx cX2_has 2 (some .boolean) wsX2_has RX2 A D cA tb p s m _ meth c := ⟨B.exec, B.bytes, B.returns, hml, findClass_of_methodNamed B.named, atoms_spec (ws := wsX2_has) B.pre, B.notSynchronized, w0.2.1, w0.2.2.2.1, w0.2.2.2.2⟩
  have hl := lv_entry ([.ref (ad 10), .int x1]) (n := 2) (Nat.le_of_ble_eq_true rfl)
  rw [lg_entry_eq]
  exact k_Fl_has C w0.wd hl
def F_Fl_asByte (mu : Mu) : Int32 := ((mu 10 0) ||| 192)
set_option maxHeartbeats 4000000 in
set_option maxRecDepth 100000 in
theorem k_Fl_asByte (C : Cx cX2_asByte 1 (some .int) wsX2_asByte RX2 A D cA tb p s m args meth c) {mu nu : Mu} {H : Heap} {locs : List Loc} {ls : Array Slot} (w : Wd A D cA ad s mu nu H locs) (hl : lv_has ls 1 [(0, .ref (ad 10))]) : W p l e { frames := 0, cells := 0, slots := 0, locals := 0 } s m args below meth c H locs 0 0 (QI A D cA ad below args s (F_Fl_asByte mu) mu nu) (F0 m 0 ls []) := by
  have hx := C.1
  have hb := C.2.1
  have hts := C.2.2.2.2.2.1
  have hown := C.2.2.2.2.1
  unfold F_Fl_asByte
  refine lv_aload_n hx hb dX2_asByte_0 rfl (lv_at hl 0 rfl) ?_
  refine gt_10_0 C (fun _ h => List.mem_cons_of_mem _ (List.mem_append_right _ h)) (hts _ (List.mem_of_getElem? (i := 1) rfl)) w (v := (mu 10 0)) rfl dX2_asByte_1 ?_
  refine lv_sipush (v := 192) hx hb dX2_asByte_4 (by decide) ?_
  refine lv_ior hx hb dX2_asByte_7 ?_
  exact retI C w dX2_asByte_8
set_option maxHeartbeats 4000000 in
set_option maxRecDepth 100000 in
theorem c_Fl_asByte (l : Launch) (A : Nat → Prop) (D : va_G) (cA : Nat → ClassId) (tb : Nat) (ad : Nat → Nat) (mu nu : Mu) : Met l yX2_asByte wsX2_asByte ({ frames := 0, cells := 0, slots := 0, locals := 0 }) (va_Pc [.ref (ad 10)] (Pw A D cA tb ad mu nu)) (va_Qi (fun (r : Int32) (u : Mu × Mu) => r = F_Fl_asByte mu ∧ u = (mu, nu)) (Bw A D cA ad) A) 0 0 A := by
  refine Met.ofW (cc := cX2_asByte) (maxL := 1) (ret := (some .int)) (by decide) rfl ?_
  intro p e s m args below meth c s₁ B hml hv
  obtain ⟨rfl, w0⟩ := hv
  have C : Cx cX2_asByte 1 (some .int) wsX2_asByte RX2 A D cA tb p s m _ meth c := ⟨B.exec, B.bytes, B.returns, hml, findClass_of_methodNamed B.named, atoms_spec (ws := wsX2_asByte) B.pre, B.notSynchronized, w0.2.1, w0.2.2.2.1, w0.2.2.2.2⟩
  have hl := lv_entry ([.ref (ad 10)]) (n := 1) (Nat.le_of_ble_eq_true rfl)
  rw [lg_entry_eq]
  exact k_Fl_asByte C w0.wd hl
def F_Fl_tellSignAndZero_30 (y1 : Int32) (y2 : Int32) (mu : Mu) : Mu := (F_Fl_tell y1 y2 mu)
set_option maxHeartbeats 4000000 in
set_option maxRecDepth 100000 in
theorem k_Fl_tellSignAndZero_30 (C : Cx cX2_tellSignAndZero 2 none wsX2_tellSignAndZero RX2 A D cA tb p s m args meth c) {mu nu : Mu} {y1 : Int32} {y2 : Int32} {H : Heap} {locs : List Loc} {ls : Array Slot} (w : Wd A D cA ad s mu nu H locs) (hl : lv_has ls 2 []) : W p l e { frames := 1, cells := 0, slots := 0, locals := 22 } s m args below meth c H locs 0 0 (QV A D cA ad below args s (F_Fl_tellSignAndZero_30 y1 y2 mu) nu) (F0 m 30 ls [.int y2, .int y1, .ref (ad 10)]) := by
  have hx := C.1
  have hb := C.2.1
  have hts := C.2.2.2.2.2.1
  have hown := C.2.2.2.2.1
  unfold F_Fl_tellSignAndZero_30
  refine kcV (k := 10) (ci := 2) (As := [.int y1, .int y2]) (rest := []) C w rfl rfl (c_Fl_tell l A D cA tb ad mu nu y1 y2) (cwV 2 hts gX2_tellSignAndZero_X2_tell rfl rfl rfl (by decide +kernel) ⟨Nat.le_of_ble_eq_true rfl, Nat.le_of_ble_eq_true rfl⟩) rfl rfl hl.1 (Nat.le_of_ble_eq_true rfl) dX2_tellSignAndZero_30 (fun H locs w => ?_)
  exact retV C w dX2_tellSignAndZero_33
def F_Fl_tellSignAndZero_19 (x1 : Int32) (mu : Mu) : Mu := (if x1 = (0 : Int32) then F_Fl_tellSignAndZero_30 4 1 mu else F_Fl_tellSignAndZero_30 4 0 mu)
set_option maxHeartbeats 4000000 in
set_option maxRecDepth 100000 in
theorem k_Fl_tellSignAndZero_19 (C : Cx cX2_tellSignAndZero 2 none wsX2_tellSignAndZero RX2 A D cA tb p s m args meth c) {mu nu : Mu} {x1 : Int32} {H : Heap} {locs : List Loc} {ls : Array Slot} (w : Wd A D cA ad s mu nu H locs) (hl : lv_has ls 2 [(0, .ref (ad 10)), (1, .int x1)]) : W p l e { frames := 1, cells := 0, slots := 0, locals := 22 } s m args below meth c H locs 0 0 (QV A D cA ad below args s (F_Fl_tellSignAndZero_19 x1 mu) nu) (F0 m 19 ls []) := by
  have hx := C.1
  have hb := C.2.1
  have hts := C.2.2.2.2.2.1
  have hown := C.2.2.2.2.1
  unfold F_Fl_tellSignAndZero_19
  refine lv_aload_n hx hb dX2_tellSignAndZero_19 rfl (lv_at hl 0 rfl) ?_
  refine lv_iconst (v := 4) hx hb dX2_tellSignAndZero_20 (by decide) ?_
  refine lv_iload_n hx hb dX2_tellSignAndZero_21 rfl (lv_at hl 1 rfl) ?_
  refine lv_if_ne (tgt := 29) hx hb dX2_tellSignAndZero_22 (by decide) (fun h22 => ?_) (fun h22 => ?_)
  · rw [if_neg h22]
    refine lv_iconst (v := 0) hx hb dX2_tellSignAndZero_29 (by decide) ?_
    exact k_Fl_tellSignAndZero_30 C w (lv_sub hl [] rfl)
  · rw [if_pos h22]
    refine lv_iconst (v := 1) hx hb dX2_tellSignAndZero_25 (by decide) ?_
    refine lv_goto (tgt := 30) hx hb dX2_tellSignAndZero_26 (by decide) ?_
    exact k_Fl_tellSignAndZero_30 C w (lv_sub hl [] rfl)
def F_Fl_tellSignAndZero_16 (x1 : Int32) (y1 : Int32) (y2 : Int32) (mu : Mu) : Mu := F_Fl_tellSignAndZero_19 x1 (F_Fl_tell y1 y2 mu)
set_option maxHeartbeats 4000000 in
set_option maxRecDepth 100000 in
theorem k_Fl_tellSignAndZero_16 (C : Cx cX2_tellSignAndZero 2 none wsX2_tellSignAndZero RX2 A D cA tb p s m args meth c) {mu nu : Mu} {x1 : Int32} {y1 : Int32} {y2 : Int32} {H : Heap} {locs : List Loc} {ls : Array Slot} (w : Wd A D cA ad s mu nu H locs) (hl : lv_has ls 2 [(0, .ref (ad 10)), (1, .int x1)]) : W p l e { frames := 1, cells := 0, slots := 0, locals := 22 } s m args below meth c H locs 0 0 (QV A D cA ad below args s (F_Fl_tellSignAndZero_16 x1 y1 y2 mu) nu) (F0 m 16 ls [.int y2, .int y1, .ref (ad 10)]) := by
  have hx := C.1
  have hb := C.2.1
  have hts := C.2.2.2.2.2.1
  have hown := C.2.2.2.2.1
  unfold F_Fl_tellSignAndZero_16
  refine kcV (k := 10) (ci := 2) (As := [.int y1, .int y2]) (rest := []) C w rfl rfl (c_Fl_tell l A D cA tb ad mu nu y1 y2) (cwV 2 hts gX2_tellSignAndZero_X2_tell rfl rfl rfl (by decide +kernel) ⟨Nat.le_of_ble_eq_true rfl, Nat.le_of_ble_eq_true rfl⟩) rfl rfl hl.1 (Nat.le_of_ble_eq_true rfl) dX2_tellSignAndZero_16 (fun H locs w => ?_)
  exact k_Fl_tellSignAndZero_19 C w (lv_sub hl [0, 1] rfl)
def F_Fl_tellSignAndZero (x1 : Int32) (mu : Mu) : Mu := (if (x1 &&& 128) = (0 : Int32) then F_Fl_tellSignAndZero_16 x1 8 0 mu else F_Fl_tellSignAndZero_16 x1 8 1 mu)
set_option maxHeartbeats 4000000 in
set_option maxRecDepth 100000 in
theorem k_Fl_tellSignAndZero (C : Cx cX2_tellSignAndZero 2 none wsX2_tellSignAndZero RX2 A D cA tb p s m args meth c) {mu nu : Mu} {x1 : Int32} {H : Heap} {locs : List Loc} {ls : Array Slot} (w : Wd A D cA ad s mu nu H locs) (hl : lv_has ls 2 [(0, .ref (ad 10)), (1, .int x1)]) : W p l e { frames := 1, cells := 0, slots := 0, locals := 22 } s m args below meth c H locs 0 0 (QV A D cA ad below args s (F_Fl_tellSignAndZero x1 mu) nu) (F0 m 0 ls []) := by
  have hx := C.1
  have hb := C.2.1
  have hts := C.2.2.2.2.2.1
  have hown := C.2.2.2.2.1
  unfold F_Fl_tellSignAndZero
  refine lv_aload_n hx hb dX2_tellSignAndZero_0 rfl (lv_at hl 0 rfl) ?_
  refine lv_bipush (v := 8) hx hb dX2_tellSignAndZero_1 (by decide) ?_
  refine lv_iload_n hx hb dX2_tellSignAndZero_3 rfl (lv_at hl 1 rfl) ?_
  refine lv_sipush (v := 128) hx hb dX2_tellSignAndZero_4 (by decide) ?_
  refine lv_iand hx hb dX2_tellSignAndZero_7 ?_
  refine lv_if_eq (tgt := 15) hx hb dX2_tellSignAndZero_8 (by decide) (fun h8 => ?_) (fun h8 => ?_)
  · rw [if_pos h8]
    refine lv_iconst (v := 0) hx hb dX2_tellSignAndZero_15 (by decide) ?_
    exact k_Fl_tellSignAndZero_16 C w (lv_sub hl [0, 1] rfl)
  · rw [if_neg h8]
    refine lv_iconst (v := 1) hx hb dX2_tellSignAndZero_11 (by decide) ?_
    refine lv_goto (tgt := 16) hx hb dX2_tellSignAndZero_12 (by decide) ?_
    exact k_Fl_tellSignAndZero_16 C w (lv_sub hl [0, 1] rfl)
set_option maxHeartbeats 4000000 in
set_option maxRecDepth 100000 in
theorem c_Fl_tellSignAndZero (l : Launch) (A : Nat → Prop) (D : va_G) (cA : Nat → ClassId) (tb : Nat) (ad : Nat → Nat) (mu nu : Mu) (x1 : Int32) : Met l yX2_tellSignAndZero wsX2_tellSignAndZero ({ frames := 1, cells := 0, slots := 0, locals := 22 }) (va_Pc [.ref (ad 10), .int x1] (Pw A D cA tb ad mu nu)) (va_Qv (fun (u : Mu × Mu) => u = (F_Fl_tellSignAndZero x1 mu, nu)) (Bw A D cA ad) A) 0 0 A := by
  refine Met.ofW (cc := cX2_tellSignAndZero) (maxL := 2) (ret := none) (by decide) rfl ?_
  intro p e s m args below meth c s₁ B hml hv
  obtain ⟨rfl, w0⟩ := hv
  have C : Cx cX2_tellSignAndZero 2 none wsX2_tellSignAndZero RX2 A D cA tb p s m _ meth c := ⟨B.exec, B.bytes, B.returns, hml, findClass_of_methodNamed B.named, atoms_spec (ws := wsX2_tellSignAndZero) B.pre, B.notSynchronized, w0.2.1, w0.2.2.2.1, w0.2.2.2.2⟩
  have hl := lv_entry ([.ref (ad 10), .int x1]) (n := 2) (Nat.le_of_ble_eq_true rfl)
  rw [lg_entry_eq]
  exact k_Fl_tellSignAndZero C w0.wd hl
def F_Fl_tellWordSignAndZero_29 (y1 : Int32) (y2 : Int32) (mu : Mu) : Mu := (F_Fl_tell y1 y2 mu)
set_option maxHeartbeats 4000000 in
set_option maxRecDepth 100000 in
theorem k_Fl_tellWordSignAndZero_29 (C : Cx cX2_tellWordSignAndZero 2 none wsX2_tellWordSignAndZero RX2 A D cA tb p s m args meth c) {mu nu : Mu} {y1 : Int32} {y2 : Int32} {H : Heap} {locs : List Loc} {ls : Array Slot} (w : Wd A D cA ad s mu nu H locs) (hl : lv_has ls 2 []) : W p l e { frames := 1, cells := 0, slots := 0, locals := 22 } s m args below meth c H locs 0 0 (QV A D cA ad below args s (F_Fl_tellWordSignAndZero_29 y1 y2 mu) nu) (F0 m 29 ls [.int y2, .int y1, .ref (ad 10)]) := by
  have hx := C.1
  have hb := C.2.1
  have hts := C.2.2.2.2.2.1
  have hown := C.2.2.2.2.1
  unfold F_Fl_tellWordSignAndZero_29
  refine kcV (k := 10) (ci := 2) (As := [.int y1, .int y2]) (rest := []) C w rfl rfl (c_Fl_tell l A D cA tb ad mu nu y1 y2) (cwV 2 hts gX2_tellWordSignAndZero_X2_tell rfl rfl rfl (by decide +kernel) ⟨Nat.le_of_ble_eq_true rfl, Nat.le_of_ble_eq_true rfl⟩) rfl rfl hl.1 (Nat.le_of_ble_eq_true rfl) dX2_tellWordSignAndZero_29 (fun H locs w => ?_)
  exact retV C w dX2_tellWordSignAndZero_32
def F_Fl_tellWordSignAndZero_18 (x1 : Int32) (mu : Mu) : Mu := (if x1 = (0 : Int32) then F_Fl_tellWordSignAndZero_29 4 1 mu else F_Fl_tellWordSignAndZero_29 4 0 mu)
set_option maxHeartbeats 4000000 in
set_option maxRecDepth 100000 in
theorem k_Fl_tellWordSignAndZero_18 (C : Cx cX2_tellWordSignAndZero 2 none wsX2_tellWordSignAndZero RX2 A D cA tb p s m args meth c) {mu nu : Mu} {x1 : Int32} {H : Heap} {locs : List Loc} {ls : Array Slot} (w : Wd A D cA ad s mu nu H locs) (hl : lv_has ls 2 [(0, .ref (ad 10)), (1, .int x1)]) : W p l e { frames := 1, cells := 0, slots := 0, locals := 22 } s m args below meth c H locs 0 0 (QV A D cA ad below args s (F_Fl_tellWordSignAndZero_18 x1 mu) nu) (F0 m 18 ls []) := by
  have hx := C.1
  have hb := C.2.1
  have hts := C.2.2.2.2.2.1
  have hown := C.2.2.2.2.1
  unfold F_Fl_tellWordSignAndZero_18
  refine lv_aload_n hx hb dX2_tellWordSignAndZero_18 rfl (lv_at hl 0 rfl) ?_
  refine lv_iconst (v := 4) hx hb dX2_tellWordSignAndZero_19 (by decide) ?_
  refine lv_iload_n hx hb dX2_tellWordSignAndZero_20 rfl (lv_at hl 1 rfl) ?_
  refine lv_if_ne (tgt := 28) hx hb dX2_tellWordSignAndZero_21 (by decide) (fun h21 => ?_) (fun h21 => ?_)
  · rw [if_neg h21]
    refine lv_iconst (v := 0) hx hb dX2_tellWordSignAndZero_28 (by decide) ?_
    exact k_Fl_tellWordSignAndZero_29 C w (lv_sub hl [] rfl)
  · rw [if_pos h21]
    refine lv_iconst (v := 1) hx hb dX2_tellWordSignAndZero_24 (by decide) ?_
    refine lv_goto (tgt := 29) hx hb dX2_tellWordSignAndZero_25 (by decide) ?_
    exact k_Fl_tellWordSignAndZero_29 C w (lv_sub hl [] rfl)
def F_Fl_tellWordSignAndZero_15 (x1 : Int32) (y1 : Int32) (y2 : Int32) (mu : Mu) : Mu := F_Fl_tellWordSignAndZero_18 x1 (F_Fl_tell y1 y2 mu)
set_option maxHeartbeats 4000000 in
set_option maxRecDepth 100000 in
theorem k_Fl_tellWordSignAndZero_15 (C : Cx cX2_tellWordSignAndZero 2 none wsX2_tellWordSignAndZero RX2 A D cA tb p s m args meth c) {mu nu : Mu} {x1 : Int32} {y1 : Int32} {y2 : Int32} {H : Heap} {locs : List Loc} {ls : Array Slot} (w : Wd A D cA ad s mu nu H locs) (hl : lv_has ls 2 [(0, .ref (ad 10)), (1, .int x1)]) : W p l e { frames := 1, cells := 0, slots := 0, locals := 22 } s m args below meth c H locs 0 0 (QV A D cA ad below args s (F_Fl_tellWordSignAndZero_15 x1 y1 y2 mu) nu) (F0 m 15 ls [.int y2, .int y1, .ref (ad 10)]) := by
  have hx := C.1
  have hb := C.2.1
  have hts := C.2.2.2.2.2.1
  have hown := C.2.2.2.2.1
  unfold F_Fl_tellWordSignAndZero_15
  refine kcV (k := 10) (ci := 2) (As := [.int y1, .int y2]) (rest := []) C w rfl rfl (c_Fl_tell l A D cA tb ad mu nu y1 y2) (cwV 2 hts gX2_tellWordSignAndZero_X2_tell rfl rfl rfl (by decide +kernel) ⟨Nat.le_of_ble_eq_true rfl, Nat.le_of_ble_eq_true rfl⟩) rfl rfl hl.1 (Nat.le_of_ble_eq_true rfl) dX2_tellWordSignAndZero_15 (fun H locs w => ?_)
  exact k_Fl_tellWordSignAndZero_18 C w (lv_sub hl [0, 1] rfl)
def F_Fl_tellWordSignAndZero (x1 : Int32) (mu : Mu) : Mu := (if (x1 &&& 32768) = (0 : Int32) then F_Fl_tellWordSignAndZero_15 x1 8 0 mu else F_Fl_tellWordSignAndZero_15 x1 8 1 mu)
set_option maxHeartbeats 4000000 in
set_option maxRecDepth 100000 in
theorem k_Fl_tellWordSignAndZero (C : Cx cX2_tellWordSignAndZero 2 none wsX2_tellWordSignAndZero RX2 A D cA tb p s m args meth c) {mu nu : Mu} {x1 : Int32} {H : Heap} {locs : List Loc} {ls : Array Slot} (w : Wd A D cA ad s mu nu H locs) (hl : lv_has ls 2 [(0, .ref (ad 10)), (1, .int x1)]) : W p l e { frames := 1, cells := 0, slots := 0, locals := 22 } s m args below meth c H locs 0 0 (QV A D cA ad below args s (F_Fl_tellWordSignAndZero x1 mu) nu) (F0 m 0 ls []) := by
  have hx := C.1
  have hb := C.2.1
  have hts := C.2.2.2.2.2.1
  have hown := C.2.2.2.2.1
  unfold F_Fl_tellWordSignAndZero
  refine lv_aload_n hx hb dX2_tellWordSignAndZero_0 rfl (lv_at hl 0 rfl) ?_
  refine lv_bipush (v := 8) hx hb dX2_tellWordSignAndZero_1 (by decide) ?_
  refine lv_iload_n hx hb dX2_tellWordSignAndZero_3 rfl (lv_at hl 1 rfl) ?_
  refine lv_ldc (v := 32768) hx hb hown (hts _ (List.mem_of_getElem? (i := 1) rfl)) dX2_tellWordSignAndZero_4 ?_
  refine lv_iand hx hb dX2_tellWordSignAndZero_6 ?_
  refine lv_if_eq (tgt := 14) hx hb dX2_tellWordSignAndZero_7 (by decide) (fun h7 => ?_) (fun h7 => ?_)
  · rw [if_pos h7]
    refine lv_iconst (v := 0) hx hb dX2_tellWordSignAndZero_14 (by decide) ?_
    exact k_Fl_tellWordSignAndZero_15 C w (lv_sub hl [0, 1] rfl)
  · rw [if_neg h7]
    refine lv_iconst (v := 1) hx hb dX2_tellWordSignAndZero_10 (by decide) ?_
    refine lv_goto (tgt := 15) hx hb dX2_tellWordSignAndZero_11 (by decide) ?_
    exact k_Fl_tellWordSignAndZero_15 C w (lv_sub hl [0, 1] rfl)
set_option maxHeartbeats 4000000 in
set_option maxRecDepth 100000 in
theorem c_Fl_tellWordSignAndZero (l : Launch) (A : Nat → Prop) (D : va_G) (cA : Nat → ClassId) (tb : Nat) (ad : Nat → Nat) (mu nu : Mu) (x1 : Int32) : Met l yX2_tellWordSignAndZero wsX2_tellWordSignAndZero ({ frames := 1, cells := 0, slots := 0, locals := 22 }) (va_Pc [.ref (ad 10), .int x1] (Pw A D cA tb ad mu nu)) (va_Qv (fun (u : Mu × Mu) => u = (F_Fl_tellWordSignAndZero x1 mu, nu)) (Bw A D cA ad) A) 0 0 A := by
  refine Met.ofW (cc := cX2_tellWordSignAndZero) (maxL := 2) (ret := none) (by decide) rfl ?_
  intro p e s m args below meth c s₁ B hml hv
  obtain ⟨rfl, w0⟩ := hv
  have C : Cx cX2_tellWordSignAndZero 2 none wsX2_tellWordSignAndZero RX2 A D cA tb p s m _ meth c := ⟨B.exec, B.bytes, B.returns, hml, findClass_of_methodNamed B.named, atoms_spec (ws := wsX2_tellWordSignAndZero) B.pre, B.notSynchronized, w0.2.1, w0.2.2.2.1, w0.2.2.2.2⟩
  have hl := lv_entry ([.ref (ad 10), .int x1]) (n := 2) (Nat.le_of_ble_eq_true rfl)
  rw [lg_entry_eq]
  exact k_Fl_tellWordSignAndZero C w0.wd hl
def F_Fl_takeByte (x1 : Int32) (mu : Mu) : Mu := (ps mu 10 0 (x1 &&& 63))
set_option maxHeartbeats 4000000 in
set_option maxRecDepth 100000 in
theorem k_Fl_takeByte (C : Cx cX2_takeByte 2 none wsX2_takeByte RX2 A D cA tb p s m args meth c) {mu nu : Mu} {x1 : Int32} {H : Heap} {locs : List Loc} {ls : Array Slot} (w : Wd A D cA ad s mu nu H locs) (hl : lv_has ls 2 [(0, .ref (ad 10)), (1, .int x1)]) : W p l e { frames := 0, cells := 0, slots := 0, locals := 0 } s m args below meth c H locs 0 0 (QV A D cA ad below args s (F_Fl_takeByte x1 mu) nu) (F0 m 0 ls []) := by
  have hx := C.1
  have hb := C.2.1
  have hts := C.2.2.2.2.2.1
  have hown := C.2.2.2.2.1
  unfold F_Fl_takeByte
  refine lv_aload_n hx hb dX2_takeByte_0 rfl (lv_at hl 0 rfl) ?_
  refine lv_iload_n hx hb dX2_takeByte_1 rfl (lv_at hl 1 rfl) ?_
  refine lv_bipush (v := 63) hx hb dX2_takeByte_2 (by decide) ?_
  refine lv_iand hx hb dX2_takeByte_4 ?_
  refine pt_10_0 C (fun _ h => List.mem_cons_of_mem _ (List.mem_append_right _ h)) (hts _ (List.mem_of_getElem? (i := 1) rfl)) w dX2_takeByte_5 (fun H locs w => ?_)
  exact retV C w dX2_takeByte_8
set_option maxHeartbeats 4000000 in
set_option maxRecDepth 100000 in
theorem c_Fl_takeByte (l : Launch) (A : Nat → Prop) (D : va_G) (cA : Nat → ClassId) (tb : Nat) (ad : Nat → Nat) (mu nu : Mu) (x1 : Int32) : Met l yX2_takeByte wsX2_takeByte ({ frames := 0, cells := 0, slots := 0, locals := 0 }) (va_Pc [.ref (ad 10), .int x1] (Pw A D cA tb ad mu nu)) (va_Qv (fun (u : Mu × Mu) => u = (F_Fl_takeByte x1 mu, nu)) (Bw A D cA ad) A) 0 0 A := by
  refine Met.ofW (cc := cX2_takeByte) (maxL := 2) (ret := none) (by decide) rfl ?_
  intro p e s m args below meth c s₁ B hml hv
  obtain ⟨rfl, w0⟩ := hv
  have C : Cx cX2_takeByte 2 none wsX2_takeByte RX2 A D cA tb p s m _ meth c := ⟨B.exec, B.bytes, B.returns, hml, findClass_of_methodNamed B.named, atoms_spec (ws := wsX2_takeByte) B.pre, B.notSynchronized, w0.2.1, w0.2.2.2.1, w0.2.2.2.2⟩
  have hl := lv_entry ([.ref (ad 10), .int x1]) (n := 2) (Nat.le_of_ble_eq_true rfl)
  rw [lg_entry_eq]
  exact k_Fl_takeByte C w0.wd hl
end
