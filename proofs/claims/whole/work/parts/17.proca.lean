section
variable {p : Program} {l : Launch} {e : Env} {s : State} {m : MethodId} {args : Array Value} {below : List Frame} {meth : Method} {c : Code} 
variable {A : Nat → Prop} {D : va_G} {cA : Nat → ClassId} {tb : Nat} {ad : Nat → Nat}
def F_Pr_goThrough_19 (y1 : Int32) (mu : Mu) : Mu := (ps mu 9 7 y1)
set_option maxHeartbeats 4000000 in
set_option maxRecDepth 100000 in
theorem k_Pr_goThrough_19 (C : Cx cX3_goThrough 2 none wsX3_goThrough RX3 A D cA tb p s m args meth c) {mu nu : Mu} {y1 : Int32} {H : Heap} {locs : List Loc} {ls : Array Slot} (w : Wd A D cA ad s mu nu H locs) (hl : lv_has ls 2 []) : W p l e { frames := 4, cells := 0, slots := 0, locals := 87 } s m args below meth c H locs 0 0 (QV A D cA ad below args s (F_Pr_goThrough_19 y1 mu) nu) (F0 m 19 ls [.int y1, .ref (ad 9)]) := by
  have hx := C.1
  have hb := C.2.1
  have hts := C.2.2.2.2.2.1
  have hown := C.2.2.2.2.1
  unfold F_Pr_goThrough_19
  refine pt_9_7 C (fun _ h => List.mem_cons_of_mem _ (List.mem_append_left _ (List.mem_append_left _ (List.mem_append_left _ (List.mem_append_left _ (List.mem_append_right _ h)))))) (hts _ (List.mem_of_getElem? (i := 3) rfl)) w dX3_goThrough_19 (fun H locs w => ?_)
  exact retV C w dX3_goThrough_22
def F_Pr_goThrough_10 (x1 : Int32) (mu : Mu) : Mu := F_Pr_goThrough_19 ((F_Bu_readWord x1 mu).1) ((F_Bu_readWord x1 mu).2)
set_option maxHeartbeats 4000000 in
set_option maxRecDepth 100000 in
theorem k_Pr_goThrough_10 (C : Cx cX3_goThrough 2 none wsX3_goThrough RX3 A D cA tb p s m args meth c) {mu nu : Mu} {x1 : Int32} {H : Heap} {locs : List Loc} {ls : Array Slot} (w : Wd A D cA ad s mu nu H locs) (hl : lv_has ls 2 [(0, .ref (ad 9)), (1, .int x1)]) : W p l e { frames := 4, cells := 0, slots := 0, locals := 87 } s m args below meth c H locs 0 0 (QV A D cA ad below args s (F_Pr_goThrough_10 x1 mu) nu) (F0 m 10 ls []) := by
  have hx := C.1
  have hb := C.2.1
  have hts := C.2.2.2.2.2.1
  have hown := C.2.2.2.2.1
  unfold F_Pr_goThrough_10
  refine lv_aload_n hx hb dX3_goThrough_10 rfl (lv_at hl 0 rfl) ?_
  refine lv_aload_n hx hb dX3_goThrough_11 rfl (lv_at hl 0 rfl) ?_
  refine gt_9_0 C (fun _ h => List.mem_cons_of_mem _ (List.mem_append_left _ (List.mem_append_left _ (List.mem_append_left _ (List.mem_append_left _ (List.mem_append_right _ h)))))) (hts _ (List.mem_of_getElem? (i := 2) rfl)) w dX3_goThrough_12 ?_
  refine lv_iload_n hx hb dX3_goThrough_15 rfl (lv_at hl 1 rfl) ?_
  refine kcI (k := 6) (ci := 1) (As := [.int x1]) (rest := [.ref (ad 9)]) C w rfl rfl (c_Bu_readWord l A D cA tb ad mu nu x1) (cwV 1 hts gX3_goThrough_X1_readWord rfl rfl rfl (by decide +kernel) ⟨Nat.le_of_ble_eq_true rfl, Nat.le_of_ble_eq_true rfl⟩) rfl rfl hl.1 (Nat.le_of_ble_eq_true rfl) dX3_goThrough_16 (fun H locs w => ?_)
  exact k_Pr_goThrough_19 C w (lv_sub hl [] rfl)
def F_Pr_goThrough (x1 : Int32) (mu : Mu) : Mu := F_Pr_goThrough_10 x1 (F_Fl_tell 16 1 mu)
set_option maxHeartbeats 4000000 in
set_option maxRecDepth 100000 in
theorem k_Pr_goThrough (C : Cx cX3_goThrough 2 none wsX3_goThrough RX3 A D cA tb p s m args meth c) {mu nu : Mu} {x1 : Int32} {H : Heap} {locs : List Loc} {ls : Array Slot} (w : Wd A D cA ad s mu nu H locs) (hl : lv_has ls 2 [(0, .ref (ad 9)), (1, .int x1)]) : W p l e { frames := 4, cells := 0, slots := 0, locals := 87 } s m args below meth c H locs 0 0 (QV A D cA ad below args s (F_Pr_goThrough x1 mu) nu) (F0 m 0 ls []) := by
  have hx := C.1
  have hb := C.2.1
  have hts := C.2.2.2.2.2.1
  have hown := C.2.2.2.2.1
  unfold F_Pr_goThrough
  refine lv_aload_n hx hb dX3_goThrough_0 rfl (lv_at hl 0 rfl) ?_
  refine gt_9_2 C (fun _ h => List.mem_cons_of_mem _ (List.mem_append_left _ (List.mem_append_left _ (List.mem_append_left _ (List.mem_append_left _ (List.mem_append_right _ h)))))) (hts _ (List.mem_of_getElem? (i := 1) rfl)) w dX3_goThrough_1 ?_
  refine lv_bipush (v := 16) hx hb dX3_goThrough_4 (by decide) ?_
  refine lv_iconst (v := 1) hx hb dX3_goThrough_6 (by decide) ?_
  refine kcV (k := 10) (ci := 2) (As := [.int 16, .int 1]) (rest := []) C w rfl rfl (c_Fl_tell l A D cA tb ad mu nu 16 1) (cwV 2 hts gX3_goThrough_X2_tell rfl rfl rfl (by decide +kernel) ⟨Nat.le_of_ble_eq_true rfl, Nat.le_of_ble_eq_true rfl⟩) rfl rfl hl.1 (Nat.le_of_ble_eq_true rfl) dX3_goThrough_7 (fun H locs w => ?_)
  exact k_Pr_goThrough_10 C w (lv_sub hl [0, 1] rfl)
set_option maxHeartbeats 4000000 in
set_option maxRecDepth 100000 in
theorem c_Pr_goThrough (l : Launch) (A : Nat → Prop) (D : va_G) (cA : Nat → ClassId) (tb : Nat) (ad : Nat → Nat) (mu nu : Mu) (x1 : Int32) : Met l yX3_goThrough wsX3_goThrough ({ frames := 4, cells := 0, slots := 0, locals := 87 }) (va_Pc [.ref (ad 9), .int x1] (Pw A D cA tb ad mu nu)) (va_Qv (fun (u : Mu × Mu) => u = (F_Pr_goThrough x1 mu, nu)) (Bw A D cA ad) A) 0 0 A := by
  refine Met.ofW (cc := cX3_goThrough) (maxL := 2) (ret := none) (by decide) rfl ?_
  intro p e s m args below meth c s₁ B hml hv
  obtain ⟨rfl, w0⟩ := hv
  have C : Cx cX3_goThrough 2 none wsX3_goThrough RX3 A D cA tb p s m _ meth c := ⟨B.exec, B.bytes, B.returns, hml, findClass_of_methodNamed B.named, atoms_spec (ws := wsX3_goThrough) B.pre, B.notSynchronized, w0.2.1, w0.2.2.2.1, w0.2.2.2.2⟩
  have hl := lv_entry ([.ref (ad 9), .int x1]) (n := 2) (Nat.le_of_ble_eq_true rfl)
  rw [lg_entry_eq]
  exact k_Pr_goThrough C w0.wd hl
def F_Pr_restart_6 (mu : Mu) : Mu := (ps (ps mu 9 8 0) 9 9 0)
set_option maxHeartbeats 4000000 in
set_option maxRecDepth 100000 in
theorem k_Pr_restart_6 (C : Cx cX3_restart 1 none wsX3_restart RX3 A D cA tb p s m args meth c) {mu nu : Mu} {H : Heap} {locs : List Loc} {ls : Array Slot} (w : Wd A D cA ad s mu nu H locs) (hl : lv_has ls 1 [(0, .ref (ad 9))]) : W p l e { frames := 5, cells := 0, slots := 0, locals := 108 } s m args below meth c H locs 0 0 (QV A D cA ad below args s (F_Pr_restart_6 mu) nu) (F0 m 6 ls []) := by
  have hx := C.1
  have hb := C.2.1
  have hts := C.2.2.2.2.2.1
  have hown := C.2.2.2.2.1
  unfold F_Pr_restart_6
  refine lv_aload_n hx hb dX3_restart_6 rfl (lv_at hl 0 rfl) ?_
  refine lv_iconst (v := 0) hx hb dX3_restart_7 (by decide) ?_
  refine pt_9_8 C (fun _ h => List.mem_cons_of_mem _ (List.mem_append_left _ (List.mem_append_left _ (List.mem_append_left _ (List.mem_append_left _ (List.mem_append_right _ h)))))) (hts _ (List.mem_of_getElem? (i := 2) rfl)) w (Or.inl rfl) dX3_restart_8 (fun H locs w => ?_)
  refine lv_aload_n hx hb dX3_restart_11 rfl (lv_at hl 0 rfl) ?_
  refine lv_iconst (v := 0) hx hb dX3_restart_12 (by decide) ?_
  refine pt_9_9 C (fun _ h => List.mem_cons_of_mem _ (List.mem_append_left _ (List.mem_append_left _ (List.mem_append_left _ (List.mem_append_left _ (List.mem_append_right _ h)))))) (hts _ (List.mem_of_getElem? (i := 3) rfl)) w (Or.inl rfl) dX3_restart_13 (fun H locs w => ?_)
  exact retV C w dX3_restart_16
def F_Pr_restart (mu : Mu) : Mu := F_Pr_restart_6 (F_Pr_goThrough 65534 mu)
set_option maxHeartbeats 4000000 in
set_option maxRecDepth 100000 in
theorem k_Pr_restart (C : Cx cX3_restart 1 none wsX3_restart RX3 A D cA tb p s m args meth c) {mu nu : Mu} {H : Heap} {locs : List Loc} {ls : Array Slot} (w : Wd A D cA ad s mu nu H locs) (hl : lv_has ls 1 [(0, .ref (ad 9))]) : W p l e { frames := 5, cells := 0, slots := 0, locals := 108 } s m args below meth c H locs 0 0 (QV A D cA ad below args s (F_Pr_restart mu) nu) (F0 m 0 ls []) := by
  have hx := C.1
  have hb := C.2.1
  have hts := C.2.2.2.2.2.1
  have hown := C.2.2.2.2.1
  unfold F_Pr_restart
  refine lv_aload_n hx hb dX3_restart_0 rfl (lv_at hl 0 rfl) ?_
  refine lv_ldc (v := 65534) hx hb hown (hts _ (List.mem_of_getElem? (i := 1) rfl)) dX3_restart_1 ?_
  refine kcV (k := 9) (ci := 3) (As := [.int 65534]) (rest := []) C w rfl rfl (c_Pr_goThrough l A D cA tb ad mu nu 65534) (cwV 1 hts gX3_restart_X3_goThrough rfl rfl rfl (by decide +kernel) ⟨Nat.le_of_ble_eq_true rfl, Nat.le_of_ble_eq_true rfl⟩) rfl rfl hl.1 (Nat.le_of_ble_eq_true rfl) dX3_restart_3 (fun H locs w => ?_)
  exact k_Pr_restart_6 C w (lv_sub hl [0] rfl)
set_option maxHeartbeats 4000000 in
set_option maxRecDepth 100000 in
theorem c_Pr_restart (l : Launch) (A : Nat → Prop) (D : va_G) (cA : Nat → ClassId) (tb : Nat) (ad : Nat → Nat) (mu nu : Mu) : Met l yX3_restart wsX3_restart ({ frames := 5, cells := 0, slots := 0, locals := 108 }) (va_Pc [.ref (ad 9)] (Pw A D cA tb ad mu nu)) (va_Qv (fun (u : Mu × Mu) => u = (F_Pr_restart mu, nu)) (Bw A D cA ad) A) 0 0 A := by
  refine Met.ofW (cc := cX3_restart) (maxL := 1) (ret := none) (by decide) rfl ?_
  intro p e s m args below meth c s₁ B hml hv
  obtain ⟨rfl, w0⟩ := hv
  have C : Cx cX3_restart 1 none wsX3_restart RX3 A D cA tb p s m _ meth c := ⟨B.exec, B.bytes, B.returns, hml, findClass_of_methodNamed B.named, atoms_spec (ws := wsX3_restart) B.pre, B.notSynchronized, w0.2.1, w0.2.2.2.1, w0.2.2.2.2⟩
  have hl := lv_entry ([.ref (ad 9)]) (n := 1) (Nat.le_of_ble_eq_true rfl)
  rw [lg_entry_eq]
  exact k_Pr_restart C w0.wd hl
def F_Pr_pushWord_33 (mu : Mu) : Mu := (ps mu 9 6 (((mu 9 6) - 2) &&& 65535))
set_option maxHeartbeats 4000000 in
set_option maxRecDepth 100000 in
theorem k_Pr_pushWord_33 (C : Cx cX3_pushWord 2 none wsX3_pushWord RX3 A D cA tb p s m args meth c) {mu nu : Mu} {H : Heap} {locs : List Loc} {ls : Array Slot} (w : Wd A D cA ad s mu nu H locs) (hl : lv_has ls 2 [(0, .ref (ad 9))]) : W p l e { frames := 3, cells := 0, slots := 0, locals := 64 } s m args below meth c H locs 0 0 (QV A D cA ad below args s (F_Pr_pushWord_33 mu) nu) (F0 m 33 ls []) := by
  have hx := C.1
  have hb := C.2.1
  have hts := C.2.2.2.2.2.1
  have hown := C.2.2.2.2.1
  unfold F_Pr_pushWord_33
  refine lv_aload_n hx hb dX3_pushWord_33 rfl (lv_at hl 0 rfl) ?_
  refine lv_aload_n hx hb dX3_pushWord_34 rfl (lv_at hl 0 rfl) ?_
  refine gt_9_6 C (fun _ h => List.mem_cons_of_mem _ (List.mem_append_left _ (List.mem_append_left _ (List.mem_append_left _ (List.mem_append_right _ h))))) (hts _ (List.mem_of_getElem? (i := 2) rfl)) w (v := (mu 9 6)) rfl dX3_pushWord_35 ?_
  refine lv_iconst (v := 2) hx hb dX3_pushWord_38 (by decide) ?_
  refine lv_isub hx hb dX3_pushWord_39 ?_
  refine lv_ldc (v := 65535) hx hb hown (hts _ (List.mem_of_getElem? (i := 3) rfl)) dX3_pushWord_40 ?_
  refine lv_iand hx hb dX3_pushWord_42 ?_
  refine pt_9_6 C (fun _ h => List.mem_cons_of_mem _ (List.mem_append_left _ (List.mem_append_left _ (List.mem_append_left _ (List.mem_append_right _ h))))) (hts _ (List.mem_of_getElem? (i := 2) rfl)) w dX3_pushWord_43 (fun H locs w => ?_)
  exact retV C w dX3_pushWord_46
def F_Pr_pushWord_16 (x1 : Int32) (mu : Mu) : Mu := F_Pr_pushWord_33 (F_Bu_write ((mu 9 6) - 1) (x1 >>> (8 &&& 31)) mu)
set_option maxHeartbeats 4000000 in
set_option maxRecDepth 100000 in
theorem k_Pr_pushWord_16 (C : Cx cX3_pushWord 2 none wsX3_pushWord RX3 A D cA tb p s m args meth c) {mu nu : Mu} {x1 : Int32} {H : Heap} {locs : List Loc} {ls : Array Slot} (w : Wd A D cA ad s mu nu H locs) (hl : lv_has ls 2 [(0, .ref (ad 9)), (1, .int x1)]) : W p l e { frames := 3, cells := 0, slots := 0, locals := 64 } s m args below meth c H locs 0 0 (QV A D cA ad below args s (F_Pr_pushWord_16 x1 mu) nu) (F0 m 16 ls []) := by
  have hx := C.1
  have hb := C.2.1
  have hts := C.2.2.2.2.2.1
  have hown := C.2.2.2.2.1
  unfold F_Pr_pushWord_16
  refine lv_aload_n hx hb dX3_pushWord_16 rfl (lv_at hl 0 rfl) ?_
  refine gt_9_0 C (fun _ h => List.mem_cons_of_mem _ (List.mem_append_left _ (List.mem_append_left _ (List.mem_append_left _ (List.mem_append_right _ h))))) (hts _ (List.mem_of_getElem? (i := 1) rfl)) w dX3_pushWord_17 ?_
  refine lv_aload_n hx hb dX3_pushWord_20 rfl (lv_at hl 0 rfl) ?_
  refine gt_9_6 C (fun _ h => List.mem_cons_of_mem _ (List.mem_append_left _ (List.mem_append_left _ (List.mem_append_left _ (List.mem_append_right _ h))))) (hts _ (List.mem_of_getElem? (i := 2) rfl)) w (v := (mu 9 6)) rfl dX3_pushWord_21 ?_
  refine lv_iconst (v := 1) hx hb dX3_pushWord_24 (by decide) ?_
  refine lv_isub hx hb dX3_pushWord_25 ?_
  refine lv_iload_n hx hb dX3_pushWord_26 rfl (lv_at hl 1 rfl) ?_
  refine lv_bipush (v := 8) hx hb dX3_pushWord_27 (by decide) ?_
  refine lv_ishr hx hb dX3_pushWord_29 ?_
  refine kcV (k := 6) (ci := 1) (As := [.int (((mu 9 6) - 1)), .int ((x1 >>> (8 &&& 31)))]) (rest := []) C w rfl rfl (c_Bu_write l A D cA tb ad mu nu ((mu 9 6) - 1) (x1 >>> (8 &&& 31))) (cwV 2 hts gX3_pushWord_X1_write rfl rfl rfl (by decide +kernel) ⟨Nat.le_of_ble_eq_true rfl, Nat.le_of_ble_eq_true rfl⟩) rfl rfl hl.1 (Nat.le_of_ble_eq_true rfl) dX3_pushWord_30 (fun H locs w => ?_)
  exact k_Pr_pushWord_33 C w (lv_sub hl [0] rfl)
def F_Pr_pushWord (x1 : Int32) (mu : Mu) : Mu := F_Pr_pushWord_16 x1 (F_Bu_write (mu 9 6) (x1 &&& 255) mu)
set_option maxHeartbeats 4000000 in
set_option maxRecDepth 100000 in
theorem k_Pr_pushWord (C : Cx cX3_pushWord 2 none wsX3_pushWord RX3 A D cA tb p s m args meth c) {mu nu : Mu} {x1 : Int32} {H : Heap} {locs : List Loc} {ls : Array Slot} (w : Wd A D cA ad s mu nu H locs) (hl : lv_has ls 2 [(0, .ref (ad 9)), (1, .int x1)]) : W p l e { frames := 3, cells := 0, slots := 0, locals := 64 } s m args below meth c H locs 0 0 (QV A D cA ad below args s (F_Pr_pushWord x1 mu) nu) (F0 m 0 ls []) := by
  have hx := C.1
  have hb := C.2.1
  have hts := C.2.2.2.2.2.1
  have hown := C.2.2.2.2.1
  unfold F_Pr_pushWord
  refine lv_aload_n hx hb dX3_pushWord_0 rfl (lv_at hl 0 rfl) ?_
  refine gt_9_0 C (fun _ h => List.mem_cons_of_mem _ (List.mem_append_left _ (List.mem_append_left _ (List.mem_append_left _ (List.mem_append_right _ h))))) (hts _ (List.mem_of_getElem? (i := 1) rfl)) w dX3_pushWord_1 ?_
  refine lv_aload_n hx hb dX3_pushWord_4 rfl (lv_at hl 0 rfl) ?_
  refine gt_9_6 C (fun _ h => List.mem_cons_of_mem _ (List.mem_append_left _ (List.mem_append_left _ (List.mem_append_left _ (List.mem_append_right _ h))))) (hts _ (List.mem_of_getElem? (i := 2) rfl)) w (v := (mu 9 6)) rfl dX3_pushWord_5 ?_
  refine lv_iload_n hx hb dX3_pushWord_8 rfl (lv_at hl 1 rfl) ?_
  refine lv_sipush (v := 255) hx hb dX3_pushWord_9 (by decide) ?_
  refine lv_iand hx hb dX3_pushWord_12 ?_
  refine kcV (k := 6) (ci := 1) (As := [.int ((mu 9 6)), .int ((x1 &&& 255))]) (rest := []) C w rfl rfl (c_Bu_write l A D cA tb ad mu nu (mu 9 6) (x1 &&& 255)) (cwV 2 hts gX3_pushWord_X1_write rfl rfl rfl (by decide +kernel) ⟨Nat.le_of_ble_eq_true rfl, Nat.le_of_ble_eq_true rfl⟩) rfl rfl hl.1 (Nat.le_of_ble_eq_true rfl) dX3_pushWord_13 (fun H locs w => ?_)
  exact k_Pr_pushWord_16 C w (lv_sub hl [0, 1] rfl)
set_option maxHeartbeats 4000000 in
set_option maxRecDepth 100000 in
theorem c_Pr_pushWord (l : Launch) (A : Nat → Prop) (D : va_G) (cA : Nat → ClassId) (tb : Nat) (ad : Nat → Nat) (mu nu : Mu) (x1 : Int32) : Met l yX3_pushWord wsX3_pushWord ({ frames := 3, cells := 0, slots := 0, locals := 64 }) (va_Pc [.ref (ad 9), .int x1] (Pw A D cA tb ad mu nu)) (va_Qv (fun (u : Mu × Mu) => u = (F_Pr_pushWord x1 mu, nu)) (Bw A D cA ad) A) 0 0 A := by
  refine Met.ofW (cc := cX3_pushWord) (maxL := 2) (ret := none) (by decide) rfl ?_
  intro p e s m args below meth c s₁ B hml hv
  obtain ⟨rfl, w0⟩ := hv
  have C : Cx cX3_pushWord 2 none wsX3_pushWord RX3 A D cA tb p s m _ meth c := ⟨B.exec, B.bytes, B.returns, hml, findClass_of_methodNamed B.named, atoms_spec (ws := wsX3_pushWord) B.pre, B.notSynchronized, w0.2.1, w0.2.2.2.1, w0.2.2.2.2⟩
  have hl := lv_entry ([.ref (ad 9), .int x1]) (n := 2) (Nat.le_of_ble_eq_true rfl)
  rw [lg_entry_eq]
  exact k_Pr_pushWord C w0.wd hl
def F_Pr_push_12 (mu : Mu) : Mu := (ps mu 9 6 (((mu 9 6) - 1) &&& 65535))
set_option maxHeartbeats 4000000 in
set_option maxRecDepth 100000 in
theorem k_Pr_push_12 (C : Cx cX3_push 2 none wsX3_push RX3 A D cA tb p s m args meth c) {mu nu : Mu} {H : Heap} {locs : List Loc} {ls : Array Slot} (w : Wd A D cA ad s mu nu H locs) (hl : lv_has ls 2 [(0, .ref (ad 9))]) : W p l e { frames := 3, cells := 0, slots := 0, locals := 64 } s m args below meth c H locs 0 0 (QV A D cA ad below args s (F_Pr_push_12 mu) nu) (F0 m 12 ls []) := by
  have hx := C.1
  have hb := C.2.1
  have hts := C.2.2.2.2.2.1
  have hown := C.2.2.2.2.1
  unfold F_Pr_push_12
  refine lv_aload_n hx hb dX3_push_12 rfl (lv_at hl 0 rfl) ?_
  refine lv_aload_n hx hb dX3_push_13 rfl (lv_at hl 0 rfl) ?_
  refine gt_9_6 C (fun _ h => List.mem_cons_of_mem _ (List.mem_append_left _ (List.mem_append_left _ (List.mem_append_left _ (List.mem_append_right _ h))))) (hts _ (List.mem_of_getElem? (i := 2) rfl)) w (v := (mu 9 6)) rfl dX3_push_14 ?_
  refine lv_iconst (v := 1) hx hb dX3_push_17 (by decide) ?_
  refine lv_isub hx hb dX3_push_18 ?_
  refine lv_ldc (v := 65535) hx hb hown (hts _ (List.mem_of_getElem? (i := 3) rfl)) dX3_push_19 ?_
  refine lv_iand hx hb dX3_push_21 ?_
  refine pt_9_6 C (fun _ h => List.mem_cons_of_mem _ (List.mem_append_left _ (List.mem_append_left _ (List.mem_append_left _ (List.mem_append_right _ h))))) (hts _ (List.mem_of_getElem? (i := 2) rfl)) w dX3_push_22 (fun H locs w => ?_)
  exact retV C w dX3_push_25
def F_Pr_push (x1 : Int32) (mu : Mu) : Mu := F_Pr_push_12 (F_Bu_write (mu 9 6) x1 mu)
set_option maxHeartbeats 4000000 in
set_option maxRecDepth 100000 in
theorem k_Pr_push (C : Cx cX3_push 2 none wsX3_push RX3 A D cA tb p s m args meth c) {mu nu : Mu} {x1 : Int32} {H : Heap} {locs : List Loc} {ls : Array Slot} (w : Wd A D cA ad s mu nu H locs) (hl : lv_has ls 2 [(0, .ref (ad 9)), (1, .int x1)]) : W p l e { frames := 3, cells := 0, slots := 0, locals := 64 } s m args below meth c H locs 0 0 (QV A D cA ad below args s (F_Pr_push x1 mu) nu) (F0 m 0 ls []) := by
  have hx := C.1
  have hb := C.2.1
  have hts := C.2.2.2.2.2.1
  have hown := C.2.2.2.2.1
  unfold F_Pr_push
  refine lv_aload_n hx hb dX3_push_0 rfl (lv_at hl 0 rfl) ?_
  refine gt_9_0 C (fun _ h => List.mem_cons_of_mem _ (List.mem_append_left _ (List.mem_append_left _ (List.mem_append_left _ (List.mem_append_right _ h))))) (hts _ (List.mem_of_getElem? (i := 1) rfl)) w dX3_push_1 ?_
  refine lv_aload_n hx hb dX3_push_4 rfl (lv_at hl 0 rfl) ?_
  refine gt_9_6 C (fun _ h => List.mem_cons_of_mem _ (List.mem_append_left _ (List.mem_append_left _ (List.mem_append_left _ (List.mem_append_right _ h))))) (hts _ (List.mem_of_getElem? (i := 2) rfl)) w (v := (mu 9 6)) rfl dX3_push_5 ?_
  refine lv_iload_n hx hb dX3_push_8 rfl (lv_at hl 1 rfl) ?_
  refine kcV (k := 6) (ci := 1) (As := [.int ((mu 9 6)), .int x1]) (rest := []) C w rfl rfl (c_Bu_write l A D cA tb ad mu nu (mu 9 6) x1) (cwV 2 hts gX3_push_X1_write rfl rfl rfl (by decide +kernel) ⟨Nat.le_of_ble_eq_true rfl, Nat.le_of_ble_eq_true rfl⟩) rfl rfl hl.1 (Nat.le_of_ble_eq_true rfl) dX3_push_9 (fun H locs w => ?_)
  exact k_Pr_push_12 C w (lv_sub hl [0] rfl)
set_option maxHeartbeats 4000000 in
set_option maxRecDepth 100000 in
theorem c_Pr_push (l : Launch) (A : Nat → Prop) (D : va_G) (cA : Nat → ClassId) (tb : Nat) (ad : Nat → Nat) (mu nu : Mu) (x1 : Int32) : Met l yX3_push wsX3_push ({ frames := 3, cells := 0, slots := 0, locals := 64 }) (va_Pc [.ref (ad 9), .int x1] (Pw A D cA tb ad mu nu)) (va_Qv (fun (u : Mu × Mu) => u = (F_Pr_push x1 mu, nu)) (Bw A D cA ad) A) 0 0 A := by
  refine Met.ofW (cc := cX3_push) (maxL := 2) (ret := none) (by decide) rfl ?_
  intro p e s m args below meth c s₁ B hml hv
  obtain ⟨rfl, w0⟩ := hv
  have C : Cx cX3_push 2 none wsX3_push RX3 A D cA tb p s m _ meth c := ⟨B.exec, B.bytes, B.returns, hml, findClass_of_methodNamed B.named, atoms_spec (ws := wsX3_push) B.pre, B.notSynchronized, w0.2.1, w0.2.2.2.1, w0.2.2.2.2⟩
  have hl := lv_entry ([.ref (ad 9), .int x1]) (n := 2) (Nat.le_of_ble_eq_true rfl)
  rw [lg_entry_eq]
  exact k_Pr_push C w0.wd hl
def F_Pr_pushAll_32 (mu : Mu) : Mu := (F_Pr_push (F_Fl_asByte mu) mu)
set_option maxHeartbeats 4000000 in
set_option maxRecDepth 100000 in
theorem k_Pr_pushAll_32 (C : Cx cX3_pushAll 1 none wsX3_pushAll RX3 A D cA tb p s m args meth c) {mu nu : Mu} {H : Heap} {locs : List Loc} {ls : Array Slot} (w : Wd A D cA ad s mu nu H locs) (hl : lv_has ls 1 [(0, .ref (ad 9))]) : W p l e { frames := 4, cells := 0, slots := 0, locals := 85 } s m args below meth c H locs 0 0 (QV A D cA ad below args s (F_Pr_pushAll_32 mu) nu) (F0 m 32 ls []) := by
  have hx := C.1
  have hb := C.2.1
  have hts := C.2.2.2.2.2.1
  have hown := C.2.2.2.2.1
  unfold F_Pr_pushAll_32
  refine lv_aload_n hx hb dX3_pushAll_32 rfl (lv_at hl 0 rfl) ?_
  refine lv_aload_n hx hb dX3_pushAll_33 rfl (lv_at hl 0 rfl) ?_
  refine gt_9_2 C (fun _ h => List.mem_cons_of_mem _ (List.mem_append_left _ (List.mem_append_left _ (List.mem_append_left _ (List.mem_append_left _ (List.mem_append_right _ h)))))) (hts _ (List.mem_of_getElem? (i := 5) rfl)) w dX3_pushAll_34 ?_
  refine kcI (k := 10) (ci := 2) (As := []) (rest := [.ref (ad 9)]) C w rfl rfl (c_Fl_asByte l A D cA tb ad mu nu) (cwV 0 hts gX3_pushAll_X2_asByte rfl rfl rfl (by decide +kernel) ⟨Nat.le_of_ble_eq_true rfl, Nat.le_of_ble_eq_true rfl⟩) rfl rfl hl.1 (Nat.le_of_ble_eq_true rfl) dX3_pushAll_37 (fun H locs w => ?_)
  refine kcV (k := 9) (ci := 3) (As := [.int ((F_Fl_asByte mu))]) (rest := []) C w rfl rfl (c_Pr_push l A D cA tb ad mu nu (F_Fl_asByte mu)) (cwV 1 hts gX3_pushAll_X3_push rfl rfl rfl (by decide +kernel) ⟨Nat.le_of_ble_eq_true rfl, Nat.le_of_ble_eq_true rfl⟩) rfl rfl hl.1 (Nat.le_of_ble_eq_true rfl) dX3_pushAll_40 (fun H locs w => ?_)
  exact retV C w dX3_pushAll_43
def F_Pr_pushAll_24 (mu : Mu) : Mu := F_Pr_pushAll_32 (F_Pr_push (mu 9 4) mu)
set_option maxHeartbeats 4000000 in
set_option maxRecDepth 100000 in
theorem k_Pr_pushAll_24 (C : Cx cX3_pushAll 1 none wsX3_pushAll RX3 A D cA tb p s m args meth c) {mu nu : Mu} {H : Heap} {locs : List Loc} {ls : Array Slot} (w : Wd A D cA ad s mu nu H locs) (hl : lv_has ls 1 [(0, .ref (ad 9))]) : W p l e { frames := 4, cells := 0, slots := 0, locals := 85 } s m args below meth c H locs 0 0 (QV A D cA ad below args s (F_Pr_pushAll_24 mu) nu) (F0 m 24 ls []) := by
  have hx := C.1
  have hb := C.2.1
  have hts := C.2.2.2.2.2.1
  have hown := C.2.2.2.2.1
  unfold F_Pr_pushAll_24
  refine lv_aload_n hx hb dX3_pushAll_24 rfl (lv_at hl 0 rfl) ?_
  refine lv_aload_n hx hb dX3_pushAll_25 rfl (lv_at hl 0 rfl) ?_
  refine gt_9_4 C (fun _ h => List.mem_cons_of_mem _ (List.mem_append_left _ (List.mem_append_left _ (List.mem_append_left _ (List.mem_append_left _ (List.mem_append_right _ h)))))) (hts _ (List.mem_of_getElem? (i := 4) rfl)) w (v := (mu 9 4)) rfl dX3_pushAll_26 ?_
  refine kcV (k := 9) (ci := 3) (As := [.int ((mu 9 4))]) (rest := []) C w rfl rfl (c_Pr_push l A D cA tb ad mu nu (mu 9 4)) (cwV 1 hts gX3_pushAll_X3_push rfl rfl rfl (by decide +kernel) ⟨Nat.le_of_ble_eq_true rfl, Nat.le_of_ble_eq_true rfl⟩) rfl rfl hl.1 (Nat.le_of_ble_eq_true rfl) dX3_pushAll_29 (fun H locs w => ?_)
  exact k_Pr_pushAll_32 C w (lv_sub hl [0] rfl)
def F_Pr_pushAll_16 (mu : Mu) : Mu := F_Pr_pushAll_24 (F_Pr_push (mu 9 3) mu)
set_option maxHeartbeats 4000000 in
set_option maxRecDepth 100000 in
theorem k_Pr_pushAll_16 (C : Cx cX3_pushAll 1 none wsX3_pushAll RX3 A D cA tb p s m args meth c) {mu nu : Mu} {H : Heap} {locs : List Loc} {ls : Array Slot} (w : Wd A D cA ad s mu nu H locs) (hl : lv_has ls 1 [(0, .ref (ad 9))]) : W p l e { frames := 4, cells := 0, slots := 0, locals := 85 } s m args below meth c H locs 0 0 (QV A D cA ad below args s (F_Pr_pushAll_16 mu) nu) (F0 m 16 ls []) := by
  have hx := C.1
  have hb := C.2.1
  have hts := C.2.2.2.2.2.1
  have hown := C.2.2.2.2.1
  unfold F_Pr_pushAll_16
  refine lv_aload_n hx hb dX3_pushAll_16 rfl (lv_at hl 0 rfl) ?_
  refine lv_aload_n hx hb dX3_pushAll_17 rfl (lv_at hl 0 rfl) ?_
  refine gt_9_3 C (fun _ h => List.mem_cons_of_mem _ (List.mem_append_left _ (List.mem_append_left _ (List.mem_append_left _ (List.mem_append_left _ (List.mem_append_right _ h)))))) (hts _ (List.mem_of_getElem? (i := 3) rfl)) w (v := (mu 9 3)) rfl dX3_pushAll_18 ?_
  refine kcV (k := 9) (ci := 3) (As := [.int ((mu 9 3))]) (rest := []) C w rfl rfl (c_Pr_push l A D cA tb ad mu nu (mu 9 3)) (cwV 1 hts gX3_pushAll_X3_push rfl rfl rfl (by decide +kernel) ⟨Nat.le_of_ble_eq_true rfl, Nat.le_of_ble_eq_true rfl⟩) rfl rfl hl.1 (Nat.le_of_ble_eq_true rfl) dX3_pushAll_21 (fun H locs w => ?_)
  exact k_Pr_pushAll_24 C w (lv_sub hl [0] rfl)
def F_Pr_pushAll_8 (mu : Mu) : Mu := F_Pr_pushAll_16 (F_Pr_pushWord (mu 9 5) mu)
set_option maxHeartbeats 4000000 in
set_option maxRecDepth 100000 in
theorem k_Pr_pushAll_8 (C : Cx cX3_pushAll 1 none wsX3_pushAll RX3 A D cA tb p s m args meth c) {mu nu : Mu} {H : Heap} {locs : List Loc} {ls : Array Slot} (w : Wd A D cA ad s mu nu H locs) (hl : lv_has ls 1 [(0, .ref (ad 9))]) : W p l e { frames := 4, cells := 0, slots := 0, locals := 85 } s m args below meth c H locs 0 0 (QV A D cA ad below args s (F_Pr_pushAll_8 mu) nu) (F0 m 8 ls []) := by
  have hx := C.1
  have hb := C.2.1
  have hts := C.2.2.2.2.2.1
  have hown := C.2.2.2.2.1
  unfold F_Pr_pushAll_8
  refine lv_aload_n hx hb dX3_pushAll_8 rfl (lv_at hl 0 rfl) ?_
  refine lv_aload_n hx hb dX3_pushAll_9 rfl (lv_at hl 0 rfl) ?_
  refine gt_9_5 C (fun _ h => List.mem_cons_of_mem _ (List.mem_append_left _ (List.mem_append_left _ (List.mem_append_left _ (List.mem_append_left _ (List.mem_append_right _ h)))))) (hts _ (List.mem_of_getElem? (i := 2) rfl)) w (v := (mu 9 5)) rfl dX3_pushAll_10 ?_
  refine kcV (k := 9) (ci := 3) (As := [.int ((mu 9 5))]) (rest := []) C w rfl rfl (c_Pr_pushWord l A D cA tb ad mu nu (mu 9 5)) (cwV 1 hts gX3_pushAll_X3_pushWord rfl rfl rfl (by decide +kernel) ⟨Nat.le_of_ble_eq_true rfl, Nat.le_of_ble_eq_true rfl⟩) rfl rfl hl.1 (Nat.le_of_ble_eq_true rfl) dX3_pushAll_13 (fun H locs w => ?_)
  exact k_Pr_pushAll_16 C w (lv_sub hl [0] rfl)
def F_Pr_pushAll (mu : Mu) : Mu := F_Pr_pushAll_8 (F_Pr_pushWord (mu 9 7) mu)
set_option maxHeartbeats 4000000 in
set_option maxRecDepth 100000 in
theorem k_Pr_pushAll (C : Cx cX3_pushAll 1 none wsX3_pushAll RX3 A D cA tb p s m args meth c) {mu nu : Mu} {H : Heap} {locs : List Loc} {ls : Array Slot} (w : Wd A D cA ad s mu nu H locs) (hl : lv_has ls 1 [(0, .ref (ad 9))]) : W p l e { frames := 4, cells := 0, slots := 0, locals := 85 } s m args below meth c H locs 0 0 (QV A D cA ad below args s (F_Pr_pushAll mu) nu) (F0 m 0 ls []) := by
  have hx := C.1
  have hb := C.2.1
  have hts := C.2.2.2.2.2.1
  have hown := C.2.2.2.2.1
  unfold F_Pr_pushAll
  refine lv_aload_n hx hb dX3_pushAll_0 rfl (lv_at hl 0 rfl) ?_
  refine lv_aload_n hx hb dX3_pushAll_1 rfl (lv_at hl 0 rfl) ?_
  refine gt_9_7 C (fun _ h => List.mem_cons_of_mem _ (List.mem_append_left _ (List.mem_append_left _ (List.mem_append_left _ (List.mem_append_left _ (List.mem_append_right _ h)))))) (hts _ (List.mem_of_getElem? (i := 1) rfl)) w (v := (mu 9 7)) rfl dX3_pushAll_2 ?_
  refine kcV (k := 9) (ci := 3) (As := [.int ((mu 9 7))]) (rest := []) C w rfl rfl (c_Pr_pushWord l A D cA tb ad mu nu (mu 9 7)) (cwV 1 hts gX3_pushAll_X3_pushWord rfl rfl rfl (by decide +kernel) ⟨Nat.le_of_ble_eq_true rfl, Nat.le_of_ble_eq_true rfl⟩) rfl rfl hl.1 (Nat.le_of_ble_eq_true rfl) dX3_pushAll_5 (fun H locs w => ?_)
  exact k_Pr_pushAll_8 C w (lv_sub hl [0] rfl)
set_option maxHeartbeats 4000000 in
set_option maxRecDepth 100000 in
theorem c_Pr_pushAll (l : Launch) (A : Nat → Prop) (D : va_G) (cA : Nat → ClassId) (tb : Nat) (ad : Nat → Nat) (mu nu : Mu) : Met l yX3_pushAll wsX3_pushAll ({ frames := 4, cells := 0, slots := 0, locals := 85 }) (va_Pc [.ref (ad 9)] (Pw A D cA tb ad mu nu)) (va_Qv (fun (u : Mu × Mu) => u = (F_Pr_pushAll mu, nu)) (Bw A D cA ad) A) 0 0 A := by
  refine Met.ofW (cc := cX3_pushAll) (maxL := 1) (ret := none) (by decide) rfl ?_
  intro p e s m args below meth c s₁ B hml hv
  obtain ⟨rfl, w0⟩ := hv
  have C : Cx cX3_pushAll 1 none wsX3_pushAll RX3 A D cA tb p s m _ meth c := ⟨B.exec, B.bytes, B.returns, hml, findClass_of_methodNamed B.named, atoms_spec (ws := wsX3_pushAll) B.pre, B.notSynchronized, w0.2.1, w0.2.2.2.1, w0.2.2.2.2⟩
  have hl := lv_entry ([.ref (ad 9)]) (n := 1) (Nat.le_of_ble_eq_true rfl)
  rw [lg_entry_eq]
  exact k_Pr_pushAll C w0.wd hl
def F_Pr_interrupt_11 (mu : Mu) : Mu := (F_Pr_goThrough 65528 (ps mu 9 8 0))
set_option maxHeartbeats 4000000 in
set_option maxRecDepth 100000 in
theorem k_Pr_interrupt_11 (C : Cx cX3_interrupt 1 none wsX3_interrupt RX3 A D cA tb p s m args meth c) {mu nu : Mu} {H : Heap} {locs : List Loc} {ls : Array Slot} (w : Wd A D cA ad s mu nu H locs) (hl : lv_has ls 1 [(0, .ref (ad 9))]) : W p l e { frames := 5, cells := 0, slots := 0, locals := 108 } s m args below meth c H locs 0 0 (QV A D cA ad below args s (F_Pr_interrupt_11 mu) nu) (F0 m 11 ls []) := by
  have hx := C.1
  have hb := C.2.1
  have hts := C.2.2.2.2.2.1
  have hown := C.2.2.2.2.1
  unfold F_Pr_interrupt_11
  refine lv_aload_n hx hb dX3_interrupt_11 rfl (lv_at hl 0 rfl) ?_
  refine lv_iconst (v := 0) hx hb dX3_interrupt_12 (by decide) ?_
  refine pt_9_8 C (fun _ h => List.mem_cons_of_mem _ (List.mem_append_left _ (List.mem_append_left _ (List.mem_append_left _ (List.mem_append_left _ (List.mem_append_right _ h)))))) (hts _ (List.mem_of_getElem? (i := 1) rfl)) w (Or.inl rfl) dX3_interrupt_13 (fun H locs w => ?_)
  refine lv_aload_n hx hb dX3_interrupt_16 rfl (lv_at hl 0 rfl) ?_
  refine lv_ldc (v := 65528) hx hb hown (hts _ (List.mem_of_getElem? (i := 2) rfl)) dX3_interrupt_17 ?_
  refine kcV (k := 9) (ci := 3) (As := [.int 65528]) (rest := []) C w rfl rfl (c_Pr_goThrough l A D cA tb ad (ps mu 9 8 0) nu 65528) (cwV 1 hts gX3_interrupt_X3_goThrough rfl rfl rfl (by decide +kernel) ⟨Nat.le_of_ble_eq_true rfl, Nat.le_of_ble_eq_true rfl⟩) rfl rfl hl.1 (Nat.le_of_ble_eq_true rfl) dX3_interrupt_19 (fun H locs w => ?_)
  exact retV C w dX3_interrupt_22
def F_Pr_interrupt (mu : Mu) : Mu := (if (mu 9 8) = (0 : Int32) then F_Pr_interrupt_11 (F_Pr_pushAll mu) else F_Pr_interrupt_11 mu)
set_option maxHeartbeats 4000000 in
set_option maxRecDepth 100000 in
theorem k_Pr_interrupt (C : Cx cX3_interrupt 1 none wsX3_interrupt RX3 A D cA tb p s m args meth c) {mu nu : Mu} {H : Heap} {locs : List Loc} {ls : Array Slot} (w : Wd A D cA ad s mu nu H locs) (hl : lv_has ls 1 [(0, .ref (ad 9))]) : W p l e { frames := 5, cells := 0, slots := 0, locals := 108 } s m args below meth c H locs 0 0 (QV A D cA ad below args s (F_Pr_interrupt mu) nu) (F0 m 0 ls []) := by
  have hx := C.1
  have hb := C.2.1
  have hts := C.2.2.2.2.2.1
  have hown := C.2.2.2.2.1
  unfold F_Pr_interrupt
  refine lv_aload_n hx hb dX3_interrupt_0 rfl (lv_at hl 0 rfl) ?_
  refine gt_9_8 C (fun _ h => List.mem_cons_of_mem _ (List.mem_append_left _ (List.mem_append_left _ (List.mem_append_left _ (List.mem_append_left _ (List.mem_append_right _ h)))))) (hts _ (List.mem_of_getElem? (i := 1) rfl)) w (v := (mu 9 8)) rfl dX3_interrupt_1 ?_
  refine lv_if_ne (tgt := 11) hx hb dX3_interrupt_4 (by decide) (fun h4 => ?_) (fun h4 => ?_)
  · rw [if_neg h4]
    exact k_Pr_interrupt_11 C w (lv_sub hl [0] rfl)
  · rw [if_pos h4]
    refine lv_aload_n hx hb dX3_interrupt_7 rfl (lv_at hl 0 rfl) ?_
    refine kcV (k := 9) (ci := 3) (As := []) (rest := []) C w rfl rfl (c_Pr_pushAll l A D cA tb ad mu nu) (cwV 0 hts gX3_interrupt_X3_pushAll rfl rfl rfl (by decide +kernel) ⟨Nat.le_of_ble_eq_true rfl, Nat.le_of_ble_eq_true rfl⟩) rfl rfl hl.1 (Nat.le_of_ble_eq_true rfl) dX3_interrupt_8 (fun H locs w => ?_)
    exact k_Pr_interrupt_11 C w (lv_sub hl [0] rfl)
set_option maxHeartbeats 4000000 in
set_option maxRecDepth 100000 in
theorem c_Pr_interrupt (l : Launch) (A : Nat → Prop) (D : va_G) (cA : Nat → ClassId) (tb : Nat) (ad : Nat → Nat) (mu nu : Mu) : Met l yX3_interrupt wsX3_interrupt ({ frames := 5, cells := 0, slots := 0, locals := 108 }) (va_Pc [.ref (ad 9)] (Pw A D cA tb ad mu nu)) (va_Qv (fun (u : Mu × Mu) => u = (F_Pr_interrupt mu, nu)) (Bw A D cA ad) A) 0 0 A := by
  refine Met.ofW (cc := cX3_interrupt) (maxL := 1) (ret := none) (by decide) rfl ?_
  intro p e s m args below meth c s₁ B hml hv
  obtain ⟨rfl, w0⟩ := hv
  have C : Cx cX3_interrupt 1 none wsX3_interrupt RX3 A D cA tb p s m _ meth c := ⟨B.exec, B.bytes, B.returns, hml, findClass_of_methodNamed B.named, atoms_spec (ws := wsX3_interrupt) B.pre, B.notSynchronized, w0.2.1, w0.2.2.2.1, w0.2.2.2.2⟩
  have hl := lv_entry ([.ref (ad 9)]) (n := 1) (Nat.le_of_ble_eq_true rfl)
  rw [lg_entry_eq]
  exact k_Pr_interrupt C w0.wd hl
def F_Pr_isLegal (x1 : Int32) (mu : Mu) : Int32 := (if (((tab_LEGAL ((x1 >>> (4 &&& 31)) &&& 15).toNatClampNeg) >>> ((x1 &&& 15) &&& 31)) &&& 1) = (0 : Int32) then 0 else 1)
set_option maxHeartbeats 4000000 in
set_option maxRecDepth 100000 in
theorem k_Pr_isLegal (C : Cx cX3_isLegal 2 (some .boolean) wsX3_isLegal RX3 A D cA tb p s m args meth c) {mu nu : Mu} {x1 : Int32} {H : Heap} {locs : List Loc} {ls : Array Slot} (w : Wd A D cA ad s mu nu H locs) (hl : lv_has ls 2 [(0, .ref (ad 9)), (1, .int x1)]) : W p l e { frames := 0, cells := 0, slots := 0, locals := 0 } s m args below meth c H locs 0 0 (QI A D cA ad below args s (F_Pr_isLegal x1 mu) mu nu) (F0 m 0 ls []) := by
  have hx := C.1
  have hb := C.2.1
  have hts := C.2.2.2.2.2.1
  have hown := C.2.2.2.2.1
  unfold F_Pr_isLegal
  refine gs_LEGAL C (hts _ (List.mem_of_getElem? (i := 1) rfl)) w dX3_isLegal_0 ?_
  refine lv_iload_n hx hb dX3_isLegal_3 rfl (lv_at hl 1 rfl) ?_
  refine lv_iconst (v := 4) hx hb dX3_isLegal_4 (by decide) ?_
  refine lv_ishr hx hb dX3_isLegal_5 ?_
  refine lv_bipush (v := 15) hx hb dX3_isLegal_6 (by decide) ?_
  refine lv_iand hx hb dX3_isLegal_8 ?_
  refine ti_LEGAL C w (pk_andIn _ 4 (by decide) (by decide)) dX3_isLegal_9 ?_
  refine lv_iload_n hx hb dX3_isLegal_10 rfl (lv_at hl 1 rfl) ?_
  refine lv_bipush (v := 15) hx hb dX3_isLegal_11 (by decide) ?_
  refine lv_iand hx hb dX3_isLegal_13 ?_
  refine lv_ishr hx hb dX3_isLegal_14 ?_
  refine lv_iconst (v := 1) hx hb dX3_isLegal_15 (by decide) ?_
  refine lv_iand hx hb dX3_isLegal_16 ?_
  refine lv_if_eq (tgt := 24) hx hb dX3_isLegal_17 (by decide) (fun h17 => ?_) (fun h17 => ?_)
  · rw [if_pos h17]
    refine lv_iconst (v := 0) hx hb dX3_isLegal_24 (by decide) ?_
    exact retZ C w dX3_isLegal_25 (Or.inl rfl)
  · rw [if_neg h17]
    refine lv_iconst (v := 1) hx hb dX3_isLegal_20 (by decide) ?_
    refine lv_goto (tgt := 25) hx hb dX3_isLegal_21 (by decide) ?_
    exact retZ C w dX3_isLegal_25 (Or.inr rfl)
set_option maxHeartbeats 4000000 in
set_option maxRecDepth 100000 in
theorem c_Pr_isLegal (l : Launch) (A : Nat → Prop) (D : va_G) (cA : Nat → ClassId) (tb : Nat) (ad : Nat → Nat) (mu nu : Mu) (x1 : Int32) : Met l yX3_isLegal wsX3_isLegal ({ frames := 0, cells := 0, slots := 0, locals := 0 }) (va_Pc [.ref (ad 9), .int x1] (Pw A D cA tb ad mu nu)) (va_Qi (fun (r : Int32) (u : Mu × Mu) => r = F_Pr_isLegal x1 mu ∧ u = (mu, nu)) (Bw A D cA ad) A) 0 0 A := by
  refine Met.ofW (cc := cX3_isLegal) (maxL := 2) (ret := (some .boolean)) (by decide) rfl ?_
  intro p e s m args below meth c s₁ B hml hv
  obtain ⟨rfl, w0⟩ := hv
  have C : Cx cX3_isLegal 2 (some .boolean) wsX3_isLegal RX3 A D cA tb p s m _ meth c := ⟨B.exec, B.bytes, B.returns, hml, findClass_of_methodNamed B.named, atoms_spec (ws := wsX3_isLegal) B.pre, B.notSynchronized, w0.2.1, w0.2.2.2.1, w0.2.2.2.2⟩
  have hl := lv_entry ([.ref (ad 9), .int x1]) (n := 2) (Nat.le_of_ble_eq_true rfl)
  rw [lg_entry_eq]
  exact k_Pr_isLegal C w0.wd hl
def F_Pr_immediateSize (x1 : Int32) (mu : Mu) : Int32 := (if x1 = (12 : Int32) then 2 else (if x1 = (14 : Int32) then 2 else 1))
set_option maxHeartbeats 4000000 in
set_option maxRecDepth 100000 in
theorem k_Pr_immediateSize (C : Cx cX3_immediateSize 2 (some .int) wsX3_immediateSize RX3 A D cA tb p s m args meth c) {mu nu : Mu} {x1 : Int32} {H : Heap} {locs : List Loc} {ls : Array Slot} (w : Wd A D cA ad s mu nu H locs) (hl : lv_has ls 2 [(0, .ref (ad 9)), (1, .int x1)]) : W p l e { frames := 0, cells := 0, slots := 0, locals := 0 } s m args below meth c H locs 0 0 (QI A D cA ad below args s (F_Pr_immediateSize x1 mu) mu nu) (F0 m 0 ls []) := by
  have hx := C.1
  have hb := C.2.1
  have hts := C.2.2.2.2.2.1
  have hown := C.2.2.2.2.1
  unfold F_Pr_immediateSize
  refine lv_iload_n hx hb dX3_immediateSize_0 rfl (lv_at hl 1 rfl) ?_
  refine lv_bipush (v := 12) hx hb dX3_immediateSize_1 (by decide) ?_
  refine lv_icmp_eq (tgt := 12) hx hb dX3_immediateSize_3 (by decide) (fun h3 => ?_) (fun h3 => ?_)
  · rw [if_pos h3]
    refine lv_iconst (v := 2) hx hb dX3_immediateSize_12 (by decide) ?_
    refine lv_goto (tgt := 17) hx hb dX3_immediateSize_13 (by decide) ?_
    exact retI C w dX3_immediateSize_17
  · rw [if_neg h3]
    refine lv_iload_n hx hb dX3_immediateSize_6 rfl (lv_at hl 1 rfl) ?_
    refine lv_bipush (v := 14) hx hb dX3_immediateSize_7 (by decide) ?_
    refine lv_icmp_ne (tgt := 16) hx hb dX3_immediateSize_9 (by decide) (fun h9 => ?_) (fun h9 => ?_)
    · rw [if_neg h9]
      refine lv_iconst (v := 1) hx hb dX3_immediateSize_16 (by decide) ?_
      exact retI C w dX3_immediateSize_17
    · rw [if_pos h9]
      refine lv_iconst (v := 2) hx hb dX3_immediateSize_12 (by decide) ?_
      refine lv_goto (tgt := 17) hx hb dX3_immediateSize_13 (by decide) ?_
      exact retI C w dX3_immediateSize_17
set_option maxHeartbeats 4000000 in
set_option maxRecDepth 100000 in
theorem c_Pr_immediateSize (l : Launch) (A : Nat → Prop) (D : va_G) (cA : Nat → ClassId) (tb : Nat) (ad : Nat → Nat) (mu nu : Mu) (x1 : Int32) : Met l yX3_immediateSize wsX3_immediateSize ({ frames := 0, cells := 0, slots := 0, locals := 0 }) (va_Pc [.ref (ad 9), .int x1] (Pw A D cA tb ad mu nu)) (va_Qi (fun (r : Int32) (u : Mu × Mu) => r = F_Pr_immediateSize x1 mu ∧ u = (mu, nu)) (Bw A D cA ad) A) 0 0 A := by
  refine Met.ofW (cc := cX3_immediateSize) (maxL := 2) (ret := (some .int)) (by decide) rfl ?_
  intro p e s m args below meth c s₁ B hml hv
  obtain ⟨rfl, w0⟩ := hv
  have C : Cx cX3_immediateSize 2 (some .int) wsX3_immediateSize RX3 A D cA tb p s m _ meth c := ⟨B.exec, B.bytes, B.returns, hml, findClass_of_methodNamed B.named, atoms_spec (ws := wsX3_immediateSize) B.pre, B.notSynchronized, w0.2.1, w0.2.2.2.1, w0.2.2.2.2⟩
  have hl := lv_entry ([.ref (ad 9), .int x1]) (n := 2) (Nat.le_of_ble_eq_true rfl)
  rw [lg_entry_eq]
  exact k_Pr_immediateSize C w0.wd hl
def F_Pr_operandAddress_105 (y0 : Int32) (y1 : Int32) (mu : Mu) : Int32 × Mu := (((y0 + y1) &&& 65535), mu)
set_option maxHeartbeats 4000000 in
set_option maxRecDepth 100000 in
theorem k_Pr_operandAddress_105 (C : Cx cX3_operandAddress 3 (some .int) wsX3_operandAddress RX3 A D cA tb p s m args meth c) {mu nu : Mu} {y0 : Int32} {y1 : Int32} {H : Heap} {locs : List Loc} {ls : Array Slot} (w : Wd A D cA ad s mu nu H locs) (hl : lv_has ls 3 []) : W p l e { frames := 4, cells := 0, slots := 0, locals := 87 } s m args below meth c H locs 0 0 (QI A D cA ad below args s (F_Pr_operandAddress_105 y0 y1 mu).1 (F_Pr_operandAddress_105 y0 y1 mu).2 nu) (F0 m 105 ls [.int y1, .int y0]) := by
  have hx := C.1
  have hb := C.2.1
  have hts := C.2.2.2.2.2.1
  have hown := C.2.2.2.2.1
  unfold F_Pr_operandAddress_105
  refine lv_iadd hx hb dX3_operandAddress_105 ?_
  refine lv_ldc (v := 65535) hx hb hown (hts _ (List.mem_of_getElem? (i := 2) rfl)) dX3_operandAddress_106 ?_
  refine lv_iand hx hb dX3_operandAddress_108 ?_
  exact retI C w dX3_operandAddress_109
def F_Pr_operandAddress (x1 : Int32) (mu : Mu) : Int32 × Mu := (if ((x1 >>> (4 &&& 31)) &&& 3) = 0 then ((mu 9 7), (ps mu 9 7 (((mu 9 7) + (F_Pr_immediateSize (x1 &&& 15) mu)) &&& 65535))) else (if ((x1 >>> (4 &&& 31)) &&& 3) = 1 then ((F_Bu_read (mu 9 7) (ps mu 9 7 (((mu 9 7) + 1) &&& 65535))).1, (F_Bu_read (mu 9 7) (ps mu 9 7 (((mu 9 7) + 1) &&& 65535))).2) else (if ((x1 >>> (4 &&& 31)) &&& 3) = 2 then F_Pr_operandAddress_105 (mu 9 5) ((F_Bu_read (mu 9 7) (ps mu 9 7 (((mu 9 7) + 1) &&& 65535))).1) ((F_Bu_read (mu 9 7) (ps mu 9 7 (((mu 9 7) + 1) &&& 65535))).2) else ((F_Bu_readWord (mu 9 7) (ps mu 9 7 (((mu 9 7) + 2) &&& 65535))).1, (F_Bu_readWord (mu 9 7) (ps mu 9 7 (((mu 9 7) + 2) &&& 65535))).2))))
set_option maxHeartbeats 4000000 in
set_option maxRecDepth 100000 in
theorem k_Pr_operandAddress (C : Cx cX3_operandAddress 3 (some .int) wsX3_operandAddress RX3 A D cA tb p s m args meth c) {mu nu : Mu} {x1 : Int32} {H : Heap} {locs : List Loc} {ls : Array Slot} (w : Wd A D cA ad s mu nu H locs) (hl : lv_has ls 3 [(0, .ref (ad 9)), (1, .int x1)]) : W p l e { frames := 4, cells := 0, slots := 0, locals := 87 } s m args below meth c H locs 0 0 (QI A D cA ad below args s (F_Pr_operandAddress x1 mu).1 (F_Pr_operandAddress x1 mu).2 nu) (F0 m 0 ls []) := by
  have hx := C.1
  have hb := C.2.1
  have hts := C.2.2.2.2.2.1
  have hown := C.2.2.2.2.1
  unfold F_Pr_operandAddress
  refine lv_aload_n hx hb dX3_operandAddress_0 rfl (lv_at hl 0 rfl) ?_
  refine gt_9_7 C (fun _ h => List.mem_cons_of_mem _ (List.mem_append_left _ (List.mem_append_left _ (List.mem_append_left _ (List.mem_append_right _ h))))) (hts _ (List.mem_of_getElem? (i := 1) rfl)) w (v := (mu 9 7)) rfl dX3_operandAddress_1 ?_
  refine lv_istore_n (lv' := [(2, .int ((mu 9 7))), (0, .ref (ad 9)), (1, .int x1)]) hx hb dX3_operandAddress_4 rfl hl (by decide) rfl (fun ls hl => ?_)
  refine lv_iload_n hx hb dX3_operandAddress_5 rfl (lv_at hl 2 rfl) ?_
  refine lv_iconst (v := 4) hx hb dX3_operandAddress_6 (by decide) ?_
  refine lv_ishr hx hb dX3_operandAddress_7 ?_
  refine lv_iconst (v := 3) hx hb dX3_operandAddress_8 (by decide) ?_
  refine lv_iand hx hb dX3_operandAddress_9 ?_
  by_cases h10_0 : ((x1 >>> (4 &&& 31)) &&& 3) = (0 : Int32)
  · rw [if_pos h10_0]
    refine lv_tableIn (off := 26) (tgt := 36) hx hb dX3_operandAddress_10 (by rw [h10_0]; decide) (by rw [h10_0]; decide) (by rw [h10_0]; decide) (by decide) ?_
    refine lv_aload_n hx hb dX3_operandAddress_36 rfl (lv_at hl 1 rfl) ?_
    refine lv_aload_n hx hb dX3_operandAddress_37 rfl (lv_at hl 1 rfl) ?_
    refine gt_9_7 C (fun _ h => List.mem_cons_of_mem _ (List.mem_append_left _ (List.mem_append_left _ (List.mem_append_left _ (List.mem_append_right _ h))))) (hts _ (List.mem_of_getElem? (i := 1) rfl)) w (v := (mu 9 7)) rfl dX3_operandAddress_38 ?_
    refine lv_aload_n hx hb dX3_operandAddress_41 rfl (lv_at hl 1 rfl) ?_
    refine lv_iload_n hx hb dX3_operandAddress_42 rfl (lv_at hl 2 rfl) ?_
    refine lv_bipush (v := 15) hx hb dX3_operandAddress_43 (by decide) ?_
    refine lv_iand hx hb dX3_operandAddress_45 ?_
    refine kcI (k := 9) (ci := 3) (As := [.int ((x1 &&& 15))]) (rest := [.int ((mu 9 7)), .ref (ad 9)]) C w rfl rfl (c_Pr_immediateSize l A D cA tb ad mu nu (x1 &&& 15)) (cwV 1 hts gX3_operandAddress_X3_immediateSize rfl rfl rfl (by decide +kernel) ⟨Nat.le_of_ble_eq_true rfl, Nat.le_of_ble_eq_true rfl⟩) rfl rfl hl.1 (Nat.le_of_ble_eq_true rfl) dX3_operandAddress_46 (fun H locs w => ?_)
    refine lv_iadd hx hb dX3_operandAddress_49 ?_
    refine lv_ldc (v := 65535) hx hb hown (hts _ (List.mem_of_getElem? (i := 2) rfl)) dX3_operandAddress_50 ?_
    refine lv_iand hx hb dX3_operandAddress_52 ?_
    refine pt_9_7 C (fun _ h => List.mem_cons_of_mem _ (List.mem_append_left _ (List.mem_append_left _ (List.mem_append_left _ (List.mem_append_right _ h))))) (hts _ (List.mem_of_getElem? (i := 1) rfl)) w dX3_operandAddress_53 (fun H locs w => ?_)
    refine lv_iload_n hx hb dX3_operandAddress_56 rfl (lv_at hl 0 rfl) ?_
    exact retI C w dX3_operandAddress_57
  · rw [if_neg h10_0]
    by_cases h10_1 : ((x1 >>> (4 &&& 31)) &&& 3) = (1 : Int32)
    · rw [if_pos h10_1]
      refine lv_tableIn (off := 48) (tgt := 58) hx hb dX3_operandAddress_10 (by rw [h10_1]; decide) (by rw [h10_1]; decide) (by rw [h10_1]; decide) (by decide) ?_
      refine lv_aload_n hx hb dX3_operandAddress_58 rfl (lv_at hl 1 rfl) ?_
      refine lv_aload_n hx hb dX3_operandAddress_59 rfl (lv_at hl 1 rfl) ?_
      refine gt_9_7 C (fun _ h => List.mem_cons_of_mem _ (List.mem_append_left _ (List.mem_append_left _ (List.mem_append_left _ (List.mem_append_right _ h))))) (hts _ (List.mem_of_getElem? (i := 1) rfl)) w (v := (mu 9 7)) rfl dX3_operandAddress_60 ?_
      refine lv_iconst (v := 1) hx hb dX3_operandAddress_63 (by decide) ?_
      refine lv_iadd hx hb dX3_operandAddress_64 ?_
      refine lv_ldc (v := 65535) hx hb hown (hts _ (List.mem_of_getElem? (i := 2) rfl)) dX3_operandAddress_65 ?_
      refine lv_iand hx hb dX3_operandAddress_67 ?_
      refine pt_9_7 C (fun _ h => List.mem_cons_of_mem _ (List.mem_append_left _ (List.mem_append_left _ (List.mem_append_left _ (List.mem_append_right _ h))))) (hts _ (List.mem_of_getElem? (i := 1) rfl)) w dX3_operandAddress_68 (fun H locs w => ?_)
      refine lv_aload_n hx hb dX3_operandAddress_71 rfl (lv_at hl 1 rfl) ?_
      refine gt_9_0 C (fun _ h => List.mem_cons_of_mem _ (List.mem_append_left _ (List.mem_append_left _ (List.mem_append_left _ (List.mem_append_right _ h))))) (hts _ (List.mem_of_getElem? (i := 3) rfl)) w dX3_operandAddress_72 ?_
      refine lv_iload_n hx hb dX3_operandAddress_75 rfl (lv_at hl 0 rfl) ?_
      refine kcI (k := 6) (ci := 1) (As := [.int ((mu 9 7))]) (rest := []) C w rfl rfl (c_Bu_read l A D cA tb ad (ps mu 9 7 (((mu 9 7) + 1) &&& 65535)) nu (mu 9 7)) (cwV 1 hts gX3_operandAddress_X1_read rfl rfl rfl (by decide +kernel) ⟨Nat.le_of_ble_eq_true rfl, Nat.le_of_ble_eq_true rfl⟩) rfl rfl hl.1 (Nat.le_of_ble_eq_true rfl) dX3_operandAddress_76 (fun H locs w => ?_)
      exact retI C w dX3_operandAddress_79
    · rw [if_neg h10_1]
      by_cases h10_2 : ((x1 >>> (4 &&& 31)) &&& 3) = (2 : Int32)
      · rw [if_pos h10_2]
        refine lv_tableIn (off := 70) (tgt := 80) hx hb dX3_operandAddress_10 (by rw [h10_2]; decide) (by rw [h10_2]; decide) (by rw [h10_2]; decide) (by decide) ?_
        refine lv_aload_n hx hb dX3_operandAddress_80 rfl (lv_at hl 1 rfl) ?_
        refine lv_aload_n hx hb dX3_operandAddress_81 rfl (lv_at hl 1 rfl) ?_
        refine gt_9_7 C (fun _ h => List.mem_cons_of_mem _ (List.mem_append_left _ (List.mem_append_left _ (List.mem_append_left _ (List.mem_append_right _ h))))) (hts _ (List.mem_of_getElem? (i := 1) rfl)) w (v := (mu 9 7)) rfl dX3_operandAddress_82 ?_
        refine lv_iconst (v := 1) hx hb dX3_operandAddress_85 (by decide) ?_
        refine lv_iadd hx hb dX3_operandAddress_86 ?_
        refine lv_ldc (v := 65535) hx hb hown (hts _ (List.mem_of_getElem? (i := 2) rfl)) dX3_operandAddress_87 ?_
        refine lv_iand hx hb dX3_operandAddress_89 ?_
        refine pt_9_7 C (fun _ h => List.mem_cons_of_mem _ (List.mem_append_left _ (List.mem_append_left _ (List.mem_append_left _ (List.mem_append_right _ h))))) (hts _ (List.mem_of_getElem? (i := 1) rfl)) w dX3_operandAddress_90 (fun H locs w => ?_)
        refine lv_aload_n hx hb dX3_operandAddress_93 rfl (lv_at hl 1 rfl) ?_
        refine gt_9_5 C (fun _ h => List.mem_cons_of_mem _ (List.mem_append_left _ (List.mem_append_left _ (List.mem_append_left _ (List.mem_append_right _ h))))) (hts _ (List.mem_of_getElem? (i := 4) rfl)) w (v := (mu 9 5)) rfl dX3_operandAddress_94 ?_
        refine lv_aload_n hx hb dX3_operandAddress_97 rfl (lv_at hl 1 rfl) ?_
        refine gt_9_0 C (fun _ h => List.mem_cons_of_mem _ (List.mem_append_left _ (List.mem_append_left _ (List.mem_append_left _ (List.mem_append_right _ h))))) (hts _ (List.mem_of_getElem? (i := 3) rfl)) w dX3_operandAddress_98 ?_
        refine lv_iload_n hx hb dX3_operandAddress_101 rfl (lv_at hl 0 rfl) ?_
        refine kcI (k := 6) (ci := 1) (As := [.int ((mu 9 7))]) (rest := [.int ((mu 9 5))]) C w rfl rfl (c_Bu_read l A D cA tb ad (ps mu 9 7 (((mu 9 7) + 1) &&& 65535)) nu (mu 9 7)) (cwV 1 hts gX3_operandAddress_X1_read rfl rfl rfl (by decide +kernel) ⟨Nat.le_of_ble_eq_true rfl, Nat.le_of_ble_eq_true rfl⟩) rfl rfl hl.1 (Nat.le_of_ble_eq_true rfl) dX3_operandAddress_102 (fun H locs w => ?_)
        exact k_Pr_operandAddress_105 C w (lv_sub hl [] rfl)
      · rw [if_neg h10_2]
        refine lv_tableOut (tgt := 110) hx hb dX3_operandAddress_10 (by have := lv_neT h10_0 (a := 0) rfl; have := lv_neT h10_1 (a := 1) rfl; have := lv_neT h10_2 (a := 2) rfl; omega) (by decide) ?_
        refine lv_aload_n hx hb dX3_operandAddress_110 rfl (lv_at hl 1 rfl) ?_
        refine lv_aload_n hx hb dX3_operandAddress_111 rfl (lv_at hl 1 rfl) ?_
        refine gt_9_7 C (fun _ h => List.mem_cons_of_mem _ (List.mem_append_left _ (List.mem_append_left _ (List.mem_append_left _ (List.mem_append_right _ h))))) (hts _ (List.mem_of_getElem? (i := 1) rfl)) w (v := (mu 9 7)) rfl dX3_operandAddress_112 ?_
        refine lv_iconst (v := 2) hx hb dX3_operandAddress_115 (by decide) ?_
        refine lv_iadd hx hb dX3_operandAddress_116 ?_
        refine lv_ldc (v := 65535) hx hb hown (hts _ (List.mem_of_getElem? (i := 2) rfl)) dX3_operandAddress_117 ?_
        refine lv_iand hx hb dX3_operandAddress_119 ?_
        refine pt_9_7 C (fun _ h => List.mem_cons_of_mem _ (List.mem_append_left _ (List.mem_append_left _ (List.mem_append_left _ (List.mem_append_right _ h))))) (hts _ (List.mem_of_getElem? (i := 1) rfl)) w dX3_operandAddress_120 (fun H locs w => ?_)
        refine lv_aload_n hx hb dX3_operandAddress_123 rfl (lv_at hl 1 rfl) ?_
        refine gt_9_0 C (fun _ h => List.mem_cons_of_mem _ (List.mem_append_left _ (List.mem_append_left _ (List.mem_append_left _ (List.mem_append_right _ h))))) (hts _ (List.mem_of_getElem? (i := 3) rfl)) w dX3_operandAddress_124 ?_
        refine lv_iload_n hx hb dX3_operandAddress_127 rfl (lv_at hl 0 rfl) ?_
        refine kcI (k := 6) (ci := 1) (As := [.int ((mu 9 7))]) (rest := []) C w rfl rfl (c_Bu_readWord l A D cA tb ad (ps mu 9 7 (((mu 9 7) + 2) &&& 65535)) nu (mu 9 7)) (cwV 1 hts gX3_operandAddress_X1_readWord rfl rfl rfl (by decide +kernel) ⟨Nat.le_of_ble_eq_true rfl, Nat.le_of_ble_eq_true rfl⟩) rfl rfl hl.1 (Nat.le_of_ble_eq_true rfl) dX3_operandAddress_128 (fun H locs w => ?_)
        exact retI C w dX3_operandAddress_131
set_option maxHeartbeats 4000000 in
set_option maxRecDepth 100000 in
theorem c_Pr_operandAddress (l : Launch) (A : Nat → Prop) (D : va_G) (cA : Nat → ClassId) (tb : Nat) (ad : Nat → Nat) (mu nu : Mu) (x1 : Int32) : Met l yX3_operandAddress wsX3_operandAddress ({ frames := 4, cells := 0, slots := 0, locals := 87 }) (va_Pc [.ref (ad 9), .int x1] (Pw A D cA tb ad mu nu)) (va_Qi (fun (r : Int32) (u : Mu × Mu) => r = (F_Pr_operandAddress x1 mu).1 ∧ u = ((F_Pr_operandAddress x1 mu).2, nu)) (Bw A D cA ad) A) 0 0 A := by
  refine Met.ofW (cc := cX3_operandAddress) (maxL := 3) (ret := (some .int)) (by decide) rfl ?_
  intro p e s m args below meth c s₁ B hml hv
  obtain ⟨rfl, w0⟩ := hv
  have C : Cx cX3_operandAddress 3 (some .int) wsX3_operandAddress RX3 A D cA tb p s m _ meth c := ⟨B.exec, B.bytes, B.returns, hml, findClass_of_methodNamed B.named, atoms_spec (ws := wsX3_operandAddress) B.pre, B.notSynchronized, w0.2.1, w0.2.2.2.1, w0.2.2.2.2⟩
  have hl := lv_entry ([.ref (ad 9), .int x1]) (n := 3) (Nat.le_of_ble_eq_true rfl)
  rw [lg_entry_eq]
  exact k_Pr_operandAddress C w0.wd hl
def F_Pr_combine_38 (y1 : Int32) (mu : Mu) : Mu := (ps mu 9 4 y1)
set_option maxHeartbeats 4000000 in
set_option maxRecDepth 100000 in
theorem k_Pr_combine_38 (C : Cx cX3_combine 4 none wsX3_combine RX3 A D cA tb p s m args meth c) {mu nu : Mu} {y1 : Int32} {H : Heap} {locs : List Loc} {ls : Array Slot} (w : Wd A D cA ad s mu nu H locs) (hl : lv_has ls 4 []) : W p l e { frames := 4, cells := 0, slots := 0, locals := 91 } s m args below meth c H locs 0 0 (QV A D cA ad below args s (F_Pr_combine_38 y1 mu) nu) (F0 m 38 ls [.int y1, .ref (ad 9)]) := by
  have hx := C.1
  have hb := C.2.1
  have hts := C.2.2.2.2.2.1
  have hown := C.2.2.2.2.1
  unfold F_Pr_combine_38
  refine pt_9_4 C (fun _ h => List.mem_cons_of_mem _ (List.mem_append_left _ (List.mem_append_left _ (List.mem_append_right _ h)))) (hts _ (List.mem_of_getElem? (i := 3) rfl)) w dX3_combine_38 (fun H locs w => ?_)
  exact retV C w dX3_combine_41
def F_Pr_combine_18 (y1 : Int32) (mu : Mu) : Mu := (ps mu 9 3 y1)
set_option maxHeartbeats 4000000 in
set_option maxRecDepth 100000 in
theorem k_Pr_combine_18 (C : Cx cX3_combine 4 none wsX3_combine RX3 A D cA tb p s m args meth c) {mu nu : Mu} {y1 : Int32} {H : Heap} {locs : List Loc} {ls : Array Slot} (w : Wd A D cA ad s mu nu H locs) (hl : lv_has ls 4 []) : W p l e { frames := 4, cells := 0, slots := 0, locals := 91 } s m args below meth c H locs 0 0 (QV A D cA ad below args s (F_Pr_combine_18 y1 mu) nu) (F0 m 18 ls [.int y1, .ref (ad 9)]) := by
  have hx := C.1
  have hb := C.2.1
  have hts := C.2.2.2.2.2.1
  have hown := C.2.2.2.2.1
  unfold F_Pr_combine_18
  refine pt_9_3 C (fun _ h => List.mem_cons_of_mem _ (List.mem_append_left _ (List.mem_append_left _ (List.mem_append_right _ h)))) (hts _ (List.mem_of_getElem? (i := 2) rfl)) w dX3_combine_18 (fun H locs w => ?_)
  refine lv_goto (tgt := 41) hx hb dX3_combine_21 (by decide) ?_
  exact retV C w dX3_combine_41
def F_Pr_combine (x1 : Int32) (x2 : Int32) (x3 : Int32) (mu : Mu) : Mu := (if x2 = (0 : Int32) then F_Pr_combine_38 ((F_Ar_combined x1 (mu 9 4) x3 mu).1) ((F_Ar_combined x1 (mu 9 4) x3 mu).2) else F_Pr_combine_18 ((F_Ar_combined x1 (mu 9 3) x3 mu).1) ((F_Ar_combined x1 (mu 9 3) x3 mu).2))
set_option maxHeartbeats 4000000 in
set_option maxRecDepth 100000 in
theorem k_Pr_combine (C : Cx cX3_combine 4 none wsX3_combine RX3 A D cA tb p s m args meth c) {mu nu : Mu} {x1 : Int32} {x2 : Int32} {x3 : Int32} {H : Heap} {locs : List Loc} {ls : Array Slot} (w : Wd A D cA ad s mu nu H locs) (hl : lv_has ls 4 [(0, .ref (ad 9)), (1, .int x1), (2, .int x2), (3, .int x3)]) : W p l e { frames := 4, cells := 0, slots := 0, locals := 91 } s m args below meth c H locs 0 0 (QV A D cA ad below args s (F_Pr_combine x1 x2 x3 mu) nu) (F0 m 0 ls []) := by
  have hx := C.1
  have hb := C.2.1
  have hts := C.2.2.2.2.2.1
  have hown := C.2.2.2.2.1
  unfold F_Pr_combine
  refine lv_iload_n hx hb dX3_combine_0 rfl (lv_at hl 2 rfl) ?_
  refine lv_if_eq (tgt := 24) hx hb dX3_combine_1 (by decide) (fun h1 => ?_) (fun h1 => ?_)
  · rw [if_pos h1]
    refine lv_aload_n hx hb dX3_combine_24 rfl (lv_at hl 0 rfl) ?_
    refine lv_aload_n hx hb dX3_combine_25 rfl (lv_at hl 0 rfl) ?_
    refine gt_9_1 C (fun _ h => List.mem_cons_of_mem _ (List.mem_append_left _ (List.mem_append_left _ (List.mem_append_right _ h)))) (hts _ (List.mem_of_getElem? (i := 1) rfl)) w dX3_combine_26 ?_
    refine lv_iload_n hx hb dX3_combine_29 rfl (lv_at hl 1 rfl) ?_
    refine lv_aload_n hx hb dX3_combine_30 rfl (lv_at hl 0 rfl) ?_
    refine gt_9_4 C (fun _ h => List.mem_cons_of_mem _ (List.mem_append_left _ (List.mem_append_left _ (List.mem_append_right _ h)))) (hts _ (List.mem_of_getElem? (i := 3) rfl)) w (v := (mu 9 4)) rfl dX3_combine_31 ?_
    refine lv_iload_n hx hb dX3_combine_34 rfl (lv_at hl 3 rfl) ?_
    refine kcI (k := 11) (ci := 0) (As := [.int x1, .int ((mu 9 4)), .int x3]) (rest := [.ref (ad 9)]) C w rfl rfl (c_Ar_combined l A D cA tb ad mu nu x1 (mu 9 4) x3) (cwV 3 hts gX3_combine_X0_combined rfl rfl rfl (by decide +kernel) ⟨Nat.le_of_ble_eq_true rfl, Nat.le_of_ble_eq_true rfl⟩) rfl rfl hl.1 (Nat.le_of_ble_eq_true rfl) dX3_combine_35 (fun H locs w => ?_)
    exact k_Pr_combine_38 C w (lv_sub hl [] rfl)
  · rw [if_neg h1]
    refine lv_aload_n hx hb dX3_combine_4 rfl (lv_at hl 0 rfl) ?_
    refine lv_aload_n hx hb dX3_combine_5 rfl (lv_at hl 0 rfl) ?_
    refine gt_9_1 C (fun _ h => List.mem_cons_of_mem _ (List.mem_append_left _ (List.mem_append_left _ (List.mem_append_right _ h)))) (hts _ (List.mem_of_getElem? (i := 1) rfl)) w dX3_combine_6 ?_
    refine lv_iload_n hx hb dX3_combine_9 rfl (lv_at hl 1 rfl) ?_
    refine lv_aload_n hx hb dX3_combine_10 rfl (lv_at hl 0 rfl) ?_
    refine gt_9_3 C (fun _ h => List.mem_cons_of_mem _ (List.mem_append_left _ (List.mem_append_left _ (List.mem_append_right _ h)))) (hts _ (List.mem_of_getElem? (i := 2) rfl)) w (v := (mu 9 3)) rfl dX3_combine_11 ?_
    refine lv_iload_n hx hb dX3_combine_14 rfl (lv_at hl 3 rfl) ?_
    refine kcI (k := 11) (ci := 0) (As := [.int x1, .int ((mu 9 3)), .int x3]) (rest := [.ref (ad 9)]) C w rfl rfl (c_Ar_combined l A D cA tb ad mu nu x1 (mu 9 3) x3) (cwV 3 hts gX3_combine_X0_combined rfl rfl rfl (by decide +kernel) ⟨Nat.le_of_ble_eq_true rfl, Nat.le_of_ble_eq_true rfl⟩) rfl rfl hl.1 (Nat.le_of_ble_eq_true rfl) dX3_combine_15 (fun H locs w => ?_)
    exact k_Pr_combine_18 C w (lv_sub hl [] rfl)
set_option maxHeartbeats 4000000 in
set_option maxRecDepth 100000 in
theorem c_Pr_combine (l : Launch) (A : Nat → Prop) (D : va_G) (cA : Nat → ClassId) (tb : Nat) (ad : Nat → Nat) (mu nu : Mu) (x1 : Int32) (x2 : Int32) (x3 : Int32) : Met l yX3_combine wsX3_combine ({ frames := 4, cells := 0, slots := 0, locals := 91 }) (va_Pc [.ref (ad 9), .int x1, .int x2, .int x3] (Pw A D cA tb ad mu nu)) (va_Qv (fun (u : Mu × Mu) => u = (F_Pr_combine x1 x2 x3 mu, nu)) (Bw A D cA ad) A) 0 0 A := by
  refine Met.ofW (cc := cX3_combine) (maxL := 4) (ret := none) (by decide) rfl ?_
  intro p e s m args below meth c s₁ B hml hv
  obtain ⟨rfl, w0⟩ := hv
  have C : Cx cX3_combine 4 none wsX3_combine RX3 A D cA tb p s m _ meth c := ⟨B.exec, B.bytes, B.returns, hml, findClass_of_methodNamed B.named, atoms_spec (ws := wsX3_combine) B.pre, B.notSynchronized, w0.2.1, w0.2.2.2.1, w0.2.2.2.2⟩
  have hl := lv_entry ([.ref (ad 9), .int x1, .int x2, .int x3]) (n := 4) (Nat.le_of_ble_eq_true rfl)
  rw [lg_entry_eq]
  exact k_Pr_combine C w0.wd hl
def F_Pr_loadWord_15 (x1 : Int32) (y0 : Int32) (mu : Mu) : Mu := (if x1 = (0 : Int32) then (ps mu 9 5 y0) else (ps mu 9 6 y0))
set_option maxHeartbeats 4000000 in
set_option maxRecDepth 100000 in
theorem k_Pr_loadWord_15 (C : Cx cX3_loadWord 4 none wsX3_loadWord RX3 A D cA tb p s m args meth c) {mu nu : Mu} {x1 : Int32} {y0 : Int32} {H : Heap} {locs : List Loc} {ls : Array Slot} (w : Wd A D cA ad s mu nu H locs) (hl : lv_has ls 4 [(0, .ref (ad 9)), (1, .int x1)]) : W p l e { frames := 4, cells := 0, slots := 0, locals := 87 } s m args below meth c H locs 0 0 (QV A D cA ad below args s (F_Pr_loadWord_15 x1 y0 mu) nu) (F0 m 15 ls [.int y0]) := by
  have hx := C.1
  have hb := C.2.1
  have hts := C.2.2.2.2.2.1
  have hown := C.2.2.2.2.1
  unfold F_Pr_loadWord_15
  refine lv_istore_n (lv' := [(3, .int y0), (0, .ref (ad 9)), (1, .int x1)]) hx hb dX3_loadWord_15 rfl hl (by decide) rfl (fun ls hl => ?_)
  refine lv_iload_n hx hb dX3_loadWord_16 rfl (lv_at hl 2 rfl) ?_
  refine lv_if_eq (tgt := 28) hx hb dX3_loadWord_17 (by decide) (fun h17 => ?_) (fun h17 => ?_)
  · rw [if_pos h17]
    refine lv_aload_n hx hb dX3_loadWord_28 rfl (lv_at hl 1 rfl) ?_
    refine lv_iload_n hx hb dX3_loadWord_29 rfl (lv_at hl 0 rfl) ?_
    refine pt_9_5 C (fun _ h => List.mem_cons_of_mem _ (List.mem_append_left _ (List.mem_append_left _ (List.mem_append_left _ (List.mem_append_left _ (List.mem_append_left _ (List.mem_append_right _ h))))))) (hts _ (List.mem_of_getElem? (i := 4) rfl)) w dX3_loadWord_30 (fun H locs w => ?_)
    exact retV C w dX3_loadWord_33
  · rw [if_neg h17]
    refine lv_aload_n hx hb dX3_loadWord_20 rfl (lv_at hl 1 rfl) ?_
    refine lv_iload_n hx hb dX3_loadWord_21 rfl (lv_at hl 0 rfl) ?_
    refine pt_9_6 C (fun _ h => List.mem_cons_of_mem _ (List.mem_append_left _ (List.mem_append_left _ (List.mem_append_left _ (List.mem_append_left _ (List.mem_append_left _ (List.mem_append_right _ h))))))) (hts _ (List.mem_of_getElem? (i := 3) rfl)) w dX3_loadWord_22 (fun H locs w => ?_)
    refine lv_goto (tgt := 33) hx hb dX3_loadWord_25 (by decide) ?_
    exact retV C w dX3_loadWord_33
def F_Pr_loadWord_12 (x1 : Int32) (y1 : Int32) (mu : Mu) : Mu := F_Pr_loadWord_15 x1 ((F_Ar_toldWord y1 mu).1) ((F_Ar_toldWord y1 mu).2)
set_option maxHeartbeats 4000000 in
set_option maxRecDepth 100000 in
theorem k_Pr_loadWord_12 (C : Cx cX3_loadWord 4 none wsX3_loadWord RX3 A D cA tb p s m args meth c) {mu nu : Mu} {x1 : Int32} {y1 : Int32} {H : Heap} {locs : List Loc} {ls : Array Slot} (w : Wd A D cA ad s mu nu H locs) (hl : lv_has ls 4 [(0, .ref (ad 9)), (1, .int x1)]) : W p l e { frames := 4, cells := 0, slots := 0, locals := 87 } s m args below meth c H locs 0 0 (QV A D cA ad below args s (F_Pr_loadWord_12 x1 y1 mu) nu) (F0 m 12 ls [.int y1, .ref (ad 11)]) := by
  have hx := C.1
  have hb := C.2.1
  have hts := C.2.2.2.2.2.1
  have hown := C.2.2.2.2.1
  unfold F_Pr_loadWord_12
  refine kcI (k := 11) (ci := 0) (As := [.int y1]) (rest := []) C w rfl rfl (c_Ar_toldWord l A D cA tb ad mu nu y1) (cwV 1 hts gX3_loadWord_X0_toldWord rfl rfl rfl (by decide +kernel) ⟨Nat.le_of_ble_eq_true rfl, Nat.le_of_ble_eq_true rfl⟩) rfl rfl hl.1 (Nat.le_of_ble_eq_true rfl) dX3_loadWord_12 (fun H locs w => ?_)
  exact k_Pr_loadWord_15 C w (lv_sub hl [0, 1] rfl)
def F_Pr_loadWord (x1 : Int32) (x2 : Int32) (mu : Mu) : Mu := F_Pr_loadWord_12 x1 ((F_Bu_readWord x2 mu).1) ((F_Bu_readWord x2 mu).2)
set_option maxHeartbeats 4000000 in
set_option maxRecDepth 100000 in
theorem k_Pr_loadWord (C : Cx cX3_loadWord 4 none wsX3_loadWord RX3 A D cA tb p s m args meth c) {mu nu : Mu} {x1 : Int32} {x2 : Int32} {H : Heap} {locs : List Loc} {ls : Array Slot} (w : Wd A D cA ad s mu nu H locs) (hl : lv_has ls 4 [(0, .ref (ad 9)), (1, .int x1), (2, .int x2)]) : W p l e { frames := 4, cells := 0, slots := 0, locals := 87 } s m args below meth c H locs 0 0 (QV A D cA ad below args s (F_Pr_loadWord x1 x2 mu) nu) (F0 m 0 ls []) := by
  have hx := C.1
  have hb := C.2.1
  have hts := C.2.2.2.2.2.1
  have hown := C.2.2.2.2.1
  unfold F_Pr_loadWord
  refine lv_aload_n hx hb dX3_loadWord_0 rfl (lv_at hl 0 rfl) ?_
  refine gt_9_1 C (fun _ h => List.mem_cons_of_mem _ (List.mem_append_left _ (List.mem_append_left _ (List.mem_append_left _ (List.mem_append_left _ (List.mem_append_left _ (List.mem_append_right _ h))))))) (hts _ (List.mem_of_getElem? (i := 1) rfl)) w dX3_loadWord_1 ?_
  refine lv_aload_n hx hb dX3_loadWord_4 rfl (lv_at hl 0 rfl) ?_
  refine gt_9_0 C (fun _ h => List.mem_cons_of_mem _ (List.mem_append_left _ (List.mem_append_left _ (List.mem_append_left _ (List.mem_append_left _ (List.mem_append_left _ (List.mem_append_right _ h))))))) (hts _ (List.mem_of_getElem? (i := 2) rfl)) w dX3_loadWord_5 ?_
  refine lv_iload_n hx hb dX3_loadWord_8 rfl (lv_at hl 2 rfl) ?_
  refine kcI (k := 6) (ci := 1) (As := [.int x2]) (rest := [.ref (ad 11)]) C w rfl rfl (c_Bu_readWord l A D cA tb ad mu nu x2) (cwV 1 hts gX3_loadWord_X1_readWord rfl rfl rfl (by decide +kernel) ⟨Nat.le_of_ble_eq_true rfl, Nat.le_of_ble_eq_true rfl⟩) rfl rfl hl.1 (Nat.le_of_ble_eq_true rfl) dX3_loadWord_9 (fun H locs w => ?_)
  exact k_Pr_loadWord_12 C w (lv_sub hl [0, 1] rfl)
set_option maxHeartbeats 4000000 in
set_option maxRecDepth 100000 in
theorem c_Pr_loadWord (l : Launch) (A : Nat → Prop) (D : va_G) (cA : Nat → ClassId) (tb : Nat) (ad : Nat → Nat) (mu nu : Mu) (x1 : Int32) (x2 : Int32) : Met l yX3_loadWord wsX3_loadWord ({ frames := 4, cells := 0, slots := 0, locals := 87 }) (va_Pc [.ref (ad 9), .int x1, .int x2] (Pw A D cA tb ad mu nu)) (va_Qv (fun (u : Mu × Mu) => u = (F_Pr_loadWord x1 x2 mu, nu)) (Bw A D cA ad) A) 0 0 A := by
  refine Met.ofW (cc := cX3_loadWord) (maxL := 4) (ret := none) (by decide) rfl ?_
  intro p e s m args below meth c s₁ B hml hv
  obtain ⟨rfl, w0⟩ := hv
  have C : Cx cX3_loadWord 4 none wsX3_loadWord RX3 A D cA tb p s m _ meth c := ⟨B.exec, B.bytes, B.returns, hml, findClass_of_methodNamed B.named, atoms_spec (ws := wsX3_loadWord) B.pre, B.notSynchronized, w0.2.1, w0.2.2.2.1, w0.2.2.2.2⟩
  have hl := lv_entry ([.ref (ad 9), .int x1, .int x2]) (n := 4) (Nat.le_of_ble_eq_true rfl)
  rw [lg_entry_eq]
  exact k_Pr_loadWord C w0.wd hl
def F_Pr_signed (x1 : Int32) (mu : Mu) : Int32 := (if (128 : Int32) ≤ x1 then (x1 - 256) else x1)
set_option maxHeartbeats 4000000 in
set_option maxRecDepth 100000 in
theorem k_Pr_signed (C : Cx cX3_signed 2 (some .int) wsX3_signed RX3 A D cA tb p s m args meth c) {mu nu : Mu} {x1 : Int32} {H : Heap} {locs : List Loc} {ls : Array Slot} (w : Wd A D cA ad s mu nu H locs) (hl : lv_has ls 2 [(0, .ref (ad 9)), (1, .int x1)]) : W p l e { frames := 0, cells := 0, slots := 0, locals := 0 } s m args below meth c H locs 0 0 (QI A D cA ad below args s (F_Pr_signed x1 mu) mu nu) (F0 m 0 ls []) := by
  have hx := C.1
  have hb := C.2.1
  have hts := C.2.2.2.2.2.1
  have hown := C.2.2.2.2.1
  unfold F_Pr_signed
  refine lv_iload_n hx hb dX3_signed_0 rfl (lv_at hl 1 rfl) ?_
  refine lv_sipush (v := 128) hx hb dX3_signed_1 (by decide) ?_
  refine lv_icmp_ge (tgt := 11) hx hb dX3_signed_4 (by decide) (fun h4 => ?_) (fun h4 => ?_)
  · rw [if_pos h4]
    refine lv_iload_n hx hb dX3_signed_11 rfl (lv_at hl 1 rfl) ?_
    refine lv_sipush (v := 256) hx hb dX3_signed_12 (by decide) ?_
    refine lv_isub hx hb dX3_signed_15 ?_
    exact retI C w dX3_signed_16
  · rw [if_neg h4]
    refine lv_iload_n hx hb dX3_signed_7 rfl (lv_at hl 1 rfl) ?_
    refine lv_goto (tgt := 16) hx hb dX3_signed_8 (by decide) ?_
    exact retI C w dX3_signed_16
set_option maxHeartbeats 4000000 in
set_option maxRecDepth 100000 in
theorem c_Pr_signed (l : Launch) (A : Nat → Prop) (D : va_G) (cA : Nat → ClassId) (tb : Nat) (ad : Nat → Nat) (mu nu : Mu) (x1 : Int32) : Met l yX3_signed wsX3_signed ({ frames := 0, cells := 0, slots := 0, locals := 0 }) (va_Pc [.ref (ad 9), .int x1] (Pw A D cA tb ad mu nu)) (va_Qi (fun (r : Int32) (u : Mu × Mu) => r = F_Pr_signed x1 mu ∧ u = (mu, nu)) (Bw A D cA ad) A) 0 0 A := by
  refine Met.ofW (cc := cX3_signed) (maxL := 2) (ret := (some .int)) (by decide) rfl ?_
  intro p e s m args below meth c s₁ B hml hv
  obtain ⟨rfl, w0⟩ := hv
  have C : Cx cX3_signed 2 (some .int) wsX3_signed RX3 A D cA tb p s m _ meth c := ⟨B.exec, B.bytes, B.returns, hml, findClass_of_methodNamed B.named, atoms_spec (ws := wsX3_signed) B.pre, B.notSynchronized, w0.2.1, w0.2.2.2.1, w0.2.2.2.2⟩
  have hl := lv_entry ([.ref (ad 9), .int x1]) (n := 2) (Nat.le_of_ble_eq_true rfl)
  rw [lg_entry_eq]
  exact k_Pr_signed C w0.wd hl
def F_Pr_call_37 (x3 : Int32) (mu : Mu) : Mu := (ps mu 9 7 (x3 &&& 65535))
set_option maxHeartbeats 4000000 in
set_option maxRecDepth 100000 in
theorem k_Pr_call_37 (C : Cx cX3_call 4 none wsX3_call RX3 A D cA tb p s m args meth c) {mu nu : Mu} {x3 : Int32} {H : Heap} {locs : List Loc} {ls : Array Slot} (w : Wd A D cA ad s mu nu H locs) (hl : lv_has ls 4 [(0, .ref (ad 9)), (3, .int x3)]) : W p l e { frames := 4, cells := 0, slots := 0, locals := 85 } s m args below meth c H locs 0 0 (QV A D cA ad below args s (F_Pr_call_37 x3 mu) nu) (F0 m 37 ls []) := by
  have hx := C.1
  have hb := C.2.1
  have hts := C.2.2.2.2.2.1
  have hown := C.2.2.2.2.1
  unfold F_Pr_call_37
  refine lv_aload_n hx hb dX3_call_37 rfl (lv_at hl 0 rfl) ?_
  refine lv_iload_n hx hb dX3_call_38 rfl (lv_at hl 1 rfl) ?_
  refine lv_ldc (v := 65535) hx hb hown (hts _ (List.mem_of_getElem? (i := 3) rfl)) dX3_call_39 ?_
  refine lv_iand hx hb dX3_call_41 ?_
  refine pt_9_7 C (fun _ h => List.mem_cons_of_mem _ (List.mem_append_left _ (List.mem_append_left _ (List.mem_append_left _ (List.mem_append_right _ h))))) (hts _ (List.mem_of_getElem? (i := 1) rfl)) w dX3_call_42 (fun H locs w => ?_)
  exact retV C w dX3_call_45
def F_Pr_call_28 (y0 : Int32) (mu : Mu) : Mu := F_Pr_call_37 y0 (F_Pr_pushWord (mu 9 7) mu)
set_option maxHeartbeats 4000000 in
set_option maxRecDepth 100000 in
theorem k_Pr_call_28 (C : Cx cX3_call 4 none wsX3_call RX3 A D cA tb p s m args meth c) {mu nu : Mu} {y0 : Int32} {H : Heap} {locs : List Loc} {ls : Array Slot} (w : Wd A D cA ad s mu nu H locs) (hl : lv_has ls 4 [(0, .ref (ad 9))]) : W p l e { frames := 4, cells := 0, slots := 0, locals := 85 } s m args below meth c H locs 0 0 (QV A D cA ad below args s (F_Pr_call_28 y0 mu) nu) (F0 m 28 ls [.int y0]) := by
  have hx := C.1
  have hb := C.2.1
  have hts := C.2.2.2.2.2.1
  have hown := C.2.2.2.2.1
  unfold F_Pr_call_28
  refine lv_istore_n (lv' := [(3, .int y0), (0, .ref (ad 9))]) hx hb dX3_call_28 rfl hl (by decide) rfl (fun ls hl => ?_)
  refine lv_aload_n hx hb dX3_call_29 rfl (lv_at hl 1 rfl) ?_
  refine lv_aload_n hx hb dX3_call_30 rfl (lv_at hl 1 rfl) ?_
  refine gt_9_7 C (fun _ h => List.mem_cons_of_mem _ (List.mem_append_left _ (List.mem_append_left _ (List.mem_append_left _ (List.mem_append_right _ h))))) (hts _ (List.mem_of_getElem? (i := 1) rfl)) w (v := (mu 9 7)) rfl dX3_call_31 ?_
  refine kcV (k := 9) (ci := 3) (As := [.int ((mu 9 7))]) (rest := []) C w rfl rfl (c_Pr_pushWord l A D cA tb ad mu nu (mu 9 7)) (cwV 1 hts gX3_call_X3_pushWord rfl rfl rfl (by decide +kernel) ⟨Nat.le_of_ble_eq_true rfl, Nat.le_of_ble_eq_true rfl⟩) rfl rfl hl.1 (Nat.le_of_ble_eq_true rfl) dX3_call_34 (fun H locs w => ?_)
  exact k_Pr_call_37 C w (lv_sub hl [1, 0] rfl)
def F_Pr_call_20 (y0 : Int32) (y2 : Int32) (mu : Mu) : Mu := F_Pr_call_28 (y0 + (F_Pr_signed y2 mu)) mu
set_option maxHeartbeats 4000000 in
set_option maxRecDepth 100000 in
theorem k_Pr_call_20 (C : Cx cX3_call 4 none wsX3_call RX3 A D cA tb p s m args meth c) {mu nu : Mu} {y0 : Int32} {y2 : Int32} {H : Heap} {locs : List Loc} {ls : Array Slot} (w : Wd A D cA ad s mu nu H locs) (hl : lv_has ls 4 [(0, .ref (ad 9))]) : W p l e { frames := 4, cells := 0, slots := 0, locals := 85 } s m args below meth c H locs 0 0 (QV A D cA ad below args s (F_Pr_call_20 y0 y2 mu) nu) (F0 m 20 ls [.int y2, .ref (ad 9), .int y0]) := by
  have hx := C.1
  have hb := C.2.1
  have hts := C.2.2.2.2.2.1
  have hown := C.2.2.2.2.1
  unfold F_Pr_call_20
  refine kcI (k := 9) (ci := 3) (As := [.int y2]) (rest := [.int y0]) C w rfl rfl (c_Pr_signed l A D cA tb ad mu nu y2) (cwV 1 hts gX3_call_X3_signed rfl rfl rfl (by decide +kernel) ⟨Nat.le_of_ble_eq_true rfl, Nat.le_of_ble_eq_true rfl⟩) rfl rfl hl.1 (Nat.le_of_ble_eq_true rfl) dX3_call_20 (fun H locs w => ?_)
  refine lv_iadd hx hb dX3_call_23 ?_
  refine lv_goto (tgt := 28) hx hb dX3_call_24 (by decide) ?_
  exact k_Pr_call_28 C w (lv_sub hl [0] rfl)
def F_Pr_call (x1 : Int32) (x2 : Int32) (mu : Mu) : Mu := (if x1 = (141 : Int32) then F_Pr_call_20 (mu 9 7) ((F_Bu_read x2 mu).1) ((F_Bu_read x2 mu).2) else F_Pr_call_28 x2 mu)
set_option maxHeartbeats 4000000 in
set_option maxRecDepth 100000 in
theorem k_Pr_call (C : Cx cX3_call 4 none wsX3_call RX3 A D cA tb p s m args meth c) {mu nu : Mu} {x1 : Int32} {x2 : Int32} {H : Heap} {locs : List Loc} {ls : Array Slot} (w : Wd A D cA ad s mu nu H locs) (hl : lv_has ls 4 [(0, .ref (ad 9)), (1, .int x1), (2, .int x2)]) : W p l e { frames := 4, cells := 0, slots := 0, locals := 85 } s m args below meth c H locs 0 0 (QV A D cA ad below args s (F_Pr_call x1 x2 mu) nu) (F0 m 0 ls []) := by
  have hx := C.1
  have hb := C.2.1
  have hts := C.2.2.2.2.2.1
  have hown := C.2.2.2.2.1
  unfold F_Pr_call
  refine lv_iload_n hx hb dX3_call_0 rfl (lv_at hl 1 rfl) ?_
  refine lv_sipush (v := 141) hx hb dX3_call_1 (by decide) ?_
  refine lv_icmp_ne (tgt := 27) hx hb dX3_call_4 (by decide) (fun h4 => ?_) (fun h4 => ?_)
  · rw [if_neg h4]
    refine lv_iload_n hx hb dX3_call_27 rfl (lv_at hl 2 rfl) ?_
    exact k_Pr_call_28 C w (lv_sub hl [0] rfl)
  · rw [if_pos h4]
    refine lv_aload_n hx hb dX3_call_7 rfl (lv_at hl 0 rfl) ?_
    refine gt_9_7 C (fun _ h => List.mem_cons_of_mem _ (List.mem_append_left _ (List.mem_append_left _ (List.mem_append_left _ (List.mem_append_right _ h))))) (hts _ (List.mem_of_getElem? (i := 1) rfl)) w (v := (mu 9 7)) rfl dX3_call_8 ?_
    refine lv_aload_n hx hb dX3_call_11 rfl (lv_at hl 0 rfl) ?_
    refine lv_aload_n hx hb dX3_call_12 rfl (lv_at hl 0 rfl) ?_
    refine gt_9_0 C (fun _ h => List.mem_cons_of_mem _ (List.mem_append_left _ (List.mem_append_left _ (List.mem_append_left _ (List.mem_append_right _ h))))) (hts _ (List.mem_of_getElem? (i := 2) rfl)) w dX3_call_13 ?_
    refine lv_iload_n hx hb dX3_call_16 rfl (lv_at hl 2 rfl) ?_
    refine kcI (k := 6) (ci := 1) (As := [.int x2]) (rest := [.ref (ad 9), .int ((mu 9 7))]) C w rfl rfl (c_Bu_read l A D cA tb ad mu nu x2) (cwV 1 hts gX3_call_X1_read rfl rfl rfl (by decide +kernel) ⟨Nat.le_of_ble_eq_true rfl, Nat.le_of_ble_eq_true rfl⟩) rfl rfl hl.1 (Nat.le_of_ble_eq_true rfl) dX3_call_17 (fun H locs w => ?_)
    exact k_Pr_call_20 C w (lv_sub hl [0] rfl)
set_option maxHeartbeats 4000000 in
set_option maxRecDepth 100000 in
theorem c_Pr_call (l : Launch) (A : Nat → Prop) (D : va_G) (cA : Nat → ClassId) (tb : Nat) (ad : Nat → Nat) (mu nu : Mu) (x1 : Int32) (x2 : Int32) : Met l yX3_call wsX3_call ({ frames := 4, cells := 0, slots := 0, locals := 85 }) (va_Pc [.ref (ad 9), .int x1, .int x2] (Pw A D cA tb ad mu nu)) (va_Qv (fun (u : Mu × Mu) => u = (F_Pr_call x1 x2 mu, nu)) (Bw A D cA ad) A) 0 0 A := by
  refine Met.ofW (cc := cX3_call) (maxL := 4) (ret := none) (by decide) rfl ?_
  intro p e s m args below meth c s₁ B hml hv
  obtain ⟨rfl, w0⟩ := hv
  have C : Cx cX3_call 4 none wsX3_call RX3 A D cA tb p s m _ meth c := ⟨B.exec, B.bytes, B.returns, hml, findClass_of_methodNamed B.named, atoms_spec (ws := wsX3_call) B.pre, B.notSynchronized, w0.2.1, w0.2.2.2.1, w0.2.2.2.2⟩
  have hl := lv_entry ([.ref (ad 9), .int x1, .int x2]) (n := 4) (Nat.le_of_ble_eq_true rfl)
  rw [lg_entry_eq]
  exact k_Pr_call C w0.wd hl
def F_Pr_doWithOperand_99 (y1 : Int32) (y2 : Int32) (mu : Mu) : Mu := (F_Bu_write y1 y2 mu)
set_option maxHeartbeats 4000000 in
set_option maxRecDepth 100000 in
theorem k_Pr_doWithOperand_99 (C : Cx cX3_doWithOperand 5 none wsX3_doWithOperand RX3 A D cA tb p s m args meth c) {mu nu : Mu} {y1 : Int32} {y2 : Int32} {H : Heap} {locs : List Loc} {ls : Array Slot} (w : Wd A D cA ad s mu nu H locs) (hl : lv_has ls 5 []) : W p l e { frames := 5, cells := 0, slots := 0, locals := 114 } s m args below meth c H locs 0 0 (QV A D cA ad below args s (F_Pr_doWithOperand_99 y1 y2 mu) nu) (F0 m 99 ls [.int y2, .int y1, .ref (ad 6)]) := by
  have hx := C.1
  have hb := C.2.1
  have hts := C.2.2.2.2.2.1
  have hown := C.2.2.2.2.1
  unfold F_Pr_doWithOperand_99
  refine kcV (k := 6) (ci := 1) (As := [.int y1, .int y2]) (rest := []) C w rfl rfl (c_Bu_write l A D cA tb ad mu nu y1 y2) (cwV 2 hts gX3_doWithOperand_X1_write rfl rfl rfl (by decide +kernel) ⟨Nat.le_of_ble_eq_true rfl, Nat.le_of_ble_eq_true rfl⟩) rfl rfl hl.1 (Nat.le_of_ble_eq_true rfl) dX3_doWithOperand_99 (fun H locs w => ?_)
  refine lv_goto (tgt := 193) hx hb dX3_doWithOperand_102 (by decide) ?_
  exact retV C w dX3_doWithOperand_193
def F_Pr_doWithOperand_96 (y1 : Int32) (y3 : Int32) (mu : Mu) : Mu := F_Pr_doWithOperand_99 y1 ((F_Ar_told y3 mu).1) ((F_Ar_told y3 mu).2)
set_option maxHeartbeats 4000000 in
set_option maxRecDepth 100000 in
theorem k_Pr_doWithOperand_96 (C : Cx cX3_doWithOperand 5 none wsX3_doWithOperand RX3 A D cA tb p s m args meth c) {mu nu : Mu} {y1 : Int32} {y3 : Int32} {H : Heap} {locs : List Loc} {ls : Array Slot} (w : Wd A D cA ad s mu nu H locs) (hl : lv_has ls 5 []) : W p l e { frames := 5, cells := 0, slots := 0, locals := 114 } s m args below meth c H locs 0 0 (QV A D cA ad below args s (F_Pr_doWithOperand_96 y1 y3 mu) nu) (F0 m 96 ls [.int y3, .ref (ad 11), .int y1, .ref (ad 6)]) := by
  have hx := C.1
  have hb := C.2.1
  have hts := C.2.2.2.2.2.1
  have hown := C.2.2.2.2.1
  unfold F_Pr_doWithOperand_96
  refine kcI (k := 11) (ci := 0) (As := [.int y3]) (rest := [.int y1, .ref (ad 6)]) C w rfl rfl (c_Ar_told l A D cA tb ad mu nu y3) (cwV 1 hts gX3_doWithOperand_X0_told rfl rfl rfl (by decide +kernel) ⟨Nat.le_of_ble_eq_true rfl, Nat.le_of_ble_eq_true rfl⟩) rfl rfl hl.1 (Nat.le_of_ble_eq_true rfl) dX3_doWithOperand_96 (fun H locs w => ?_)
  exact k_Pr_doWithOperand_99 C w (lv_sub hl [] rfl)
def F_Pr_doWithOperand_190 (y1 : Int32) (y2 : Int32) (y3 : Int32) (mu : Mu) : Mu := (F_Pr_combine y1 y2 y3 mu)
set_option maxHeartbeats 4000000 in
set_option maxRecDepth 100000 in
theorem k_Pr_doWithOperand_190 (C : Cx cX3_doWithOperand 5 none wsX3_doWithOperand RX3 A D cA tb p s m args meth c) {mu nu : Mu} {y1 : Int32} {y2 : Int32} {y3 : Int32} {H : Heap} {locs : List Loc} {ls : Array Slot} (w : Wd A D cA ad s mu nu H locs) (hl : lv_has ls 5 []) : W p l e { frames := 5, cells := 0, slots := 0, locals := 114 } s m args below meth c H locs 0 0 (QV A D cA ad below args s (F_Pr_doWithOperand_190 y1 y2 y3 mu) nu) (F0 m 190 ls [.int y3, .int y2, .int y1, .ref (ad 9)]) := by
  have hx := C.1
  have hb := C.2.1
  have hts := C.2.2.2.2.2.1
  have hown := C.2.2.2.2.1
  unfold F_Pr_doWithOperand_190
  refine kcV (k := 9) (ci := 3) (As := [.int y1, .int y2, .int y3]) (rest := []) C w rfl rfl (c_Pr_combine l A D cA tb ad mu nu y1 y2 y3) (cwV 3 hts gX3_doWithOperand_X3_combine rfl rfl rfl (by decide +kernel) ⟨Nat.le_of_ble_eq_true rfl, Nat.le_of_ble_eq_true rfl⟩) rfl rfl hl.1 (Nat.le_of_ble_eq_true rfl) dX3_doWithOperand_190 (fun H locs w => ?_)
  exact retV C w dX3_doWithOperand_193
def F_Pr_doWithOperand_178 (x2 : Int32) (x3 : Int32) (x4 : Int32) (mu : Mu) : Mu := F_Pr_doWithOperand_190 x4 x3 ((F_Bu_read x2 mu).1) ((F_Bu_read x2 mu).2)
set_option maxHeartbeats 4000000 in
set_option maxRecDepth 100000 in
theorem k_Pr_doWithOperand_178 (C : Cx cX3_doWithOperand 5 none wsX3_doWithOperand RX3 A D cA tb p s m args meth c) {mu nu : Mu} {x2 : Int32} {x3 : Int32} {x4 : Int32} {H : Heap} {locs : List Loc} {ls : Array Slot} (w : Wd A D cA ad s mu nu H locs) (hl : lv_has ls 5 [(0, .ref (ad 9)), (2, .int x2), (3, .int x3), (4, .int x4)]) : W p l e { frames := 5, cells := 0, slots := 0, locals := 114 } s m args below meth c H locs 0 0 (QV A D cA ad below args s (F_Pr_doWithOperand_178 x2 x3 x4 mu) nu) (F0 m 178 ls []) := by
  have hx := C.1
  have hb := C.2.1
  have hts := C.2.2.2.2.2.1
  have hown := C.2.2.2.2.1
  unfold F_Pr_doWithOperand_178
  refine lv_aload_n hx hb dX3_doWithOperand_178 rfl (lv_at hl 0 rfl) ?_
  refine lv_iload hx hb dX3_doWithOperand_179 (lv_at hl 3 rfl) ?_
  refine lv_iload_n hx hb dX3_doWithOperand_181 rfl (lv_at hl 2 rfl) ?_
  refine lv_aload_n hx hb dX3_doWithOperand_182 rfl (lv_at hl 0 rfl) ?_
  refine gt_9_0 C (fun _ h => List.mem_cons_of_mem _ (List.mem_append_left _ (List.mem_append_left _ (List.mem_append_left _ (List.mem_append_left _ (List.mem_append_left _ (List.mem_append_right _ h))))))) (hts _ (List.mem_of_getElem? (i := 1) rfl)) w dX3_doWithOperand_183 ?_
  refine lv_iload_n hx hb dX3_doWithOperand_186 rfl (lv_at hl 1 rfl) ?_
  refine kcI (k := 6) (ci := 1) (As := [.int x2]) (rest := [.int x3, .int x4, .ref (ad 9)]) C w rfl rfl (c_Bu_read l A D cA tb ad mu nu x2) (cwV 1 hts gX3_doWithOperand_X1_read rfl rfl rfl (by decide +kernel) ⟨Nat.le_of_ble_eq_true rfl, Nat.le_of_ble_eq_true rfl⟩) rfl rfl hl.1 (Nat.le_of_ble_eq_true rfl) dX3_doWithOperand_187 (fun H locs w => ?_)
  exact k_Pr_doWithOperand_190 C w (lv_sub hl [] rfl)
def F_Pr_doWithOperand_121 (y1 : Int32) (y2 : Int32) (mu : Mu) : Mu := (F_Ar_compareWords y1 y2 mu)
set_option maxHeartbeats 4000000 in
set_option maxRecDepth 100000 in
theorem k_Pr_doWithOperand_121 (C : Cx cX3_doWithOperand 5 none wsX3_doWithOperand RX3 A D cA tb p s m args meth c) {mu nu : Mu} {y1 : Int32} {y2 : Int32} {H : Heap} {locs : List Loc} {ls : Array Slot} (w : Wd A D cA ad s mu nu H locs) (hl : lv_has ls 5 []) : W p l e { frames := 5, cells := 0, slots := 0, locals := 114 } s m args below meth c H locs 0 0 (QV A D cA ad below args s (F_Pr_doWithOperand_121 y1 y2 mu) nu) (F0 m 121 ls [.int y2, .int y1, .ref (ad 11)]) := by
  have hx := C.1
  have hb := C.2.1
  have hts := C.2.2.2.2.2.1
  have hown := C.2.2.2.2.1
  unfold F_Pr_doWithOperand_121
  refine kcV (k := 11) (ci := 0) (As := [.int y1, .int y2]) (rest := []) C w rfl rfl (c_Ar_compareWords l A D cA tb ad mu nu y1 y2) (cwV 2 hts gX3_doWithOperand_X0_compareWords rfl rfl rfl (by decide +kernel) ⟨Nat.le_of_ble_eq_true rfl, Nat.le_of_ble_eq_true rfl⟩) rfl rfl hl.1 (Nat.le_of_ble_eq_true rfl) dX3_doWithOperand_121 (fun H locs w => ?_)
  refine lv_goto (tgt := 193) hx hb dX3_doWithOperand_124 (by decide) ?_
  exact retV C w dX3_doWithOperand_193
def F_Pr_doWithOperand_172 (y1 : Int32) (y2 : Int32) (mu : Mu) : Mu := (F_Bu_writeWord y1 y2 mu)
set_option maxHeartbeats 4000000 in
set_option maxRecDepth 100000 in
theorem k_Pr_doWithOperand_172 (C : Cx cX3_doWithOperand 5 none wsX3_doWithOperand RX3 A D cA tb p s m args meth c) {mu nu : Mu} {y1 : Int32} {y2 : Int32} {H : Heap} {locs : List Loc} {ls : Array Slot} (w : Wd A D cA ad s mu nu H locs) (hl : lv_has ls 5 []) : W p l e { frames := 5, cells := 0, slots := 0, locals := 114 } s m args below meth c H locs 0 0 (QV A D cA ad below args s (F_Pr_doWithOperand_172 y1 y2 mu) nu) (F0 m 172 ls [.int y2, .int y1, .ref (ad 6)]) := by
  have hx := C.1
  have hb := C.2.1
  have hts := C.2.2.2.2.2.1
  have hown := C.2.2.2.2.1
  unfold F_Pr_doWithOperand_172
  refine kcV (k := 6) (ci := 1) (As := [.int y1, .int y2]) (rest := []) C w rfl rfl (c_Bu_writeWord l A D cA tb ad mu nu y1 y2) (cwV 2 hts gX3_doWithOperand_X1_writeWord rfl rfl rfl (by decide +kernel) ⟨Nat.le_of_ble_eq_true rfl, Nat.le_of_ble_eq_true rfl⟩) rfl rfl hl.1 (Nat.le_of_ble_eq_true rfl) dX3_doWithOperand_172 (fun H locs w => ?_)
  refine lv_goto (tgt := 193) hx hb dX3_doWithOperand_175 (by decide) ?_
  exact retV C w dX3_doWithOperand_193
def F_Pr_doWithOperand_169 (y1 : Int32) (y3 : Int32) (mu : Mu) : Mu := F_Pr_doWithOperand_172 y1 ((F_Ar_toldWord y3 mu).1) ((F_Ar_toldWord y3 mu).2)
set_option maxHeartbeats 4000000 in
set_option maxRecDepth 100000 in
theorem k_Pr_doWithOperand_169 (C : Cx cX3_doWithOperand 5 none wsX3_doWithOperand RX3 A D cA tb p s m args meth c) {mu nu : Mu} {y1 : Int32} {y3 : Int32} {H : Heap} {locs : List Loc} {ls : Array Slot} (w : Wd A D cA ad s mu nu H locs) (hl : lv_has ls 5 []) : W p l e { frames := 5, cells := 0, slots := 0, locals := 114 } s m args below meth c H locs 0 0 (QV A D cA ad below args s (F_Pr_doWithOperand_169 y1 y3 mu) nu) (F0 m 169 ls [.int y3, .ref (ad 11), .int y1, .ref (ad 6)]) := by
  have hx := C.1
  have hb := C.2.1
  have hts := C.2.2.2.2.2.1
  have hown := C.2.2.2.2.1
  unfold F_Pr_doWithOperand_169
  refine kcI (k := 11) (ci := 0) (As := [.int y3]) (rest := [.int y1, .ref (ad 6)]) C w rfl rfl (c_Ar_toldWord l A D cA tb ad mu nu y3) (cwV 1 hts gX3_doWithOperand_X0_toldWord rfl rfl rfl (by decide +kernel) ⟨Nat.le_of_ble_eq_true rfl, Nat.le_of_ble_eq_true rfl⟩) rfl rfl hl.1 (Nat.le_of_ble_eq_true rfl) dX3_doWithOperand_169 (fun H locs w => ?_)
  exact k_Pr_doWithOperand_172 C w (lv_sub hl [] rfl)
def F_Pr_doWithOperand_12 (x1 : Int32) (x2 : Int32) (y0 : Int32) (mu : Mu) : Mu := (if (x1 &&& 15) = 7 then (if y0 = (0 : Int32) then F_Pr_doWithOperand_96 x2 (mu 9 4) mu else F_Pr_doWithOperand_96 x2 (mu 9 3) mu) else (if (x1 &&& 15) = 8 then F_Pr_doWithOperand_178 x2 y0 (x1 &&& 15) mu else (if (x1 &&& 15) = 9 then F_Pr_doWithOperand_178 x2 y0 (x1 &&& 15) mu else (if (x1 &&& 15) = 10 then F_Pr_doWithOperand_178 x2 y0 (x1 &&& 15) mu else (if (x1 &&& 15) = 11 then F_Pr_doWithOperand_178 x2 y0 (x1 &&& 15) mu else (if (x1 &&& 15) = 12 then F_Pr_doWithOperand_121 (mu 9 5) ((F_Bu_readWord x2 mu).1) ((F_Bu_readWord x2 mu).2) else (if (x1 &&& 15) = 13 then (F_Pr_call x1 x2 mu) else (if (x1 &&& 15) = 14 then (F_Pr_loadWord y0 x2 mu) else (if (x1 &&& 15) = 15 then (if y0 = (0 : Int32) then F_Pr_doWithOperand_169 x2 (mu 9 5) mu else F_Pr_doWithOperand_169 x2 (mu 9 6) mu) else F_Pr_doWithOperand_178 x2 y0 (x1 &&& 15) mu)))))))))
set_option maxHeartbeats 4000000 in
set_option maxRecDepth 100000 in
theorem k_Pr_doWithOperand_12 (C : Cx cX3_doWithOperand 5 none wsX3_doWithOperand RX3 A D cA tb p s m args meth c) {mu nu : Mu} {x1 : Int32} {x2 : Int32} {y0 : Int32} {H : Heap} {locs : List Loc} {ls : Array Slot} (w : Wd A D cA ad s mu nu H locs) (hl : lv_has ls 5 [(0, .ref (ad 9)), (1, .int x1), (2, .int x2)]) : W p l e { frames := 5, cells := 0, slots := 0, locals := 114 } s m args below meth c H locs 0 0 (QV A D cA ad below args s (F_Pr_doWithOperand_12 x1 x2 y0 mu) nu) (F0 m 12 ls [.int y0]) := by
  have hx := C.1
  have hb := C.2.1
  have hts := C.2.2.2.2.2.1
  have hown := C.2.2.2.2.1
  unfold F_Pr_doWithOperand_12
  refine lv_istore_n (lv' := [(3, .int y0), (0, .ref (ad 9)), (1, .int x1), (2, .int x2)]) hx hb dX3_doWithOperand_12 rfl hl (by decide) rfl (fun ls hl => ?_)
  refine lv_iload_n hx hb dX3_doWithOperand_13 rfl (lv_at hl 2 rfl) ?_
  refine lv_bipush (v := 15) hx hb dX3_doWithOperand_14 (by decide) ?_
  refine lv_iand hx hb dX3_doWithOperand_16 ?_
  refine lv_istore (lv' := [(4, .int ((x1 &&& 15))), (3, .int y0), (0, .ref (ad 9)), (1, .int x1), (2, .int x2)]) hx hb dX3_doWithOperand_17 hl (by decide) rfl (fun ls hl => ?_)
  refine lv_iload hx hb dX3_doWithOperand_19 (lv_at hl 0 rfl) ?_
  by_cases h21_7 : (x1 &&& 15) = (7 : Int32)
  · rw [if_pos h21_7]
    refine lv_tableIn (off := 51) (tgt := 72) hx hb dX3_doWithOperand_21 (by rw [h21_7]; decide) (by rw [h21_7]; decide) (by rw [h21_7]; decide) (by decide) ?_
    refine lv_aload_n hx hb dX3_doWithOperand_72 rfl (lv_at hl 2 rfl) ?_
    refine gt_9_0 C (fun _ h => List.mem_cons_of_mem _ (List.mem_append_left _ (List.mem_append_left _ (List.mem_append_left _ (List.mem_append_left _ (List.mem_append_left _ (List.mem_append_right _ h))))))) (hts _ (List.mem_of_getElem? (i := 1) rfl)) w dX3_doWithOperand_73 ?_
    refine lv_iload_n hx hb dX3_doWithOperand_76 rfl (lv_at hl 4 rfl) ?_
    refine lv_aload_n hx hb dX3_doWithOperand_77 rfl (lv_at hl 2 rfl) ?_
    refine gt_9_1 C (fun _ h => List.mem_cons_of_mem _ (List.mem_append_left _ (List.mem_append_left _ (List.mem_append_left _ (List.mem_append_left _ (List.mem_append_left _ (List.mem_append_right _ h))))))) (hts _ (List.mem_of_getElem? (i := 2) rfl)) w dX3_doWithOperand_78 ?_
    refine lv_iload_n hx hb dX3_doWithOperand_81 rfl (lv_at hl 1 rfl) ?_
    refine lv_if_eq (tgt := 92) hx hb dX3_doWithOperand_82 (by decide) (fun h82 => ?_) (fun h82 => ?_)
    · rw [if_pos h82]
      refine lv_aload_n hx hb dX3_doWithOperand_92 rfl (lv_at hl 2 rfl) ?_
      refine gt_9_4 C (fun _ h => List.mem_cons_of_mem _ (List.mem_append_left _ (List.mem_append_left _ (List.mem_append_left _ (List.mem_append_left _ (List.mem_append_left _ (List.mem_append_right _ h))))))) (hts _ (List.mem_of_getElem? (i := 4) rfl)) w (v := (mu 9 4)) rfl dX3_doWithOperand_93 ?_
      exact k_Pr_doWithOperand_96 C w (lv_sub hl [] rfl)
    · rw [if_neg h82]
      refine lv_aload_n hx hb dX3_doWithOperand_85 rfl (lv_at hl 2 rfl) ?_
      refine gt_9_3 C (fun _ h => List.mem_cons_of_mem _ (List.mem_append_left _ (List.mem_append_left _ (List.mem_append_left _ (List.mem_append_left _ (List.mem_append_left _ (List.mem_append_right _ h))))))) (hts _ (List.mem_of_getElem? (i := 3) rfl)) w (v := (mu 9 3)) rfl dX3_doWithOperand_86 ?_
      refine lv_goto (tgt := 96) hx hb dX3_doWithOperand_89 (by decide) ?_
      exact k_Pr_doWithOperand_96 C w (lv_sub hl [] rfl)
  · rw [if_neg h21_7]
    by_cases h21_8 : (x1 &&& 15) = (8 : Int32)
    · rw [if_pos h21_8]
      refine lv_tableIn (off := 157) (tgt := 178) hx hb dX3_doWithOperand_21 (by rw [h21_8]; decide) (by rw [h21_8]; decide) (by rw [h21_8]; decide) (by decide) ?_
      exact k_Pr_doWithOperand_178 C w (lv_sub hl [2, 4, 1, 0] rfl)
    · rw [if_neg h21_8]
      by_cases h21_9 : (x1 &&& 15) = (9 : Int32)
      · rw [if_pos h21_9]
        refine lv_tableIn (off := 157) (tgt := 178) hx hb dX3_doWithOperand_21 (by rw [h21_9]; decide) (by rw [h21_9]; decide) (by rw [h21_9]; decide) (by decide) ?_
        exact k_Pr_doWithOperand_178 C w (lv_sub hl [2, 4, 1, 0] rfl)
      · rw [if_neg h21_9]
        by_cases h21_10 : (x1 &&& 15) = (10 : Int32)
        · rw [if_pos h21_10]
          refine lv_tableIn (off := 157) (tgt := 178) hx hb dX3_doWithOperand_21 (by rw [h21_10]; decide) (by rw [h21_10]; decide) (by rw [h21_10]; decide) (by decide) ?_
          exact k_Pr_doWithOperand_178 C w (lv_sub hl [2, 4, 1, 0] rfl)
        · rw [if_neg h21_10]
          by_cases h21_11 : (x1 &&& 15) = (11 : Int32)
          · rw [if_pos h21_11]
            refine lv_tableIn (off := 157) (tgt := 178) hx hb dX3_doWithOperand_21 (by rw [h21_11]; decide) (by rw [h21_11]; decide) (by rw [h21_11]; decide) (by decide) ?_
            exact k_Pr_doWithOperand_178 C w (lv_sub hl [2, 4, 1, 0] rfl)
          · rw [if_neg h21_11]
            by_cases h21_12 : (x1 &&& 15) = (12 : Int32)
            · rw [if_pos h21_12]
              refine lv_tableIn (off := 84) (tgt := 105) hx hb dX3_doWithOperand_21 (by rw [h21_12]; decide) (by rw [h21_12]; decide) (by rw [h21_12]; decide) (by decide) ?_
              refine lv_aload_n hx hb dX3_doWithOperand_105 rfl (lv_at hl 2 rfl) ?_
              refine gt_9_1 C (fun _ h => List.mem_cons_of_mem _ (List.mem_append_left _ (List.mem_append_left _ (List.mem_append_left _ (List.mem_append_left _ (List.mem_append_left _ (List.mem_append_right _ h))))))) (hts _ (List.mem_of_getElem? (i := 2) rfl)) w dX3_doWithOperand_106 ?_
              refine lv_aload_n hx hb dX3_doWithOperand_109 rfl (lv_at hl 2 rfl) ?_
              refine gt_9_5 C (fun _ h => List.mem_cons_of_mem _ (List.mem_append_left _ (List.mem_append_left _ (List.mem_append_left _ (List.mem_append_left _ (List.mem_append_left _ (List.mem_append_right _ h))))))) (hts _ (List.mem_of_getElem? (i := 5) rfl)) w (v := (mu 9 5)) rfl dX3_doWithOperand_110 ?_
              refine lv_aload_n hx hb dX3_doWithOperand_113 rfl (lv_at hl 2 rfl) ?_
              refine gt_9_0 C (fun _ h => List.mem_cons_of_mem _ (List.mem_append_left _ (List.mem_append_left _ (List.mem_append_left _ (List.mem_append_left _ (List.mem_append_left _ (List.mem_append_right _ h))))))) (hts _ (List.mem_of_getElem? (i := 1) rfl)) w dX3_doWithOperand_114 ?_
              refine lv_iload_n hx hb dX3_doWithOperand_117 rfl (lv_at hl 4 rfl) ?_
              refine kcI (k := 6) (ci := 1) (As := [.int x2]) (rest := [.int ((mu 9 5)), .ref (ad 11)]) C w rfl rfl (c_Bu_readWord l A D cA tb ad mu nu x2) (cwV 1 hts gX3_doWithOperand_X1_readWord rfl rfl rfl (by decide +kernel) ⟨Nat.le_of_ble_eq_true rfl, Nat.le_of_ble_eq_true rfl⟩) rfl rfl hl.1 (Nat.le_of_ble_eq_true rfl) dX3_doWithOperand_118 (fun H locs w => ?_)
              exact k_Pr_doWithOperand_121 C w (lv_sub hl [] rfl)
            · rw [if_neg h21_12]
              by_cases h21_13 : (x1 &&& 15) = (13 : Int32)
              · rw [if_pos h21_13]
                refine lv_tableIn (off := 106) (tgt := 127) hx hb dX3_doWithOperand_21 (by rw [h21_13]; decide) (by rw [h21_13]; decide) (by rw [h21_13]; decide) (by decide) ?_
                refine lv_aload_n hx hb dX3_doWithOperand_127 rfl (lv_at hl 2 rfl) ?_
                refine lv_iload_n hx hb dX3_doWithOperand_128 rfl (lv_at hl 3 rfl) ?_
                refine lv_iload_n hx hb dX3_doWithOperand_129 rfl (lv_at hl 4 rfl) ?_
                refine kcV (k := 9) (ci := 3) (As := [.int x1, .int x2]) (rest := []) C w rfl rfl (c_Pr_call l A D cA tb ad mu nu x1 x2) (cwV 2 hts gX3_doWithOperand_X3_call rfl rfl rfl (by decide +kernel) ⟨Nat.le_of_ble_eq_true rfl, Nat.le_of_ble_eq_true rfl⟩) rfl rfl hl.1 (Nat.le_of_ble_eq_true rfl) dX3_doWithOperand_130 (fun H locs w => ?_)
                refine lv_goto (tgt := 193) hx hb dX3_doWithOperand_133 (by decide) ?_
                exact retV C w dX3_doWithOperand_193
              · rw [if_neg h21_13]
                by_cases h21_14 : (x1 &&& 15) = (14 : Int32)
                · rw [if_pos h21_14]
                  refine lv_tableIn (off := 115) (tgt := 136) hx hb dX3_doWithOperand_21 (by rw [h21_14]; decide) (by rw [h21_14]; decide) (by rw [h21_14]; decide) (by decide) ?_
                  refine lv_aload_n hx hb dX3_doWithOperand_136 rfl (lv_at hl 2 rfl) ?_
                  refine lv_iload_n hx hb dX3_doWithOperand_137 rfl (lv_at hl 1 rfl) ?_
                  refine lv_iload_n hx hb dX3_doWithOperand_138 rfl (lv_at hl 4 rfl) ?_
                  refine kcV (k := 9) (ci := 3) (As := [.int y0, .int x2]) (rest := []) C w rfl rfl (c_Pr_loadWord l A D cA tb ad mu nu y0 x2) (cwV 2 hts gX3_doWithOperand_X3_loadWord rfl rfl rfl (by decide +kernel) ⟨Nat.le_of_ble_eq_true rfl, Nat.le_of_ble_eq_true rfl⟩) rfl rfl hl.1 (Nat.le_of_ble_eq_true rfl) dX3_doWithOperand_139 (fun H locs w => ?_)
                  refine lv_goto (tgt := 193) hx hb dX3_doWithOperand_142 (by decide) ?_
                  exact retV C w dX3_doWithOperand_193
                · rw [if_neg h21_14]
                  by_cases h21_15 : (x1 &&& 15) = (15 : Int32)
                  · rw [if_pos h21_15]
                    refine lv_tableIn (off := 124) (tgt := 145) hx hb dX3_doWithOperand_21 (by rw [h21_15]; decide) (by rw [h21_15]; decide) (by rw [h21_15]; decide) (by decide) ?_
                    refine lv_aload_n hx hb dX3_doWithOperand_145 rfl (lv_at hl 2 rfl) ?_
                    refine gt_9_0 C (fun _ h => List.mem_cons_of_mem _ (List.mem_append_left _ (List.mem_append_left _ (List.mem_append_left _ (List.mem_append_left _ (List.mem_append_left _ (List.mem_append_right _ h))))))) (hts _ (List.mem_of_getElem? (i := 1) rfl)) w dX3_doWithOperand_146 ?_
                    refine lv_iload_n hx hb dX3_doWithOperand_149 rfl (lv_at hl 4 rfl) ?_
                    refine lv_aload_n hx hb dX3_doWithOperand_150 rfl (lv_at hl 2 rfl) ?_
                    refine gt_9_1 C (fun _ h => List.mem_cons_of_mem _ (List.mem_append_left _ (List.mem_append_left _ (List.mem_append_left _ (List.mem_append_left _ (List.mem_append_left _ (List.mem_append_right _ h))))))) (hts _ (List.mem_of_getElem? (i := 2) rfl)) w dX3_doWithOperand_151 ?_
                    refine lv_iload_n hx hb dX3_doWithOperand_154 rfl (lv_at hl 1 rfl) ?_
                    refine lv_if_eq (tgt := 165) hx hb dX3_doWithOperand_155 (by decide) (fun h155 => ?_) (fun h155 => ?_)
                    · rw [if_pos h155]
                      refine lv_aload_n hx hb dX3_doWithOperand_165 rfl (lv_at hl 2 rfl) ?_
                      refine gt_9_5 C (fun _ h => List.mem_cons_of_mem _ (List.mem_append_left _ (List.mem_append_left _ (List.mem_append_left _ (List.mem_append_left _ (List.mem_append_left _ (List.mem_append_right _ h))))))) (hts _ (List.mem_of_getElem? (i := 5) rfl)) w (v := (mu 9 5)) rfl dX3_doWithOperand_166 ?_
                      exact k_Pr_doWithOperand_169 C w (lv_sub hl [] rfl)
                    · rw [if_neg h155]
                      refine lv_aload_n hx hb dX3_doWithOperand_158 rfl (lv_at hl 2 rfl) ?_
                      refine gt_9_6 C (fun _ h => List.mem_cons_of_mem _ (List.mem_append_left _ (List.mem_append_left _ (List.mem_append_left _ (List.mem_append_left _ (List.mem_append_left _ (List.mem_append_right _ h))))))) (hts _ (List.mem_of_getElem? (i := 6) rfl)) w (v := (mu 9 6)) rfl dX3_doWithOperand_159 ?_
                      refine lv_goto (tgt := 169) hx hb dX3_doWithOperand_162 (by decide) ?_
                      exact k_Pr_doWithOperand_169 C w (lv_sub hl [] rfl)
                  · rw [if_neg h21_15]
                    refine lv_tableOut (tgt := 178) hx hb dX3_doWithOperand_21 (by have := lv_neT h21_7 (a := 7) rfl; have := lv_neT h21_8 (a := 8) rfl; have := lv_neT h21_9 (a := 9) rfl; have := lv_neT h21_10 (a := 10) rfl; have := lv_neT h21_11 (a := 11) rfl; have := lv_neT h21_12 (a := 12) rfl; have := lv_neT h21_13 (a := 13) rfl; have := lv_neT h21_14 (a := 14) rfl; have := lv_neT h21_15 (a := 15) rfl; omega) (by decide) ?_
                    exact k_Pr_doWithOperand_178 C w (lv_sub hl [2, 4, 1, 0] rfl)
def F_Pr_doWithOperand (x1 : Int32) (x2 : Int32) (mu : Mu) : Mu := (if (192 : Int32) ≤ x1 then F_Pr_doWithOperand_12 x1 x2 0 mu else F_Pr_doWithOperand_12 x1 x2 1 mu)
set_option maxHeartbeats 4000000 in
set_option maxRecDepth 100000 in
theorem k_Pr_doWithOperand (C : Cx cX3_doWithOperand 5 none wsX3_doWithOperand RX3 A D cA tb p s m args meth c) {mu nu : Mu} {x1 : Int32} {x2 : Int32} {H : Heap} {locs : List Loc} {ls : Array Slot} (w : Wd A D cA ad s mu nu H locs) (hl : lv_has ls 5 [(0, .ref (ad 9)), (1, .int x1), (2, .int x2)]) : W p l e { frames := 5, cells := 0, slots := 0, locals := 114 } s m args below meth c H locs 0 0 (QV A D cA ad below args s (F_Pr_doWithOperand x1 x2 mu) nu) (F0 m 0 ls []) := by
  have hx := C.1
  have hb := C.2.1
  have hts := C.2.2.2.2.2.1
  have hown := C.2.2.2.2.1
  unfold F_Pr_doWithOperand
  refine lv_iload_n hx hb dX3_doWithOperand_0 rfl (lv_at hl 1 rfl) ?_
  refine lv_sipush (v := 192) hx hb dX3_doWithOperand_1 (by decide) ?_
  refine lv_icmp_ge (tgt := 11) hx hb dX3_doWithOperand_4 (by decide) (fun h4 => ?_) (fun h4 => ?_)
  · rw [if_pos h4]
    refine lv_iconst (v := 0) hx hb dX3_doWithOperand_11 (by decide) ?_
    exact k_Pr_doWithOperand_12 C w (lv_sub hl [0, 1, 2] rfl)
  · rw [if_neg h4]
    refine lv_iconst (v := 1) hx hb dX3_doWithOperand_7 (by decide) ?_
    refine lv_goto (tgt := 12) hx hb dX3_doWithOperand_8 (by decide) ?_
    exact k_Pr_doWithOperand_12 C w (lv_sub hl [0, 1, 2] rfl)
set_option maxHeartbeats 4000000 in
set_option maxRecDepth 100000 in
theorem c_Pr_doWithOperand (l : Launch) (A : Nat → Prop) (D : va_G) (cA : Nat → ClassId) (tb : Nat) (ad : Nat → Nat) (mu nu : Mu) (x1 : Int32) (x2 : Int32) : Met l yX3_doWithOperand wsX3_doWithOperand ({ frames := 5, cells := 0, slots := 0, locals := 114 }) (va_Pc [.ref (ad 9), .int x1, .int x2] (Pw A D cA tb ad mu nu)) (va_Qv (fun (u : Mu × Mu) => u = (F_Pr_doWithOperand x1 x2 mu, nu)) (Bw A D cA ad) A) 0 0 A := by
  refine Met.ofW (cc := cX3_doWithOperand) (maxL := 5) (ret := none) (by decide) rfl ?_
  intro p e s m args below meth c s₁ B hml hv
  obtain ⟨rfl, w0⟩ := hv
  have C : Cx cX3_doWithOperand 5 none wsX3_doWithOperand RX3 A D cA tb p s m _ meth c := ⟨B.exec, B.bytes, B.returns, hml, findClass_of_methodNamed B.named, atoms_spec (ws := wsX3_doWithOperand) B.pre, B.notSynchronized, w0.2.1, w0.2.2.2.1, w0.2.2.2.2⟩
  have hl := lv_entry ([.ref (ad 9), .int x1, .int x2]) (n := 5) (Nat.le_of_ble_eq_true rfl)
  rw [lg_entry_eq]
  exact k_Pr_doWithOperand C w0.wd hl
def F_Pr_changeInMemory_40 (x1 : Int32) (x2 : Int32) (y0 : Int32) (mu : Mu) : Mu := (if x1 = (13 : Int32) then mu else (F_Bu_write x2 y0 mu))
set_option maxHeartbeats 4000000 in
set_option maxRecDepth 100000 in
theorem k_Pr_changeInMemory_40 (C : Cx cX3_changeInMemory 5 none wsX3_changeInMemory RX3 A D cA tb p s m args meth c) {mu nu : Mu} {x1 : Int32} {x2 : Int32} {y0 : Int32} {H : Heap} {locs : List Loc} {ls : Array Slot} (w : Wd A D cA ad s mu nu H locs) (hl : lv_has ls 5 [(0, .ref (ad 9)), (1, .int x1), (2, .int x2)]) : W p l e { frames := 4, cells := 0, slots := 0, locals := 87 } s m args below meth c H locs 0 0 (QV A D cA ad below args s (F_Pr_changeInMemory_40 x1 x2 y0 mu) nu) (F0 m 40 ls [.int y0]) := by
  have hx := C.1
  have hb := C.2.1
  have hts := C.2.2.2.2.2.1
  have hown := C.2.2.2.2.1
  unfold F_Pr_changeInMemory_40
  refine lv_istore (lv' := [(4, .int y0), (0, .ref (ad 9)), (1, .int x1), (2, .int x2)]) hx hb dX3_changeInMemory_40 hl (by decide) rfl (fun ls hl => ?_)
  refine lv_iload_n hx hb dX3_changeInMemory_42 rfl (lv_at hl 2 rfl) ?_
  refine lv_bipush (v := 13) hx hb dX3_changeInMemory_43 (by decide) ?_
  refine lv_icmp_eq (tgt := 58) hx hb dX3_changeInMemory_45 (by decide) (fun h45 => ?_) (fun h45 => ?_)
  · rw [if_pos h45]
    exact retV C w dX3_changeInMemory_58
  · rw [if_neg h45]
    refine lv_aload_n hx hb dX3_changeInMemory_48 rfl (lv_at hl 1 rfl) ?_
    refine gt_9_0 C (fun _ h => List.mem_cons_of_mem _ (List.mem_append_left _ (List.mem_append_left _ (List.mem_append_left _ (List.mem_append_left _ (List.mem_append_left _ (List.mem_append_right _ h))))))) (hts _ (List.mem_of_getElem? (i := 2) rfl)) w dX3_changeInMemory_49 ?_
    refine lv_iload_n hx hb dX3_changeInMemory_52 rfl (lv_at hl 3 rfl) ?_
    refine lv_iload hx hb dX3_changeInMemory_53 (lv_at hl 0 rfl) ?_
    refine kcV (k := 6) (ci := 1) (As := [.int x2, .int y0]) (rest := []) C w rfl rfl (c_Bu_write l A D cA tb ad mu nu x2 y0) (cwV 2 hts gX3_changeInMemory_X1_write rfl rfl rfl (by decide +kernel) ⟨Nat.le_of_ble_eq_true rfl, Nat.le_of_ble_eq_true rfl⟩) rfl rfl hl.1 (Nat.le_of_ble_eq_true rfl) dX3_changeInMemory_55 (fun H locs w => ?_)
    exact retV C w dX3_changeInMemory_58
def F_Pr_changeInMemory_30 (x1 : Int32) (x2 : Int32) (y0 : Int32) (mu : Mu) : Mu := F_Pr_changeInMemory_40 x1 x2 ((F_Ar_changed x1 y0 mu).1) ((F_Ar_changed x1 y0 mu).2)
set_option maxHeartbeats 4000000 in
set_option maxRecDepth 100000 in
theorem k_Pr_changeInMemory_30 (C : Cx cX3_changeInMemory 5 none wsX3_changeInMemory RX3 A D cA tb p s m args meth c) {mu nu : Mu} {x1 : Int32} {x2 : Int32} {y0 : Int32} {H : Heap} {locs : List Loc} {ls : Array Slot} (w : Wd A D cA ad s mu nu H locs) (hl : lv_has ls 5 [(0, .ref (ad 9)), (1, .int x1), (2, .int x2)]) : W p l e { frames := 4, cells := 0, slots := 0, locals := 87 } s m args below meth c H locs 0 0 (QV A D cA ad below args s (F_Pr_changeInMemory_30 x1 x2 y0 mu) nu) (F0 m 30 ls [.int y0]) := by
  have hx := C.1
  have hb := C.2.1
  have hts := C.2.2.2.2.2.1
  have hown := C.2.2.2.2.1
  unfold F_Pr_changeInMemory_30
  refine lv_istore_n (lv' := [(3, .int y0), (0, .ref (ad 9)), (1, .int x1), (2, .int x2)]) hx hb dX3_changeInMemory_30 rfl hl (by decide) rfl (fun ls hl => ?_)
  refine lv_aload_n hx hb dX3_changeInMemory_31 rfl (lv_at hl 1 rfl) ?_
  refine gt_9_1 C (fun _ h => List.mem_cons_of_mem _ (List.mem_append_left _ (List.mem_append_left _ (List.mem_append_left _ (List.mem_append_left _ (List.mem_append_left _ (List.mem_append_right _ h))))))) (hts _ (List.mem_of_getElem? (i := 3) rfl)) w dX3_changeInMemory_32 ?_
  refine lv_iload_n hx hb dX3_changeInMemory_35 rfl (lv_at hl 2 rfl) ?_
  refine lv_iload_n hx hb dX3_changeInMemory_36 rfl (lv_at hl 0 rfl) ?_
  refine kcI (k := 11) (ci := 0) (As := [.int x1, .int y0]) (rest := []) C w rfl rfl (c_Ar_changed l A D cA tb ad mu nu x1 y0) (cwV 2 hts gX3_changeInMemory_X0_changed rfl rfl rfl (by decide +kernel) ⟨Nat.le_of_ble_eq_true rfl, Nat.le_of_ble_eq_true rfl⟩) rfl rfl hl.1 (Nat.le_of_ble_eq_true rfl) dX3_changeInMemory_37 (fun H locs w => ?_)
  exact k_Pr_changeInMemory_40 C w (lv_sub hl [1, 2, 3] rfl)
def F_Pr_changeInMemory (x1 : Int32) (x2 : Int32) (mu : Mu) : Mu := (if x1 = (14 : Int32) then (ps mu 9 7 x2) else (if x1 = (15 : Int32) then F_Pr_changeInMemory_30 x1 x2 0 mu else F_Pr_changeInMemory_30 x1 x2 ((F_Bu_read x2 mu).1) ((F_Bu_read x2 mu).2)))
set_option maxHeartbeats 4000000 in
set_option maxRecDepth 100000 in
theorem k_Pr_changeInMemory (C : Cx cX3_changeInMemory 5 none wsX3_changeInMemory RX3 A D cA tb p s m args meth c) {mu nu : Mu} {x1 : Int32} {x2 : Int32} {H : Heap} {locs : List Loc} {ls : Array Slot} (w : Wd A D cA ad s mu nu H locs) (hl : lv_has ls 5 [(0, .ref (ad 9)), (1, .int x1), (2, .int x2)]) : W p l e { frames := 4, cells := 0, slots := 0, locals := 87 } s m args below meth c H locs 0 0 (QV A D cA ad below args s (F_Pr_changeInMemory x1 x2 mu) nu) (F0 m 0 ls []) := by
  have hx := C.1
  have hb := C.2.1
  have hts := C.2.2.2.2.2.1
  have hown := C.2.2.2.2.1
  unfold F_Pr_changeInMemory
  refine lv_iload_n hx hb dX3_changeInMemory_0 rfl (lv_at hl 1 rfl) ?_
  refine lv_bipush (v := 14) hx hb dX3_changeInMemory_1 (by decide) ?_
  refine lv_icmp_ne (tgt := 12) hx hb dX3_changeInMemory_3 (by decide) (fun h3 => ?_) (fun h3 => ?_)
  · rw [if_neg h3]
    refine lv_iload_n hx hb dX3_changeInMemory_12 rfl (lv_at hl 1 rfl) ?_
    refine lv_bipush (v := 15) hx hb dX3_changeInMemory_13 (by decide) ?_
    refine lv_icmp_ne (tgt := 22) hx hb dX3_changeInMemory_15 (by decide) (fun h15 => ?_) (fun h15 => ?_)
    · rw [if_neg h15]
      refine lv_aload_n hx hb dX3_changeInMemory_22 rfl (lv_at hl 0 rfl) ?_
      refine gt_9_0 C (fun _ h => List.mem_cons_of_mem _ (List.mem_append_left _ (List.mem_append_left _ (List.mem_append_left _ (List.mem_append_left _ (List.mem_append_left _ (List.mem_append_right _ h))))))) (hts _ (List.mem_of_getElem? (i := 2) rfl)) w dX3_changeInMemory_23 ?_
      refine lv_iload_n hx hb dX3_changeInMemory_26 rfl (lv_at hl 2 rfl) ?_
      refine kcI (k := 6) (ci := 1) (As := [.int x2]) (rest := []) C w rfl rfl (c_Bu_read l A D cA tb ad mu nu x2) (cwV 1 hts gX3_changeInMemory_X1_read rfl rfl rfl (by decide +kernel) ⟨Nat.le_of_ble_eq_true rfl, Nat.le_of_ble_eq_true rfl⟩) rfl rfl hl.1 (Nat.le_of_ble_eq_true rfl) dX3_changeInMemory_27 (fun H locs w => ?_)
      exact k_Pr_changeInMemory_30 C w (lv_sub hl [0, 1, 2] rfl)
    · rw [if_pos h15]
      refine lv_iconst (v := 0) hx hb dX3_changeInMemory_18 (by decide) ?_
      refine lv_goto (tgt := 30) hx hb dX3_changeInMemory_19 (by decide) ?_
      exact k_Pr_changeInMemory_30 C w (lv_sub hl [0, 1, 2] rfl)
  · rw [if_pos h3]
    refine lv_aload_n hx hb dX3_changeInMemory_6 rfl (lv_at hl 0 rfl) ?_
    refine lv_iload_n hx hb dX3_changeInMemory_7 rfl (lv_at hl 2 rfl) ?_
    refine pt_9_7 C (fun _ h => List.mem_cons_of_mem _ (List.mem_append_left _ (List.mem_append_left _ (List.mem_append_left _ (List.mem_append_left _ (List.mem_append_left _ (List.mem_append_right _ h))))))) (hts _ (List.mem_of_getElem? (i := 1) rfl)) w dX3_changeInMemory_8 (fun H locs w => ?_)
    exact retV C w dX3_changeInMemory_11
set_option maxHeartbeats 4000000 in
set_option maxRecDepth 100000 in
theorem c_Pr_changeInMemory (l : Launch) (A : Nat → Prop) (D : va_G) (cA : Nat → ClassId) (tb : Nat) (ad : Nat → Nat) (mu nu : Mu) (x1 : Int32) (x2 : Int32) : Met l yX3_changeInMemory wsX3_changeInMemory ({ frames := 4, cells := 0, slots := 0, locals := 87 }) (va_Pc [.ref (ad 9), .int x1, .int x2] (Pw A D cA tb ad mu nu)) (va_Qv (fun (u : Mu × Mu) => u = (F_Pr_changeInMemory x1 x2 mu, nu)) (Bw A D cA ad) A) 0 0 A := by
  refine Met.ofW (cc := cX3_changeInMemory) (maxL := 5) (ret := none) (by decide) rfl ?_
  intro p e s m args below meth c s₁ B hml hv
  obtain ⟨rfl, w0⟩ := hv
  have C : Cx cX3_changeInMemory 5 none wsX3_changeInMemory RX3 A D cA tb p s m _ meth c := ⟨B.exec, B.bytes, B.returns, hml, findClass_of_methodNamed B.named, atoms_spec (ws := wsX3_changeInMemory) B.pre, B.notSynchronized, w0.2.1, w0.2.2.2.1, w0.2.2.2.2⟩
  have hl := lv_entry ([.ref (ad 9), .int x1, .int x2]) (n := 5) (Nat.le_of_ble_eq_true rfl)
  rw [lg_entry_eq]
  exact k_Pr_changeInMemory C w0.wd hl
def F_Pr_pull (mu : Mu) : Int32 × Mu := ((F_Bu_read (((mu 9 6) + 1) &&& 65535) (ps mu 9 6 (((mu 9 6) + 1) &&& 65535))).1, (F_Bu_read (((mu 9 6) + 1) &&& 65535) (ps mu 9 6 (((mu 9 6) + 1) &&& 65535))).2)
set_option maxHeartbeats 4000000 in
set_option maxRecDepth 100000 in
theorem k_Pr_pull (C : Cx cX3_pull 1 (some .int) wsX3_pull RX3 A D cA tb p s m args meth c) {mu nu : Mu} {H : Heap} {locs : List Loc} {ls : Array Slot} (w : Wd A D cA ad s mu nu H locs) (hl : lv_has ls 1 [(0, .ref (ad 9))]) : W p l e { frames := 3, cells := 0, slots := 0, locals := 64 } s m args below meth c H locs 0 0 (QI A D cA ad below args s (F_Pr_pull mu).1 (F_Pr_pull mu).2 nu) (F0 m 0 ls []) := by
  have hx := C.1
  have hb := C.2.1
  have hts := C.2.2.2.2.2.1
  have hown := C.2.2.2.2.1
  unfold F_Pr_pull
  refine lv_aload_n hx hb dX3_pull_0 rfl (lv_at hl 0 rfl) ?_
  refine lv_aload_n hx hb dX3_pull_1 rfl (lv_at hl 0 rfl) ?_
  refine gt_9_6 C (fun _ h => List.mem_cons_of_mem _ (List.mem_append_left _ (List.mem_append_left _ (List.mem_append_left _ (List.mem_append_right _ h))))) (hts _ (List.mem_of_getElem? (i := 1) rfl)) w (v := (mu 9 6)) rfl dX3_pull_2 ?_
  refine lv_iconst (v := 1) hx hb dX3_pull_5 (by decide) ?_
  refine lv_iadd hx hb dX3_pull_6 ?_
  refine lv_ldc (v := 65535) hx hb hown (hts _ (List.mem_of_getElem? (i := 2) rfl)) dX3_pull_7 ?_
  refine lv_iand hx hb dX3_pull_9 ?_
  refine pt_9_6 C (fun _ h => List.mem_cons_of_mem _ (List.mem_append_left _ (List.mem_append_left _ (List.mem_append_left _ (List.mem_append_right _ h))))) (hts _ (List.mem_of_getElem? (i := 1) rfl)) w dX3_pull_10 (fun H locs w => ?_)
  refine lv_aload_n hx hb dX3_pull_13 rfl (lv_at hl 0 rfl) ?_
  refine gt_9_0 C (fun _ h => List.mem_cons_of_mem _ (List.mem_append_left _ (List.mem_append_left _ (List.mem_append_left _ (List.mem_append_right _ h))))) (hts _ (List.mem_of_getElem? (i := 3) rfl)) w dX3_pull_14 ?_
  refine lv_aload_n hx hb dX3_pull_17 rfl (lv_at hl 0 rfl) ?_
  refine gt_9_6 C (fun _ h => List.mem_cons_of_mem _ (List.mem_append_left _ (List.mem_append_left _ (List.mem_append_left _ (List.mem_append_right _ h))))) (hts _ (List.mem_of_getElem? (i := 1) rfl)) w (v := (((mu 9 6) + 1) &&& 65535)) rfl dX3_pull_18 ?_
  refine kcI (k := 6) (ci := 1) (As := [.int ((((mu 9 6) + 1) &&& 65535))]) (rest := []) C w rfl rfl (c_Bu_read l A D cA tb ad (ps mu 9 6 (((mu 9 6) + 1) &&& 65535)) nu (((mu 9 6) + 1) &&& 65535)) (cwV 1 hts gX3_pull_X1_read rfl rfl rfl (by decide +kernel) ⟨Nat.le_of_ble_eq_true rfl, Nat.le_of_ble_eq_true rfl⟩) rfl rfl hl.1 (Nat.le_of_ble_eq_true rfl) dX3_pull_21 (fun H locs w => ?_)
  exact retI C w dX3_pull_24
set_option maxHeartbeats 4000000 in
set_option maxRecDepth 100000 in
theorem c_Pr_pull (l : Launch) (A : Nat → Prop) (D : va_G) (cA : Nat → ClassId) (tb : Nat) (ad : Nat → Nat) (mu nu : Mu) : Met l yX3_pull wsX3_pull ({ frames := 3, cells := 0, slots := 0, locals := 64 }) (va_Pc [.ref (ad 9)] (Pw A D cA tb ad mu nu)) (va_Qi (fun (r : Int32) (u : Mu × Mu) => r = (F_Pr_pull mu).1 ∧ u = ((F_Pr_pull mu).2, nu)) (Bw A D cA ad) A) 0 0 A := by
  refine Met.ofW (cc := cX3_pull) (maxL := 1) (ret := (some .int)) (by decide) rfl ?_
  intro p e s m args below meth c s₁ B hml hv
  obtain ⟨rfl, w0⟩ := hv
  have C : Cx cX3_pull 1 (some .int) wsX3_pull RX3 A D cA tb p s m _ meth c := ⟨B.exec, B.bytes, B.returns, hml, findClass_of_methodNamed B.named, atoms_spec (ws := wsX3_pull) B.pre, B.notSynchronized, w0.2.1, w0.2.2.2.1, w0.2.2.2.2⟩
  have hl := lv_entry ([.ref (ad 9)]) (n := 1) (Nat.le_of_ble_eq_true rfl)
  rw [lg_entry_eq]
  exact k_Pr_pull C w0.wd hl
def F_Pr_pullWord_27 (x1 : Int32) (y0 : Int32) (mu : Mu) : Int32 × Mu := (((x1 <<< (8 &&& 31)) ||| y0), (ps mu 9 6 (((mu 9 6) + 2) &&& 65535)))
set_option maxHeartbeats 4000000 in
set_option maxRecDepth 100000 in
theorem k_Pr_pullWord_27 (C : Cx cX3_pullWord 3 (some .int) wsX3_pullWord RX3 A D cA tb p s m args meth c) {mu nu : Mu} {x1 : Int32} {y0 : Int32} {H : Heap} {locs : List Loc} {ls : Array Slot} (w : Wd A D cA ad s mu nu H locs) (hl : lv_has ls 3 [(0, .ref (ad 9)), (1, .int x1)]) : W p l e { frames := 3, cells := 0, slots := 0, locals := 64 } s m args below meth c H locs 0 0 (QI A D cA ad below args s (F_Pr_pullWord_27 x1 y0 mu).1 (F_Pr_pullWord_27 x1 y0 mu).2 nu) (F0 m 27 ls [.int y0]) := by
  have hx := C.1
  have hb := C.2.1
  have hts := C.2.2.2.2.2.1
  have hown := C.2.2.2.2.1
  unfold F_Pr_pullWord_27
  refine lv_istore_n (lv' := [(2, .int y0), (0, .ref (ad 9)), (1, .int x1)]) hx hb dX3_pullWord_27 rfl hl (by decide) rfl (fun ls hl => ?_)
  refine lv_aload_n hx hb dX3_pullWord_28 rfl (lv_at hl 1 rfl) ?_
  refine lv_aload_n hx hb dX3_pullWord_29 rfl (lv_at hl 1 rfl) ?_
  refine gt_9_6 C (fun _ h => List.mem_cons_of_mem _ (List.mem_append_left _ (List.mem_append_left _ (List.mem_append_left _ (List.mem_append_right _ h))))) (hts _ (List.mem_of_getElem? (i := 2) rfl)) w (v := (mu 9 6)) rfl dX3_pullWord_30 ?_
  refine lv_iconst (v := 2) hx hb dX3_pullWord_33 (by decide) ?_
  refine lv_iadd hx hb dX3_pullWord_34 ?_
  refine lv_ldc (v := 65535) hx hb hown (hts _ (List.mem_of_getElem? (i := 3) rfl)) dX3_pullWord_35 ?_
  refine lv_iand hx hb dX3_pullWord_37 ?_
  refine pt_9_6 C (fun _ h => List.mem_cons_of_mem _ (List.mem_append_left _ (List.mem_append_left _ (List.mem_append_left _ (List.mem_append_right _ h))))) (hts _ (List.mem_of_getElem? (i := 2) rfl)) w dX3_pullWord_38 (fun H locs w => ?_)
  refine lv_iload_n hx hb dX3_pullWord_41 rfl (lv_at hl 2 rfl) ?_
  refine lv_bipush (v := 8) hx hb dX3_pullWord_42 (by decide) ?_
  refine lv_ishl hx hb dX3_pullWord_44 ?_
  refine lv_iload_n hx hb dX3_pullWord_45 rfl (lv_at hl 0 rfl) ?_
  refine lv_ior hx hb dX3_pullWord_46 ?_
  exact retI C w dX3_pullWord_47
def F_Pr_pullWord_13 (y0 : Int32) (mu : Mu) : Int32 × Mu := F_Pr_pullWord_27 y0 ((F_Bu_read ((mu 9 6) + 2) mu).1) ((F_Bu_read ((mu 9 6) + 2) mu).2)
set_option maxHeartbeats 4000000 in
set_option maxRecDepth 100000 in
theorem k_Pr_pullWord_13 (C : Cx cX3_pullWord 3 (some .int) wsX3_pullWord RX3 A D cA tb p s m args meth c) {mu nu : Mu} {y0 : Int32} {H : Heap} {locs : List Loc} {ls : Array Slot} (w : Wd A D cA ad s mu nu H locs) (hl : lv_has ls 3 [(0, .ref (ad 9))]) : W p l e { frames := 3, cells := 0, slots := 0, locals := 64 } s m args below meth c H locs 0 0 (QI A D cA ad below args s (F_Pr_pullWord_13 y0 mu).1 (F_Pr_pullWord_13 y0 mu).2 nu) (F0 m 13 ls [.int y0]) := by
  have hx := C.1
  have hb := C.2.1
  have hts := C.2.2.2.2.2.1
  have hown := C.2.2.2.2.1
  unfold F_Pr_pullWord_13
  refine lv_istore_n (lv' := [(1, .int y0), (0, .ref (ad 9))]) hx hb dX3_pullWord_13 rfl hl (by decide) rfl (fun ls hl => ?_)
  refine lv_aload_n hx hb dX3_pullWord_14 rfl (lv_at hl 1 rfl) ?_
  refine gt_9_0 C (fun _ h => List.mem_cons_of_mem _ (List.mem_append_left _ (List.mem_append_left _ (List.mem_append_left _ (List.mem_append_right _ h))))) (hts _ (List.mem_of_getElem? (i := 1) rfl)) w dX3_pullWord_15 ?_
  refine lv_aload_n hx hb dX3_pullWord_18 rfl (lv_at hl 1 rfl) ?_
  refine gt_9_6 C (fun _ h => List.mem_cons_of_mem _ (List.mem_append_left _ (List.mem_append_left _ (List.mem_append_left _ (List.mem_append_right _ h))))) (hts _ (List.mem_of_getElem? (i := 2) rfl)) w (v := (mu 9 6)) rfl dX3_pullWord_19 ?_
  refine lv_iconst (v := 2) hx hb dX3_pullWord_22 (by decide) ?_
  refine lv_iadd hx hb dX3_pullWord_23 ?_
  refine kcI (k := 6) (ci := 1) (As := [.int (((mu 9 6) + 2))]) (rest := []) C w rfl rfl (c_Bu_read l A D cA tb ad mu nu ((mu 9 6) + 2)) (cwV 1 hts gX3_pullWord_X1_read rfl rfl rfl (by decide +kernel) ⟨Nat.le_of_ble_eq_true rfl, Nat.le_of_ble_eq_true rfl⟩) rfl rfl hl.1 (Nat.le_of_ble_eq_true rfl) dX3_pullWord_24 (fun H locs w => ?_)
  exact k_Pr_pullWord_27 C w (lv_sub hl [1, 0] rfl)
def F_Pr_pullWord (mu : Mu) : Int32 × Mu := F_Pr_pullWord_13 ((F_Bu_read ((mu 9 6) + 1) mu).1) ((F_Bu_read ((mu 9 6) + 1) mu).2)
set_option maxHeartbeats 4000000 in
set_option maxRecDepth 100000 in
theorem k_Pr_pullWord (C : Cx cX3_pullWord 3 (some .int) wsX3_pullWord RX3 A D cA tb p s m args meth c) {mu nu : Mu} {H : Heap} {locs : List Loc} {ls : Array Slot} (w : Wd A D cA ad s mu nu H locs) (hl : lv_has ls 3 [(0, .ref (ad 9))]) : W p l e { frames := 3, cells := 0, slots := 0, locals := 64 } s m args below meth c H locs 0 0 (QI A D cA ad below args s (F_Pr_pullWord mu).1 (F_Pr_pullWord mu).2 nu) (F0 m 0 ls []) := by
  have hx := C.1
  have hb := C.2.1
  have hts := C.2.2.2.2.2.1
  have hown := C.2.2.2.2.1
  unfold F_Pr_pullWord
  refine lv_aload_n hx hb dX3_pullWord_0 rfl (lv_at hl 0 rfl) ?_
  refine gt_9_0 C (fun _ h => List.mem_cons_of_mem _ (List.mem_append_left _ (List.mem_append_left _ (List.mem_append_left _ (List.mem_append_right _ h))))) (hts _ (List.mem_of_getElem? (i := 1) rfl)) w dX3_pullWord_1 ?_
  refine lv_aload_n hx hb dX3_pullWord_4 rfl (lv_at hl 0 rfl) ?_
  refine gt_9_6 C (fun _ h => List.mem_cons_of_mem _ (List.mem_append_left _ (List.mem_append_left _ (List.mem_append_left _ (List.mem_append_right _ h))))) (hts _ (List.mem_of_getElem? (i := 2) rfl)) w (v := (mu 9 6)) rfl dX3_pullWord_5 ?_
  refine lv_iconst (v := 1) hx hb dX3_pullWord_8 (by decide) ?_
  refine lv_iadd hx hb dX3_pullWord_9 ?_
  refine kcI (k := 6) (ci := 1) (As := [.int (((mu 9 6) + 1))]) (rest := []) C w rfl rfl (c_Bu_read l A D cA tb ad mu nu ((mu 9 6) + 1)) (cwV 1 hts gX3_pullWord_X1_read rfl rfl rfl (by decide +kernel) ⟨Nat.le_of_ble_eq_true rfl, Nat.le_of_ble_eq_true rfl⟩) rfl rfl hl.1 (Nat.le_of_ble_eq_true rfl) dX3_pullWord_10 (fun H locs w => ?_)
  exact k_Pr_pullWord_13 C w (lv_sub hl [0] rfl)
set_option maxHeartbeats 4000000 in
set_option maxRecDepth 100000 in
theorem c_Pr_pullWord (l : Launch) (A : Nat → Prop) (D : va_G) (cA : Nat → ClassId) (tb : Nat) (ad : Nat → Nat) (mu nu : Mu) : Met l yX3_pullWord wsX3_pullWord ({ frames := 3, cells := 0, slots := 0, locals := 64 }) (va_Pc [.ref (ad 9)] (Pw A D cA tb ad mu nu)) (va_Qi (fun (r : Int32) (u : Mu × Mu) => r = (F_Pr_pullWord mu).1 ∧ u = ((F_Pr_pullWord mu).2, nu)) (Bw A D cA ad) A) 0 0 A := by
  refine Met.ofW (cc := cX3_pullWord) (maxL := 3) (ret := (some .int)) (by decide) rfl ?_
  intro p e s m args below meth c s₁ B hml hv
  obtain ⟨rfl, w0⟩ := hv
  have C : Cx cX3_pullWord 3 (some .int) wsX3_pullWord RX3 A D cA tb p s m _ meth c := ⟨B.exec, B.bytes, B.returns, hml, findClass_of_methodNamed B.named, atoms_spec (ws := wsX3_pullWord) B.pre, B.notSynchronized, w0.2.1, w0.2.2.2.1, w0.2.2.2.2⟩
  have hl := lv_entry ([.ref (ad 9)]) (n := 3) (Nat.le_of_ble_eq_true rfl)
  rw [lg_entry_eq]
  exact k_Pr_pullWord C w0.wd hl
def F_Pr_pullAll_40 (y1 : Int32) (mu : Mu) : Mu := (ps mu 9 7 y1)
set_option maxHeartbeats 4000000 in
set_option maxRecDepth 100000 in
theorem k_Pr_pullAll_40 (C : Cx cX3_pullAll 1 none wsX3_pullAll RX3 A D cA tb p s m args meth c) {mu nu : Mu} {y1 : Int32} {H : Heap} {locs : List Loc} {ls : Array Slot} (w : Wd A D cA ad s mu nu H locs) (hl : lv_has ls 1 []) : W p l e { frames := 4, cells := 0, slots := 0, locals := 86 } s m args below meth c H locs 0 0 (QV A D cA ad below args s (F_Pr_pullAll_40 y1 mu) nu) (F0 m 40 ls [.int y1, .ref (ad 9)]) := by
  have hx := C.1
  have hb := C.2.1
  have hts := C.2.2.2.2.2.1
  have hown := C.2.2.2.2.1
  unfold F_Pr_pullAll_40
  refine pt_9_7 C (fun _ h => List.mem_cons_of_mem _ (List.mem_append_left _ (List.mem_append_left _ (List.mem_append_left _ (List.mem_append_left _ (List.mem_append_right _ h)))))) (hts _ (List.mem_of_getElem? (i := 5) rfl)) w dX3_pullAll_40 (fun H locs w => ?_)
  exact retV C w dX3_pullAll_43
def F_Pr_pullAll_32 (y1 : Int32) (mu : Mu) : Mu := F_Pr_pullAll_40 ((F_Pr_pullWord (ps mu 9 5 y1)).1) ((F_Pr_pullWord (ps mu 9 5 y1)).2)
set_option maxHeartbeats 4000000 in
set_option maxRecDepth 100000 in
theorem k_Pr_pullAll_32 (C : Cx cX3_pullAll 1 none wsX3_pullAll RX3 A D cA tb p s m args meth c) {mu nu : Mu} {y1 : Int32} {H : Heap} {locs : List Loc} {ls : Array Slot} (w : Wd A D cA ad s mu nu H locs) (hl : lv_has ls 1 [(0, .ref (ad 9))]) : W p l e { frames := 4, cells := 0, slots := 0, locals := 86 } s m args below meth c H locs 0 0 (QV A D cA ad below args s (F_Pr_pullAll_32 y1 mu) nu) (F0 m 32 ls [.int y1, .ref (ad 9)]) := by
  have hx := C.1
  have hb := C.2.1
  have hts := C.2.2.2.2.2.1
  have hown := C.2.2.2.2.1
  unfold F_Pr_pullAll_32
  refine pt_9_5 C (fun _ h => List.mem_cons_of_mem _ (List.mem_append_left _ (List.mem_append_left _ (List.mem_append_left _ (List.mem_append_left _ (List.mem_append_right _ h)))))) (hts _ (List.mem_of_getElem? (i := 4) rfl)) w dX3_pullAll_32 (fun H locs w => ?_)
  refine lv_aload_n hx hb dX3_pullAll_35 rfl (lv_at hl 0 rfl) ?_
  refine lv_aload_n hx hb dX3_pullAll_36 rfl (lv_at hl 0 rfl) ?_
  refine kcI (k := 9) (ci := 3) (As := []) (rest := [.ref (ad 9)]) C w rfl rfl (c_Pr_pullWord l A D cA tb ad (ps mu 9 5 y1) nu) (cwV 0 hts gX3_pullAll_X3_pullWord rfl rfl rfl (by decide +kernel) ⟨Nat.le_of_ble_eq_true rfl, Nat.le_of_ble_eq_true rfl⟩) rfl rfl hl.1 (Nat.le_of_ble_eq_true rfl) dX3_pullAll_37 (fun H locs w => ?_)
  exact k_Pr_pullAll_40 C w (lv_sub hl [] rfl)
def F_Pr_pullAll_24 (y1 : Int32) (mu : Mu) : Mu := F_Pr_pullAll_32 ((F_Pr_pullWord (ps mu 9 3 y1)).1) ((F_Pr_pullWord (ps mu 9 3 y1)).2)
set_option maxHeartbeats 4000000 in
set_option maxRecDepth 100000 in
theorem k_Pr_pullAll_24 (C : Cx cX3_pullAll 1 none wsX3_pullAll RX3 A D cA tb p s m args meth c) {mu nu : Mu} {y1 : Int32} {H : Heap} {locs : List Loc} {ls : Array Slot} (w : Wd A D cA ad s mu nu H locs) (hl : lv_has ls 1 [(0, .ref (ad 9))]) : W p l e { frames := 4, cells := 0, slots := 0, locals := 86 } s m args below meth c H locs 0 0 (QV A D cA ad below args s (F_Pr_pullAll_24 y1 mu) nu) (F0 m 24 ls [.int y1, .ref (ad 9)]) := by
  have hx := C.1
  have hb := C.2.1
  have hts := C.2.2.2.2.2.1
  have hown := C.2.2.2.2.1
  unfold F_Pr_pullAll_24
  refine pt_9_3 C (fun _ h => List.mem_cons_of_mem _ (List.mem_append_left _ (List.mem_append_left _ (List.mem_append_left _ (List.mem_append_left _ (List.mem_append_right _ h)))))) (hts _ (List.mem_of_getElem? (i := 3) rfl)) w dX3_pullAll_24 (fun H locs w => ?_)
  refine lv_aload_n hx hb dX3_pullAll_27 rfl (lv_at hl 0 rfl) ?_
  refine lv_aload_n hx hb dX3_pullAll_28 rfl (lv_at hl 0 rfl) ?_
  refine kcI (k := 9) (ci := 3) (As := []) (rest := [.ref (ad 9)]) C w rfl rfl (c_Pr_pullWord l A D cA tb ad (ps mu 9 3 y1) nu) (cwV 0 hts gX3_pullAll_X3_pullWord rfl rfl rfl (by decide +kernel) ⟨Nat.le_of_ble_eq_true rfl, Nat.le_of_ble_eq_true rfl⟩) rfl rfl hl.1 (Nat.le_of_ble_eq_true rfl) dX3_pullAll_29 (fun H locs w => ?_)
  exact k_Pr_pullAll_32 C w (lv_sub hl [0] rfl)
def F_Pr_pullAll_16 (y1 : Int32) (mu : Mu) : Mu := F_Pr_pullAll_24 ((F_Pr_pull (ps mu 9 4 y1)).1) ((F_Pr_pull (ps mu 9 4 y1)).2)
set_option maxHeartbeats 4000000 in
set_option maxRecDepth 100000 in
theorem k_Pr_pullAll_16 (C : Cx cX3_pullAll 1 none wsX3_pullAll RX3 A D cA tb p s m args meth c) {mu nu : Mu} {y1 : Int32} {H : Heap} {locs : List Loc} {ls : Array Slot} (w : Wd A D cA ad s mu nu H locs) (hl : lv_has ls 1 [(0, .ref (ad 9))]) : W p l e { frames := 4, cells := 0, slots := 0, locals := 86 } s m args below meth c H locs 0 0 (QV A D cA ad below args s (F_Pr_pullAll_16 y1 mu) nu) (F0 m 16 ls [.int y1, .ref (ad 9)]) := by
  have hx := C.1
  have hb := C.2.1
  have hts := C.2.2.2.2.2.1
  have hown := C.2.2.2.2.1
  unfold F_Pr_pullAll_16
  refine pt_9_4 C (fun _ h => List.mem_cons_of_mem _ (List.mem_append_left _ (List.mem_append_left _ (List.mem_append_left _ (List.mem_append_left _ (List.mem_append_right _ h)))))) (hts _ (List.mem_of_getElem? (i := 2) rfl)) w dX3_pullAll_16 (fun H locs w => ?_)
  refine lv_aload_n hx hb dX3_pullAll_19 rfl (lv_at hl 0 rfl) ?_
  refine lv_aload_n hx hb dX3_pullAll_20 rfl (lv_at hl 0 rfl) ?_
  refine kcI (k := 9) (ci := 3) (As := []) (rest := [.ref (ad 9)]) C w rfl rfl (c_Pr_pull l A D cA tb ad (ps mu 9 4 y1) nu) (cwV 0 hts gX3_pullAll_X3_pull rfl rfl rfl (by decide +kernel) ⟨Nat.le_of_ble_eq_true rfl, Nat.le_of_ble_eq_true rfl⟩) rfl rfl hl.1 (Nat.le_of_ble_eq_true rfl) dX3_pullAll_21 (fun H locs w => ?_)
  exact k_Pr_pullAll_24 C w (lv_sub hl [0] rfl)
def F_Pr_pullAll_11 (mu : Mu) : Mu := F_Pr_pullAll_16 ((F_Pr_pull mu).1) ((F_Pr_pull mu).2)
set_option maxHeartbeats 4000000 in
set_option maxRecDepth 100000 in
theorem k_Pr_pullAll_11 (C : Cx cX3_pullAll 1 none wsX3_pullAll RX3 A D cA tb p s m args meth c) {mu nu : Mu} {H : Heap} {locs : List Loc} {ls : Array Slot} (w : Wd A D cA ad s mu nu H locs) (hl : lv_has ls 1 [(0, .ref (ad 9))]) : W p l e { frames := 4, cells := 0, slots := 0, locals := 86 } s m args below meth c H locs 0 0 (QV A D cA ad below args s (F_Pr_pullAll_11 mu) nu) (F0 m 11 ls []) := by
  have hx := C.1
  have hb := C.2.1
  have hts := C.2.2.2.2.2.1
  have hown := C.2.2.2.2.1
  unfold F_Pr_pullAll_11
  refine lv_aload_n hx hb dX3_pullAll_11 rfl (lv_at hl 0 rfl) ?_
  refine lv_aload_n hx hb dX3_pullAll_12 rfl (lv_at hl 0 rfl) ?_
  refine kcI (k := 9) (ci := 3) (As := []) (rest := [.ref (ad 9)]) C w rfl rfl (c_Pr_pull l A D cA tb ad mu nu) (cwV 0 hts gX3_pullAll_X3_pull rfl rfl rfl (by decide +kernel) ⟨Nat.le_of_ble_eq_true rfl, Nat.le_of_ble_eq_true rfl⟩) rfl rfl hl.1 (Nat.le_of_ble_eq_true rfl) dX3_pullAll_13 (fun H locs w => ?_)
  exact k_Pr_pullAll_16 C w (lv_sub hl [0] rfl)
def F_Pr_pullAll_8 (y1 : Int32) (mu : Mu) : Mu := F_Pr_pullAll_11 (F_Fl_takeByte y1 mu)
set_option maxHeartbeats 4000000 in
set_option maxRecDepth 100000 in
theorem k_Pr_pullAll_8 (C : Cx cX3_pullAll 1 none wsX3_pullAll RX3 A D cA tb p s m args meth c) {mu nu : Mu} {y1 : Int32} {H : Heap} {locs : List Loc} {ls : Array Slot} (w : Wd A D cA ad s mu nu H locs) (hl : lv_has ls 1 [(0, .ref (ad 9))]) : W p l e { frames := 4, cells := 0, slots := 0, locals := 86 } s m args below meth c H locs 0 0 (QV A D cA ad below args s (F_Pr_pullAll_8 y1 mu) nu) (F0 m 8 ls [.int y1, .ref (ad 10)]) := by
  have hx := C.1
  have hb := C.2.1
  have hts := C.2.2.2.2.2.1
  have hown := C.2.2.2.2.1
  unfold F_Pr_pullAll_8
  refine kcV (k := 10) (ci := 2) (As := [.int y1]) (rest := []) C w rfl rfl (c_Fl_takeByte l A D cA tb ad mu nu y1) (cwV 1 hts gX3_pullAll_X2_takeByte rfl rfl rfl (by decide +kernel) ⟨Nat.le_of_ble_eq_true rfl, Nat.le_of_ble_eq_true rfl⟩) rfl rfl hl.1 (Nat.le_of_ble_eq_true rfl) dX3_pullAll_8 (fun H locs w => ?_)
  exact k_Pr_pullAll_11 C w (lv_sub hl [0] rfl)
def F_Pr_pullAll (mu : Mu) : Mu := F_Pr_pullAll_8 ((F_Pr_pull mu).1) ((F_Pr_pull mu).2)
set_option maxHeartbeats 4000000 in
set_option maxRecDepth 100000 in
theorem k_Pr_pullAll (C : Cx cX3_pullAll 1 none wsX3_pullAll RX3 A D cA tb p s m args meth c) {mu nu : Mu} {H : Heap} {locs : List Loc} {ls : Array Slot} (w : Wd A D cA ad s mu nu H locs) (hl : lv_has ls 1 [(0, .ref (ad 9))]) : W p l e { frames := 4, cells := 0, slots := 0, locals := 86 } s m args below meth c H locs 0 0 (QV A D cA ad below args s (F_Pr_pullAll mu) nu) (F0 m 0 ls []) := by
  have hx := C.1
  have hb := C.2.1
  have hts := C.2.2.2.2.2.1
  have hown := C.2.2.2.2.1
  unfold F_Pr_pullAll
  refine lv_aload_n hx hb dX3_pullAll_0 rfl (lv_at hl 0 rfl) ?_
  refine gt_9_2 C (fun _ h => List.mem_cons_of_mem _ (List.mem_append_left _ (List.mem_append_left _ (List.mem_append_left _ (List.mem_append_left _ (List.mem_append_right _ h)))))) (hts _ (List.mem_of_getElem? (i := 1) rfl)) w dX3_pullAll_1 ?_
  refine lv_aload_n hx hb dX3_pullAll_4 rfl (lv_at hl 0 rfl) ?_
  refine kcI (k := 9) (ci := 3) (As := []) (rest := [.ref (ad 10)]) C w rfl rfl (c_Pr_pull l A D cA tb ad mu nu) (cwV 0 hts gX3_pullAll_X3_pull rfl rfl rfl (by decide +kernel) ⟨Nat.le_of_ble_eq_true rfl, Nat.le_of_ble_eq_true rfl⟩) rfl rfl hl.1 (Nat.le_of_ble_eq_true rfl) dX3_pullAll_5 (fun H locs w => ?_)
  exact k_Pr_pullAll_8 C w (lv_sub hl [0] rfl)
set_option maxHeartbeats 4000000 in
set_option maxRecDepth 100000 in
theorem c_Pr_pullAll (l : Launch) (A : Nat → Prop) (D : va_G) (cA : Nat → ClassId) (tb : Nat) (ad : Nat → Nat) (mu nu : Mu) : Met l yX3_pullAll wsX3_pullAll ({ frames := 4, cells := 0, slots := 0, locals := 86 }) (va_Pc [.ref (ad 9)] (Pw A D cA tb ad mu nu)) (va_Qv (fun (u : Mu × Mu) => u = (F_Pr_pullAll mu, nu)) (Bw A D cA ad) A) 0 0 A := by
  refine Met.ofW (cc := cX3_pullAll) (maxL := 1) (ret := none) (by decide) rfl ?_
  intro p e s m args below meth c s₁ B hml hv
  obtain ⟨rfl, w0⟩ := hv
  have C : Cx cX3_pullAll 1 none wsX3_pullAll RX3 A D cA tb p s m _ meth c := ⟨B.exec, B.bytes, B.returns, hml, findClass_of_methodNamed B.named, atoms_spec (ws := wsX3_pullAll) B.pre, B.notSynchronized, w0.2.1, w0.2.2.2.1, w0.2.2.2.2⟩
  have hl := lv_entry ([.ref (ad 9)]) (n := 1) (Nat.le_of_ble_eq_true rfl)
  rw [lg_entry_eq]
  exact k_Pr_pullAll C w0.wd hl
def F_Pr_doStack_117 (y1 : Int32) (mu : Mu) : Mu := (ps mu 9 3 y1)
set_option maxHeartbeats 4000000 in
set_option maxRecDepth 100000 in
theorem k_Pr_doStack_117 (C : Cx cX3_doStack 2 none wsX3_doStack RX3 A D cA tb p s m args meth c) {mu nu : Mu} {y1 : Int32} {H : Heap} {locs : List Loc} {ls : Array Slot} (w : Wd A D cA ad s mu nu H locs) (hl : lv_has ls 2 []) : W p l e { frames := 5, cells := 0, slots := 0, locals := 108 } s m args below meth c H locs 0 0 (QV A D cA ad below args s (F_Pr_doStack_117 y1 mu) nu) (F0 m 117 ls [.int y1, .ref (ad 9)]) := by
  have hx := C.1
  have hb := C.2.1
  have hts := C.2.2.2.2.2.1
  have hown := C.2.2.2.2.1
  unfold F_Pr_doStack_117
  refine pt_9_3 C (fun _ h => List.mem_cons_of_mem _ (List.mem_append_left _ (List.mem_append_left _ (List.mem_append_left _ (List.mem_append_left _ (List.mem_append_right _ h)))))) (hts _ (List.mem_of_getElem? (i := 4) rfl)) w dX3_doStack_117 (fun H locs w => ?_)
  refine lv_goto (tgt := 231) hx hb dX3_doStack_120 (by decide) ?_
  exact retV C w dX3_doStack_231
def F_Pr_doStack_128 (y1 : Int32) (mu : Mu) : Mu := (ps mu 9 4 y1)
set_option maxHeartbeats 4000000 in
set_option maxRecDepth 100000 in
theorem k_Pr_doStack_128 (C : Cx cX3_doStack 2 none wsX3_doStack RX3 A D cA tb p s m args meth c) {mu nu : Mu} {y1 : Int32} {H : Heap} {locs : List Loc} {ls : Array Slot} (w : Wd A D cA ad s mu nu H locs) (hl : lv_has ls 2 []) : W p l e { frames := 5, cells := 0, slots := 0, locals := 108 } s m args below meth c H locs 0 0 (QV A D cA ad below args s (F_Pr_doStack_128 y1 mu) nu) (F0 m 128 ls [.int y1, .ref (ad 9)]) := by
  have hx := C.1
  have hb := C.2.1
  have hts := C.2.2.2.2.2.1
  have hown := C.2.2.2.2.1
  unfold F_Pr_doStack_128
  refine pt_9_4 C (fun _ h => List.mem_cons_of_mem _ (List.mem_append_left _ (List.mem_append_left _ (List.mem_append_left _ (List.mem_append_left _ (List.mem_append_right _ h)))))) (hts _ (List.mem_of_getElem? (i := 5) rfl)) w dX3_doStack_128 (fun H locs w => ?_)
  refine lv_goto (tgt := 231) hx hb dX3_doStack_131 (by decide) ?_
  exact retV C w dX3_doStack_231
def F_Pr_doStack_193 (y1 : Int32) (mu : Mu) : Mu := (ps mu 9 7 y1)
set_option maxHeartbeats 4000000 in
set_option maxRecDepth 100000 in
theorem k_Pr_doStack_193 (C : Cx cX3_doStack 2 none wsX3_doStack RX3 A D cA tb p s m args meth c) {mu nu : Mu} {y1 : Int32} {H : Heap} {locs : List Loc} {ls : Array Slot} (w : Wd A D cA ad s mu nu H locs) (hl : lv_has ls 2 []) : W p l e { frames := 5, cells := 0, slots := 0, locals := 108 } s m args below meth c H locs 0 0 (QV A D cA ad below args s (F_Pr_doStack_193 y1 mu) nu) (F0 m 193 ls [.int y1, .ref (ad 9)]) := by
  have hx := C.1
  have hb := C.2.1
  have hts := C.2.2.2.2.2.1
  have hown := C.2.2.2.2.1
  unfold F_Pr_doStack_193
  refine pt_9_7 C (fun _ h => List.mem_cons_of_mem _ (List.mem_append_left _ (List.mem_append_left _ (List.mem_append_left _ (List.mem_append_left _ (List.mem_append_right _ h)))))) (hts _ (List.mem_of_getElem? (i := 6) rfl)) w dX3_doStack_193 (fun H locs w => ?_)
  refine lv_goto (tgt := 231) hx hb dX3_doStack_196 (by decide) ?_
  exact retV C w dX3_doStack_231
def F_Pr_doStack_210 (mu : Mu) : Mu := (ps mu 9 8 1)
set_option maxHeartbeats 4000000 in
set_option maxRecDepth 100000 in
theorem k_Pr_doStack_210 (C : Cx cX3_doStack 2 none wsX3_doStack RX3 A D cA tb p s m args meth c) {mu nu : Mu} {H : Heap} {locs : List Loc} {ls : Array Slot} (w : Wd A D cA ad s mu nu H locs) (hl : lv_has ls 2 [(0, .ref (ad 9))]) : W p l e { frames := 5, cells := 0, slots := 0, locals := 108 } s m args below meth c H locs 0 0 (QV A D cA ad below args s (F_Pr_doStack_210 mu) nu) (F0 m 210 ls []) := by
  have hx := C.1
  have hb := C.2.1
  have hts := C.2.2.2.2.2.1
  have hown := C.2.2.2.2.1
  unfold F_Pr_doStack_210
  refine lv_aload_n hx hb dX3_doStack_210 rfl (lv_at hl 0 rfl) ?_
  refine lv_iconst (v := 1) hx hb dX3_doStack_211 (by decide) ?_
  refine pt_9_8 C (fun _ h => List.mem_cons_of_mem _ (List.mem_append_left _ (List.mem_append_left _ (List.mem_append_left _ (List.mem_append_left _ (List.mem_append_right _ h)))))) (hts _ (List.mem_of_getElem? (i := 7) rfl)) w (Or.inr rfl) dX3_doStack_212 (fun H locs w => ?_)
  refine lv_goto (tgt := 231) hx hb dX3_doStack_215 (by decide) ?_
  exact retV C w dX3_doStack_231
def F_Pr_doStack_222 (mu : Mu) : Mu := (F_Pr_goThrough 65530 mu)
set_option maxHeartbeats 4000000 in
set_option maxRecDepth 100000 in
theorem k_Pr_doStack_222 (C : Cx cX3_doStack 2 none wsX3_doStack RX3 A D cA tb p s m args meth c) {mu nu : Mu} {H : Heap} {locs : List Loc} {ls : Array Slot} (w : Wd A D cA ad s mu nu H locs) (hl : lv_has ls 2 [(0, .ref (ad 9))]) : W p l e { frames := 5, cells := 0, slots := 0, locals := 108 } s m args below meth c H locs 0 0 (QV A D cA ad below args s (F_Pr_doStack_222 mu) nu) (F0 m 222 ls []) := by
  have hx := C.1
  have hb := C.2.1
  have hts := C.2.2.2.2.2.1
  have hown := C.2.2.2.2.1
  unfold F_Pr_doStack_222
  refine lv_aload_n hx hb dX3_doStack_222 rfl (lv_at hl 0 rfl) ?_
  refine lv_ldc (v := 65530) hx hb hown (hts _ (List.mem_of_getElem? (i := 8) rfl)) dX3_doStack_223 ?_
  refine kcV (k := 9) (ci := 3) (As := [.int 65530]) (rest := []) C w rfl rfl (c_Pr_goThrough l A D cA tb ad mu nu 65530) (cwV 1 hts gX3_doStack_X3_goThrough rfl rfl rfl (by decide +kernel) ⟨Nat.le_of_ble_eq_true rfl, Nat.le_of_ble_eq_true rfl⟩) rfl rfl hl.1 (Nat.le_of_ble_eq_true rfl) dX3_doStack_225 (fun H locs w => ?_)
  refine lv_goto (tgt := 231) hx hb dX3_doStack_228 (by decide) ?_
  exact retV C w dX3_doStack_231
def F_Pr_doStack (x1 : Int32) (mu : Mu) : Mu := (if x1 = 48 then (ps mu 9 5 (((mu 9 6) + 1) &&& 65535)) else (if x1 = 49 then (ps mu 9 6 (((mu 9 6) + 1) &&& 65535)) else (if x1 = 50 then F_Pr_doStack_117 ((F_Pr_pull mu).1) ((F_Pr_pull mu).2) else (if x1 = 51 then F_Pr_doStack_128 ((F_Pr_pull mu).1) ((F_Pr_pull mu).2) else (if x1 = 52 then (ps mu 9 6 (((mu 9 6) - 1) &&& 65535)) else (if x1 = 53 then (ps mu 9 6 (((mu 9 5) - 1) &&& 65535)) else (if x1 = 54 then (F_Pr_push (mu 9 3) mu) else (if x1 = 55 then (F_Pr_push (mu 9 4) mu) else (if x1 = 56 then mu else (if x1 = 57 then F_Pr_doStack_193 ((F_Pr_pullWord mu).1) ((F_Pr_pullWord mu).2) else (if x1 = 58 then mu else (if x1 = 59 then (F_Pr_pullAll mu) else (if x1 = 60 then mu else (if x1 = 61 then mu else (if x1 = 62 then F_Pr_doStack_210 (F_Pr_pushAll mu) else (if x1 = 63 then F_Pr_doStack_222 (F_Pr_pushAll mu) else mu))))))))))))))))
set_option maxHeartbeats 4000000 in
set_option maxRecDepth 100000 in
theorem k_Pr_doStack (C : Cx cX3_doStack 2 none wsX3_doStack RX3 A D cA tb p s m args meth c) {mu nu : Mu} {x1 : Int32} {H : Heap} {locs : List Loc} {ls : Array Slot} (w : Wd A D cA ad s mu nu H locs) (hl : lv_has ls 2 [(0, .ref (ad 9)), (1, .int x1)]) : W p l e { frames := 5, cells := 0, slots := 0, locals := 108 } s m args below meth c H locs 0 0 (QV A D cA ad below args s (F_Pr_doStack x1 mu) nu) (F0 m 0 ls []) := by
  have hx := C.1
  have hb := C.2.1
  have hts := C.2.2.2.2.2.1
  have hown := C.2.2.2.2.1
  unfold F_Pr_doStack
  refine lv_iload_n hx hb dX3_doStack_0 rfl (lv_at hl 1 rfl) ?_
  by_cases h1_48 : x1 = (48 : Int32)
  · rw [if_pos h1_48]
    refine lv_tableIn (off := 79) (tgt := 80) hx hb dX3_doStack_1 (by rw [h1_48]; decide) (by rw [h1_48]; decide) (by rw [h1_48]; decide) (by decide) ?_
    refine lv_aload_n hx hb dX3_doStack_80 rfl (lv_at hl 0 rfl) ?_
    refine lv_aload_n hx hb dX3_doStack_81 rfl (lv_at hl 0 rfl) ?_
    refine gt_9_6 C (fun _ h => List.mem_cons_of_mem _ (List.mem_append_left _ (List.mem_append_left _ (List.mem_append_left _ (List.mem_append_left _ (List.mem_append_right _ h)))))) (hts _ (List.mem_of_getElem? (i := 1) rfl)) w (v := (mu 9 6)) rfl dX3_doStack_82 ?_
    refine lv_iconst (v := 1) hx hb dX3_doStack_85 (by decide) ?_
    refine lv_iadd hx hb dX3_doStack_86 ?_
    refine lv_ldc (v := 65535) hx hb hown (hts _ (List.mem_of_getElem? (i := 2) rfl)) dX3_doStack_87 ?_
    refine lv_iand hx hb dX3_doStack_89 ?_
    refine pt_9_5 C (fun _ h => List.mem_cons_of_mem _ (List.mem_append_left _ (List.mem_append_left _ (List.mem_append_left _ (List.mem_append_left _ (List.mem_append_right _ h)))))) (hts _ (List.mem_of_getElem? (i := 3) rfl)) w dX3_doStack_90 (fun H locs w => ?_)
    refine lv_goto (tgt := 231) hx hb dX3_doStack_93 (by decide) ?_
    exact retV C w dX3_doStack_231
  · rw [if_neg h1_48]
    by_cases h1_49 : x1 = (49 : Int32)
    · rw [if_pos h1_49]
      refine lv_tableIn (off := 95) (tgt := 96) hx hb dX3_doStack_1 (by rw [h1_49]; decide) (by rw [h1_49]; decide) (by rw [h1_49]; decide) (by decide) ?_
      refine lv_aload_n hx hb dX3_doStack_96 rfl (lv_at hl 0 rfl) ?_
      refine lv_aload_n hx hb dX3_doStack_97 rfl (lv_at hl 0 rfl) ?_
      refine gt_9_6 C (fun _ h => List.mem_cons_of_mem _ (List.mem_append_left _ (List.mem_append_left _ (List.mem_append_left _ (List.mem_append_left _ (List.mem_append_right _ h)))))) (hts _ (List.mem_of_getElem? (i := 1) rfl)) w (v := (mu 9 6)) rfl dX3_doStack_98 ?_
      refine lv_iconst (v := 1) hx hb dX3_doStack_101 (by decide) ?_
      refine lv_iadd hx hb dX3_doStack_102 ?_
      refine lv_ldc (v := 65535) hx hb hown (hts _ (List.mem_of_getElem? (i := 2) rfl)) dX3_doStack_103 ?_
      refine lv_iand hx hb dX3_doStack_105 ?_
      refine pt_9_6 C (fun _ h => List.mem_cons_of_mem _ (List.mem_append_left _ (List.mem_append_left _ (List.mem_append_left _ (List.mem_append_left _ (List.mem_append_right _ h)))))) (hts _ (List.mem_of_getElem? (i := 1) rfl)) w dX3_doStack_106 (fun H locs w => ?_)
      refine lv_goto (tgt := 231) hx hb dX3_doStack_109 (by decide) ?_
      exact retV C w dX3_doStack_231
    · rw [if_neg h1_49]
      by_cases h1_50 : x1 = (50 : Int32)
      · rw [if_pos h1_50]
        refine lv_tableIn (off := 111) (tgt := 112) hx hb dX3_doStack_1 (by rw [h1_50]; decide) (by rw [h1_50]; decide) (by rw [h1_50]; decide) (by decide) ?_
        refine lv_aload_n hx hb dX3_doStack_112 rfl (lv_at hl 0 rfl) ?_
        refine lv_aload_n hx hb dX3_doStack_113 rfl (lv_at hl 0 rfl) ?_
        refine kcI (k := 9) (ci := 3) (As := []) (rest := [.ref (ad 9)]) C w rfl rfl (c_Pr_pull l A D cA tb ad mu nu) (cwV 0 hts gX3_doStack_X3_pull rfl rfl rfl (by decide +kernel) ⟨Nat.le_of_ble_eq_true rfl, Nat.le_of_ble_eq_true rfl⟩) rfl rfl hl.1 (Nat.le_of_ble_eq_true rfl) dX3_doStack_114 (fun H locs w => ?_)
        exact k_Pr_doStack_117 C w (lv_sub hl [] rfl)
      · rw [if_neg h1_50]
        by_cases h1_51 : x1 = (51 : Int32)
        · rw [if_pos h1_51]
          refine lv_tableIn (off := 122) (tgt := 123) hx hb dX3_doStack_1 (by rw [h1_51]; decide) (by rw [h1_51]; decide) (by rw [h1_51]; decide) (by decide) ?_
          refine lv_aload_n hx hb dX3_doStack_123 rfl (lv_at hl 0 rfl) ?_
          refine lv_aload_n hx hb dX3_doStack_124 rfl (lv_at hl 0 rfl) ?_
          refine kcI (k := 9) (ci := 3) (As := []) (rest := [.ref (ad 9)]) C w rfl rfl (c_Pr_pull l A D cA tb ad mu nu) (cwV 0 hts gX3_doStack_X3_pull rfl rfl rfl (by decide +kernel) ⟨Nat.le_of_ble_eq_true rfl, Nat.le_of_ble_eq_true rfl⟩) rfl rfl hl.1 (Nat.le_of_ble_eq_true rfl) dX3_doStack_125 (fun H locs w => ?_)
          exact k_Pr_doStack_128 C w (lv_sub hl [] rfl)
        · rw [if_neg h1_51]
          by_cases h1_52 : x1 = (52 : Int32)
          · rw [if_pos h1_52]
            refine lv_tableIn (off := 133) (tgt := 134) hx hb dX3_doStack_1 (by rw [h1_52]; decide) (by rw [h1_52]; decide) (by rw [h1_52]; decide) (by decide) ?_
            refine lv_aload_n hx hb dX3_doStack_134 rfl (lv_at hl 0 rfl) ?_
            refine lv_aload_n hx hb dX3_doStack_135 rfl (lv_at hl 0 rfl) ?_
            refine gt_9_6 C (fun _ h => List.mem_cons_of_mem _ (List.mem_append_left _ (List.mem_append_left _ (List.mem_append_left _ (List.mem_append_left _ (List.mem_append_right _ h)))))) (hts _ (List.mem_of_getElem? (i := 1) rfl)) w (v := (mu 9 6)) rfl dX3_doStack_136 ?_
            refine lv_iconst (v := 1) hx hb dX3_doStack_139 (by decide) ?_
            refine lv_isub hx hb dX3_doStack_140 ?_
            refine lv_ldc (v := 65535) hx hb hown (hts _ (List.mem_of_getElem? (i := 2) rfl)) dX3_doStack_141 ?_
            refine lv_iand hx hb dX3_doStack_143 ?_
            refine pt_9_6 C (fun _ h => List.mem_cons_of_mem _ (List.mem_append_left _ (List.mem_append_left _ (List.mem_append_left _ (List.mem_append_left _ (List.mem_append_right _ h)))))) (hts _ (List.mem_of_getElem? (i := 1) rfl)) w dX3_doStack_144 (fun H locs w => ?_)
            refine lv_goto (tgt := 231) hx hb dX3_doStack_147 (by decide) ?_
            exact retV C w dX3_doStack_231
          · rw [if_neg h1_52]
            by_cases h1_53 : x1 = (53 : Int32)
            · rw [if_pos h1_53]
              refine lv_tableIn (off := 149) (tgt := 150) hx hb dX3_doStack_1 (by rw [h1_53]; decide) (by rw [h1_53]; decide) (by rw [h1_53]; decide) (by decide) ?_
              refine lv_aload_n hx hb dX3_doStack_150 rfl (lv_at hl 0 rfl) ?_
              refine lv_aload_n hx hb dX3_doStack_151 rfl (lv_at hl 0 rfl) ?_
              refine gt_9_5 C (fun _ h => List.mem_cons_of_mem _ (List.mem_append_left _ (List.mem_append_left _ (List.mem_append_left _ (List.mem_append_left _ (List.mem_append_right _ h)))))) (hts _ (List.mem_of_getElem? (i := 3) rfl)) w (v := (mu 9 5)) rfl dX3_doStack_152 ?_
              refine lv_iconst (v := 1) hx hb dX3_doStack_155 (by decide) ?_
              refine lv_isub hx hb dX3_doStack_156 ?_
              refine lv_ldc (v := 65535) hx hb hown (hts _ (List.mem_of_getElem? (i := 2) rfl)) dX3_doStack_157 ?_
              refine lv_iand hx hb dX3_doStack_159 ?_
              refine pt_9_6 C (fun _ h => List.mem_cons_of_mem _ (List.mem_append_left _ (List.mem_append_left _ (List.mem_append_left _ (List.mem_append_left _ (List.mem_append_right _ h)))))) (hts _ (List.mem_of_getElem? (i := 1) rfl)) w dX3_doStack_160 (fun H locs w => ?_)
              refine lv_goto (tgt := 231) hx hb dX3_doStack_163 (by decide) ?_
              exact retV C w dX3_doStack_231
            · rw [if_neg h1_53]
              by_cases h1_54 : x1 = (54 : Int32)
              · rw [if_pos h1_54]
                refine lv_tableIn (off := 165) (tgt := 166) hx hb dX3_doStack_1 (by rw [h1_54]; decide) (by rw [h1_54]; decide) (by rw [h1_54]; decide) (by decide) ?_
                refine lv_aload_n hx hb dX3_doStack_166 rfl (lv_at hl 0 rfl) ?_
                refine lv_aload_n hx hb dX3_doStack_167 rfl (lv_at hl 0 rfl) ?_
                refine gt_9_3 C (fun _ h => List.mem_cons_of_mem _ (List.mem_append_left _ (List.mem_append_left _ (List.mem_append_left _ (List.mem_append_left _ (List.mem_append_right _ h)))))) (hts _ (List.mem_of_getElem? (i := 4) rfl)) w (v := (mu 9 3)) rfl dX3_doStack_168 ?_
                refine kcV (k := 9) (ci := 3) (As := [.int ((mu 9 3))]) (rest := []) C w rfl rfl (c_Pr_push l A D cA tb ad mu nu (mu 9 3)) (cwV 1 hts gX3_doStack_X3_push rfl rfl rfl (by decide +kernel) ⟨Nat.le_of_ble_eq_true rfl, Nat.le_of_ble_eq_true rfl⟩) rfl rfl hl.1 (Nat.le_of_ble_eq_true rfl) dX3_doStack_171 (fun H locs w => ?_)
                refine lv_goto (tgt := 231) hx hb dX3_doStack_174 (by decide) ?_
                exact retV C w dX3_doStack_231
              · rw [if_neg h1_54]
                by_cases h1_55 : x1 = (55 : Int32)
                · rw [if_pos h1_55]
                  refine lv_tableIn (off := 176) (tgt := 177) hx hb dX3_doStack_1 (by rw [h1_55]; decide) (by rw [h1_55]; decide) (by rw [h1_55]; decide) (by decide) ?_
                  refine lv_aload_n hx hb dX3_doStack_177 rfl (lv_at hl 0 rfl) ?_
                  refine lv_aload_n hx hb dX3_doStack_178 rfl (lv_at hl 0 rfl) ?_
                  refine gt_9_4 C (fun _ h => List.mem_cons_of_mem _ (List.mem_append_left _ (List.mem_append_left _ (List.mem_append_left _ (List.mem_append_left _ (List.mem_append_right _ h)))))) (hts _ (List.mem_of_getElem? (i := 5) rfl)) w (v := (mu 9 4)) rfl dX3_doStack_179 ?_
                  refine kcV (k := 9) (ci := 3) (As := [.int ((mu 9 4))]) (rest := []) C w rfl rfl (c_Pr_push l A D cA tb ad mu nu (mu 9 4)) (cwV 1 hts gX3_doStack_X3_push rfl rfl rfl (by decide +kernel) ⟨Nat.le_of_ble_eq_true rfl, Nat.le_of_ble_eq_true rfl⟩) rfl rfl hl.1 (Nat.le_of_ble_eq_true rfl) dX3_doStack_182 (fun H locs w => ?_)
                  refine lv_goto (tgt := 231) hx hb dX3_doStack_185 (by decide) ?_
                  exact retV C w dX3_doStack_231
                · rw [if_neg h1_55]
                  by_cases h1_56 : x1 = (56 : Int32)
                  · rw [if_pos h1_56]
                    refine lv_tableIn (off := 230) (tgt := 231) hx hb dX3_doStack_1 (by rw [h1_56]; decide) (by rw [h1_56]; decide) (by rw [h1_56]; decide) (by decide) ?_
                    exact retV C w dX3_doStack_231
                  · rw [if_neg h1_56]
                    by_cases h1_57 : x1 = (57 : Int32)
                    · rw [if_pos h1_57]
                      refine lv_tableIn (off := 187) (tgt := 188) hx hb dX3_doStack_1 (by rw [h1_57]; decide) (by rw [h1_57]; decide) (by rw [h1_57]; decide) (by decide) ?_
                      refine lv_aload_n hx hb dX3_doStack_188 rfl (lv_at hl 0 rfl) ?_
                      refine lv_aload_n hx hb dX3_doStack_189 rfl (lv_at hl 0 rfl) ?_
                      refine kcI (k := 9) (ci := 3) (As := []) (rest := [.ref (ad 9)]) C w rfl rfl (c_Pr_pullWord l A D cA tb ad mu nu) (cwV 0 hts gX3_doStack_X3_pullWord rfl rfl rfl (by decide +kernel) ⟨Nat.le_of_ble_eq_true rfl, Nat.le_of_ble_eq_true rfl⟩) rfl rfl hl.1 (Nat.le_of_ble_eq_true rfl) dX3_doStack_190 (fun H locs w => ?_)
                      exact k_Pr_doStack_193 C w (lv_sub hl [] rfl)
                    · rw [if_neg h1_57]
                      by_cases h1_58 : x1 = (58 : Int32)
                      · rw [if_pos h1_58]
                        refine lv_tableIn (off := 230) (tgt := 231) hx hb dX3_doStack_1 (by rw [h1_58]; decide) (by rw [h1_58]; decide) (by rw [h1_58]; decide) (by decide) ?_
                        exact retV C w dX3_doStack_231
                      · rw [if_neg h1_58]
                        by_cases h1_59 : x1 = (59 : Int32)
                        · rw [if_pos h1_59]
                          refine lv_tableIn (off := 198) (tgt := 199) hx hb dX3_doStack_1 (by rw [h1_59]; decide) (by rw [h1_59]; decide) (by rw [h1_59]; decide) (by decide) ?_
                          refine lv_aload_n hx hb dX3_doStack_199 rfl (lv_at hl 0 rfl) ?_
                          refine kcV (k := 9) (ci := 3) (As := []) (rest := []) C w rfl rfl (c_Pr_pullAll l A D cA tb ad mu nu) (cwV 0 hts gX3_doStack_X3_pullAll rfl rfl rfl (by decide +kernel) ⟨Nat.le_of_ble_eq_true rfl, Nat.le_of_ble_eq_true rfl⟩) rfl rfl hl.1 (Nat.le_of_ble_eq_true rfl) dX3_doStack_200 (fun H locs w => ?_)
                          refine lv_goto (tgt := 231) hx hb dX3_doStack_203 (by decide) ?_
                          exact retV C w dX3_doStack_231
                        · rw [if_neg h1_59]
                          by_cases h1_60 : x1 = (60 : Int32)
                          · rw [if_pos h1_60]
                            refine lv_tableIn (off := 230) (tgt := 231) hx hb dX3_doStack_1 (by rw [h1_60]; decide) (by rw [h1_60]; decide) (by rw [h1_60]; decide) (by decide) ?_
                            exact retV C w dX3_doStack_231
                          · rw [if_neg h1_60]
                            by_cases h1_61 : x1 = (61 : Int32)
                            · rw [if_pos h1_61]
                              refine lv_tableIn (off := 230) (tgt := 231) hx hb dX3_doStack_1 (by rw [h1_61]; decide) (by rw [h1_61]; decide) (by rw [h1_61]; decide) (by decide) ?_
                              exact retV C w dX3_doStack_231
                            · rw [if_neg h1_61]
                              by_cases h1_62 : x1 = (62 : Int32)
                              · rw [if_pos h1_62]
                                refine lv_tableIn (off := 205) (tgt := 206) hx hb dX3_doStack_1 (by rw [h1_62]; decide) (by rw [h1_62]; decide) (by rw [h1_62]; decide) (by decide) ?_
                                refine lv_aload_n hx hb dX3_doStack_206 rfl (lv_at hl 0 rfl) ?_
                                refine kcV (k := 9) (ci := 3) (As := []) (rest := []) C w rfl rfl (c_Pr_pushAll l A D cA tb ad mu nu) (cwV 0 hts gX3_doStack_X3_pushAll rfl rfl rfl (by decide +kernel) ⟨Nat.le_of_ble_eq_true rfl, Nat.le_of_ble_eq_true rfl⟩) rfl rfl hl.1 (Nat.le_of_ble_eq_true rfl) dX3_doStack_207 (fun H locs w => ?_)
                                exact k_Pr_doStack_210 C w (lv_sub hl [0] rfl)
                              · rw [if_neg h1_62]
                                by_cases h1_63 : x1 = (63 : Int32)
                                · rw [if_pos h1_63]
                                  refine lv_tableIn (off := 217) (tgt := 218) hx hb dX3_doStack_1 (by rw [h1_63]; decide) (by rw [h1_63]; decide) (by rw [h1_63]; decide) (by decide) ?_
                                  refine lv_aload_n hx hb dX3_doStack_218 rfl (lv_at hl 0 rfl) ?_
                                  refine kcV (k := 9) (ci := 3) (As := []) (rest := []) C w rfl rfl (c_Pr_pushAll l A D cA tb ad mu nu) (cwV 0 hts gX3_doStack_X3_pushAll rfl rfl rfl (by decide +kernel) ⟨Nat.le_of_ble_eq_true rfl, Nat.le_of_ble_eq_true rfl⟩) rfl rfl hl.1 (Nat.le_of_ble_eq_true rfl) dX3_doStack_219 (fun H locs w => ?_)
                                  exact k_Pr_doStack_222 C w (lv_sub hl [0] rfl)
                                · rw [if_neg h1_63]
                                  refine lv_tableOut (tgt := 231) hx hb dX3_doStack_1 (by have := lv_neT h1_48 (a := 48) rfl; have := lv_neT h1_49 (a := 49) rfl; have := lv_neT h1_50 (a := 50) rfl; have := lv_neT h1_51 (a := 51) rfl; have := lv_neT h1_52 (a := 52) rfl; have := lv_neT h1_53 (a := 53) rfl; have := lv_neT h1_54 (a := 54) rfl; have := lv_neT h1_55 (a := 55) rfl; have := lv_neT h1_56 (a := 56) rfl; have := lv_neT h1_57 (a := 57) rfl; have := lv_neT h1_58 (a := 58) rfl; have := lv_neT h1_59 (a := 59) rfl; have := lv_neT h1_60 (a := 60) rfl; have := lv_neT h1_61 (a := 61) rfl; have := lv_neT h1_62 (a := 62) rfl; have := lv_neT h1_63 (a := 63) rfl; omega) (by decide) ?_
                                  exact retV C w dX3_doStack_231
set_option maxHeartbeats 4000000 in
set_option maxRecDepth 100000 in
theorem c_Pr_doStack (l : Launch) (A : Nat → Prop) (D : va_G) (cA : Nat → ClassId) (tb : Nat) (ad : Nat → Nat) (mu nu : Mu) (x1 : Int32) : Met l yX3_doStack wsX3_doStack ({ frames := 5, cells := 0, slots := 0, locals := 108 }) (va_Pc [.ref (ad 9), .int x1] (Pw A D cA tb ad mu nu)) (va_Qv (fun (u : Mu × Mu) => u = (F_Pr_doStack x1 mu, nu)) (Bw A D cA ad) A) 0 0 A := by
  refine Met.ofW (cc := cX3_doStack) (maxL := 2) (ret := none) (by decide) rfl ?_
  intro p e s m args below meth c s₁ B hml hv
  obtain ⟨rfl, w0⟩ := hv
  have C : Cx cX3_doStack 2 none wsX3_doStack RX3 A D cA tb p s m _ meth c := ⟨B.exec, B.bytes, B.returns, hml, findClass_of_methodNamed B.named, atoms_spec (ws := wsX3_doStack) B.pre, B.notSynchronized, w0.2.1, w0.2.2.2.1, w0.2.2.2.2⟩
  have hl := lv_entry ([.ref (ad 9), .int x1]) (n := 2) (Nat.le_of_ble_eq_true rfl)
  rw [lg_entry_eq]
  exact k_Pr_doStack C w0.wd hl
end
