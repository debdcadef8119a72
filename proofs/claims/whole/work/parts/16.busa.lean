section
variable {p : Program} {l : Launch} {e : Env} {s : State} {m : MethodId} {args : Array Value} {below : List Frame} {meth : Method} {c : Code} 
variable {A : Nat → Prop} {D : va_G} {cA : Nat → ClassId} {tb : Nat} {ad : Nat → Nat}
def F_Bu_isFree (x1 : Int32) (mu : Mu) : Int32 := (if x1 < (0 : Int32) then 0 else (if (1024 : Int32) ≤ x1 then 0 else 1))
set_option maxHeartbeats 4000000 in
set_option maxRecDepth 100000 in
theorem k_Bu_isFree (C : Cx cX1_isFree 2 (some .boolean) wsX1_isFree RX1 A D cA tb p s m args meth c) {mu nu : Mu} {x1 : Int32} {H : Heap} {locs : List Loc} {ls : Array Slot} (w : Wd A D cA ad s mu nu H locs) (hl : lv_has ls 2 [(0, .ref (ad 6)), (1, .int x1)]) : W p l e { frames := 0, cells := 0, slots := 0, locals := 0 } s m args below meth c H locs 0 0 (QI A D cA ad below args s (F_Bu_isFree x1 mu) mu nu) (F0 m 0 ls []) := by
  have hx := C.1
  have hb := C.2.1
  have hts := C.2.2.2.2.2.1
  have hown := C.2.2.2.2.1
  unfold F_Bu_isFree
  refine lv_iload_n hx hb dX1_isFree_0 rfl (lv_at hl 1 rfl) ?_
  refine lv_if_lt (tgt := 15) hx hb dX1_isFree_1 (by decide) (fun h1 => ?_) (fun h1 => ?_)
  · rw [if_pos h1]
    refine lv_iconst (v := 0) hx hb dX1_isFree_15 (by decide) ?_
    exact retZ C w dX1_isFree_16 (Or.inl rfl)
  · rw [if_neg h1]
    refine lv_iload_n hx hb dX1_isFree_4 rfl (lv_at hl 1 rfl) ?_
    refine lv_sipush (v := 1024) hx hb dX1_isFree_5 (by decide) ?_
    refine lv_icmp_ge (tgt := 15) hx hb dX1_isFree_8 (by decide) (fun h8 => ?_) (fun h8 => ?_)
    · rw [if_pos h8]
      refine lv_iconst (v := 0) hx hb dX1_isFree_15 (by decide) ?_
      exact retZ C w dX1_isFree_16 (Or.inl rfl)
    · rw [if_neg h8]
      refine lv_iconst (v := 1) hx hb dX1_isFree_11 (by decide) ?_
      refine lv_goto (tgt := 16) hx hb dX1_isFree_12 (by decide) ?_
      exact retZ C w dX1_isFree_16 (Or.inr rfl)
set_option maxHeartbeats 4000000 in
set_option maxRecDepth 100000 in
theorem c_Bu_isFree (l : Launch) (A : Nat → Prop) (D : va_G) (cA : Nat → ClassId) (tb : Nat) (ad : Nat → Nat) (mu nu : Mu) (x1 : Int32) : Met l yX1_isFree wsX1_isFree ({ frames := 0, cells := 0, slots := 0, locals := 0 }) (va_Pc [.ref (ad 6), .int x1] (Pw A D cA tb ad mu nu)) (va_Qi (fun (r : Int32) (u : Mu × Mu) => r = F_Bu_isFree x1 mu ∧ u = (mu, nu)) (Bw A D cA ad) A) 0 0 A := by
  refine Met.ofW (cc := cX1_isFree) (maxL := 2) (ret := (some .boolean)) (by decide) rfl ?_
  intro p e s m args below meth c s₁ B hml hv
  obtain ⟨rfl, w0⟩ := hv
  have C : Cx cX1_isFree 2 (some .boolean) wsX1_isFree RX1 A D cA tb p s m _ meth c := ⟨B.exec, B.bytes, B.returns, hml, findClass_of_methodNamed B.named, atoms_spec (ws := wsX1_isFree) B.pre, B.notSynchronized, w0.2.1, w0.2.2.2.1, w0.2.2.2.2⟩
  have hl := lv_entry ([.ref (ad 6), .int x1]) (n := 2) (Nat.le_of_ble_eq_true rfl)
  rw [lg_entry_eq]
  exact k_Bu_isFree C w0.wd hl
theorem in_free {x : Int32} {mu : Mu} (h : ¬ F_Bu_isFree x mu = 0) : vp_in x 1024 := by
  unfold F_Bu_isFree at h
  by_cases h0 : x < 0
  · rw [if_pos h0] at h; exact absurd rfl h
  · rw [if_neg h0] at h
    by_cases h1 : 1024 ≤ x
    · rw [if_pos h1] at h; exact absurd rfl h
    · exact vin (c := 1024) (by decide) h0 h1
def F_Bu_isReadOnly (x1 : Int32) (mu : Mu) : Int32 := (if x1 < (64512 : Int32) then 0 else (if (65536 : Int32) ≤ x1 then 0 else 1))
set_option maxHeartbeats 4000000 in
set_option maxRecDepth 100000 in
theorem k_Bu_isReadOnly (C : Cx cX1_isReadOnly 2 (some .boolean) wsX1_isReadOnly RX1 A D cA tb p s m args meth c) {mu nu : Mu} {x1 : Int32} {H : Heap} {locs : List Loc} {ls : Array Slot} (w : Wd A D cA ad s mu nu H locs) (hl : lv_has ls 2 [(0, .ref (ad 6)), (1, .int x1)]) : W p l e { frames := 0, cells := 0, slots := 0, locals := 0 } s m args below meth c H locs 0 0 (QI A D cA ad below args s (F_Bu_isReadOnly x1 mu) mu nu) (F0 m 0 ls []) := by
  have hx := C.1
  have hb := C.2.1
  have hts := C.2.2.2.2.2.1
  have hown := C.2.2.2.2.1
  unfold F_Bu_isReadOnly
  refine lv_iload_n hx hb dX1_isReadOnly_0 rfl (lv_at hl 1 rfl) ?_
  refine lv_ldc (v := 64512) hx hb hown (hts _ (List.mem_of_getElem? (i := 1) rfl)) dX1_isReadOnly_1 ?_
  refine lv_icmp_lt (tgt := 16) hx hb dX1_isReadOnly_3 (by decide) (fun h3 => ?_) (fun h3 => ?_)
  · rw [if_pos h3]
    refine lv_iconst (v := 0) hx hb dX1_isReadOnly_16 (by decide) ?_
    exact retZ C w dX1_isReadOnly_17 (Or.inl rfl)
  · rw [if_neg h3]
    refine lv_iload_n hx hb dX1_isReadOnly_6 rfl (lv_at hl 1 rfl) ?_
    refine lv_ldc (v := 65536) hx hb hown (hts _ (List.mem_of_getElem? (i := 2) rfl)) dX1_isReadOnly_7 ?_
    refine lv_icmp_ge (tgt := 16) hx hb dX1_isReadOnly_9 (by decide) (fun h9 => ?_) (fun h9 => ?_)
    · rw [if_pos h9]
      refine lv_iconst (v := 0) hx hb dX1_isReadOnly_16 (by decide) ?_
      exact retZ C w dX1_isReadOnly_17 (Or.inl rfl)
    · rw [if_neg h9]
      refine lv_iconst (v := 1) hx hb dX1_isReadOnly_12 (by decide) ?_
      refine lv_goto (tgt := 17) hx hb dX1_isReadOnly_13 (by decide) ?_
      exact retZ C w dX1_isReadOnly_17 (Or.inr rfl)
set_option maxHeartbeats 4000000 in
set_option maxRecDepth 100000 in
theorem c_Bu_isReadOnly (l : Launch) (A : Nat → Prop) (D : va_G) (cA : Nat → ClassId) (tb : Nat) (ad : Nat → Nat) (mu nu : Mu) (x1 : Int32) : Met l yX1_isReadOnly wsX1_isReadOnly ({ frames := 0, cells := 0, slots := 0, locals := 0 }) (va_Pc [.ref (ad 6), .int x1] (Pw A D cA tb ad mu nu)) (va_Qi (fun (r : Int32) (u : Mu × Mu) => r = F_Bu_isReadOnly x1 mu ∧ u = (mu, nu)) (Bw A D cA ad) A) 0 0 A := by
  refine Met.ofW (cc := cX1_isReadOnly) (maxL := 2) (ret := (some .boolean)) (by decide) rfl ?_
  intro p e s m args below meth c s₁ B hml hv
  obtain ⟨rfl, w0⟩ := hv
  have C : Cx cX1_isReadOnly 2 (some .boolean) wsX1_isReadOnly RX1 A D cA tb p s m _ meth c := ⟨B.exec, B.bytes, B.returns, hml, findClass_of_methodNamed B.named, atoms_spec (ws := wsX1_isReadOnly) B.pre, B.notSynchronized, w0.2.1, w0.2.2.2.1, w0.2.2.2.2⟩
  have hl := lv_entry ([.ref (ad 6), .int x1]) (n := 2) (Nat.le_of_ble_eq_true rfl)
  rw [lg_entry_eq]
  exact k_Bu_isReadOnly C w0.wd hl
theorem in_ro {x : Int32} {mu : Mu} (h : ¬ F_Bu_isReadOnly x mu = 0) : vp_in (x - 64512) 1024 := by
  unfold F_Bu_isReadOnly at h
  by_cases h0 : x < 64512
  · rw [if_pos h0] at h; exact absurd rfl h
  · rw [if_neg h0] at h
    by_cases h1 : 65536 ≤ x
    · rw [if_pos h1] at h; exact absurd rfl h
    · exact vin_s (c := 64512) (d := 65536) (k := 64512) (by decide) (by decide) (by decide) h0 h1
def F_Bu_isMemory (x1 : Int32) (mu : Mu) : Int32 := (if (F_Bu_isFree x1 mu) = (0 : Int32) then (if (F_Bu_isReadOnly x1 mu) = (0 : Int32) then 0 else 1) else 1)
set_option maxHeartbeats 4000000 in
set_option maxRecDepth 100000 in
theorem k_Bu_isMemory (C : Cx cX1_isMemory 2 (some .boolean) wsX1_isMemory RX1 A D cA tb p s m args meth c) {mu nu : Mu} {x1 : Int32} {H : Heap} {locs : List Loc} {ls : Array Slot} (w : Wd A D cA ad s mu nu H locs) (hl : lv_has ls 2 [(0, .ref (ad 6)), (1, .int x1)]) : W p l e { frames := 1, cells := 0, slots := 0, locals := 21 } s m args below meth c H locs 0 0 (QI A D cA ad below args s (F_Bu_isMemory x1 mu) mu nu) (F0 m 0 ls []) := by
  have hx := C.1
  have hb := C.2.1
  have hts := C.2.2.2.2.2.1
  have hown := C.2.2.2.2.1
  unfold F_Bu_isMemory
  refine lv_aload_n hx hb dX1_isMemory_0 rfl (lv_at hl 0 rfl) ?_
  refine lv_iload_n hx hb dX1_isMemory_1 rfl (lv_at hl 1 rfl) ?_
  refine kcI (k := 6) (ci := 1) (As := [.int x1]) (rest := []) C w rfl rfl (c_Bu_isFree l A D cA tb ad mu nu x1) (cwV 1 hts gX1_isMemory_X1_isFree rfl rfl rfl (by decide +kernel) ⟨Nat.le_of_ble_eq_true rfl, Nat.le_of_ble_eq_true rfl⟩) rfl rfl hl.1 (Nat.le_of_ble_eq_true rfl) dX1_isMemory_2 (fun H locs w => ?_)
  refine lv_if_ne (tgt := 16) hx hb dX1_isMemory_5 (by decide) (fun h5 => ?_) (fun h5 => ?_)
  · rw [if_neg h5]
    refine lv_iconst (v := 1) hx hb dX1_isMemory_16 (by decide) ?_
    refine lv_goto (tgt := 21) hx hb dX1_isMemory_17 (by decide) ?_
    exact retZ C w dX1_isMemory_21 (Or.inr rfl)
  · rw [if_pos h5]
    refine lv_aload_n hx hb dX1_isMemory_8 rfl (lv_at hl 0 rfl) ?_
    refine lv_iload_n hx hb dX1_isMemory_9 rfl (lv_at hl 1 rfl) ?_
    refine kcI (k := 6) (ci := 1) (As := [.int x1]) (rest := []) C w rfl rfl (c_Bu_isReadOnly l A D cA tb ad mu nu x1) (cwV 1 hts gX1_isMemory_X1_isReadOnly rfl rfl rfl (by decide +kernel) ⟨Nat.le_of_ble_eq_true rfl, Nat.le_of_ble_eq_true rfl⟩) rfl rfl hl.1 (Nat.le_of_ble_eq_true rfl) dX1_isMemory_10 (fun H locs w => ?_)
    refine lv_if_eq (tgt := 20) hx hb dX1_isMemory_13 (by decide) (fun h13 => ?_) (fun h13 => ?_)
    · rw [if_pos h13]
      refine lv_iconst (v := 0) hx hb dX1_isMemory_20 (by decide) ?_
      exact retZ C w dX1_isMemory_21 (Or.inl rfl)
    · rw [if_neg h13]
      refine lv_iconst (v := 1) hx hb dX1_isMemory_16 (by decide) ?_
      refine lv_goto (tgt := 21) hx hb dX1_isMemory_17 (by decide) ?_
      exact retZ C w dX1_isMemory_21 (Or.inr rfl)
set_option maxHeartbeats 4000000 in
set_option maxRecDepth 100000 in
theorem c_Bu_isMemory (l : Launch) (A : Nat → Prop) (D : va_G) (cA : Nat → ClassId) (tb : Nat) (ad : Nat → Nat) (mu nu : Mu) (x1 : Int32) : Met l yX1_isMemory wsX1_isMemory ({ frames := 1, cells := 0, slots := 0, locals := 21 }) (va_Pc [.ref (ad 6), .int x1] (Pw A D cA tb ad mu nu)) (va_Qi (fun (r : Int32) (u : Mu × Mu) => r = F_Bu_isMemory x1 mu ∧ u = (mu, nu)) (Bw A D cA ad) A) 0 0 A := by
  refine Met.ofW (cc := cX1_isMemory) (maxL := 2) (ret := (some .boolean)) (by decide) rfl ?_
  intro p e s m args below meth c s₁ B hml hv
  obtain ⟨rfl, w0⟩ := hv
  have C : Cx cX1_isMemory 2 (some .boolean) wsX1_isMemory RX1 A D cA tb p s m _ meth c := ⟨B.exec, B.bytes, B.returns, hml, findClass_of_methodNamed B.named, atoms_spec (ws := wsX1_isMemory) B.pre, B.notSynchronized, w0.2.1, w0.2.2.2.1, w0.2.2.2.2⟩
  have hl := lv_entry ([.ref (ad 6), .int x1]) (n := 2) (Nat.le_of_ble_eq_true rfl)
  rw [lg_entry_eq]
  exact k_Bu_isMemory C w0.wd hl
def F_Bu_store (x1 : Int32) (x2 : Int32) (mu : Mu) : Mu := (if (F_Bu_isFree x1 mu) = (0 : Int32) then (if (F_Bu_isReadOnly x1 mu) = (0 : Int32) then mu else (ps mu 8 (x1 - 64512).toNatClampNeg x2)) else (ps mu 7 x1.toNatClampNeg x2))
set_option maxHeartbeats 4000000 in
set_option maxRecDepth 100000 in
theorem k_Bu_store (C : Cx cX1_store 3 none wsX1_store RX1 A D cA tb p s m args meth c) {mu nu : Mu} {x1 : Int32} {x2 : Int32} {H : Heap} {locs : List Loc} {ls : Array Slot} (w : Wd A D cA ad s mu nu H locs) (hl : lv_has ls 3 [(0, .ref (ad 6)), (1, .int x1), (2, .int x2)]) : W p l e { frames := 1, cells := 0, slots := 0, locals := 21 } s m args below meth c H locs 0 0 (QV A D cA ad below args s (F_Bu_store x1 x2 mu) nu) (F0 m 0 ls []) := by
  have hx := C.1
  have hb := C.2.1
  have hts := C.2.2.2.2.2.1
  have hown := C.2.2.2.2.1
  unfold F_Bu_store
  refine lv_aload_n hx hb dX1_store_0 rfl (lv_at hl 0 rfl) ?_
  refine lv_iload_n hx hb dX1_store_1 rfl (lv_at hl 1 rfl) ?_
  refine kcI (k := 6) (ci := 1) (As := [.int x1]) (rest := []) C w rfl rfl (c_Bu_isFree l A D cA tb ad mu nu x1) (cwV 1 hts gX1_store_X1_isFree rfl rfl rfl (by decide +kernel) ⟨Nat.le_of_ble_eq_true rfl, Nat.le_of_ble_eq_true rfl⟩) rfl rfl hl.1 (Nat.le_of_ble_eq_true rfl) dX1_store_2 (fun H locs w => ?_)
  refine lv_if_eq (tgt := 18) hx hb dX1_store_5 (by decide) (fun h5 => ?_) (fun h5 => ?_)
  · rw [if_pos h5]
    refine lv_aload_n hx hb dX1_store_18 rfl (lv_at hl 0 rfl) ?_
    refine lv_iload_n hx hb dX1_store_19 rfl (lv_at hl 1 rfl) ?_
    refine kcI (k := 6) (ci := 1) (As := [.int x1]) (rest := []) C w rfl rfl (c_Bu_isReadOnly l A D cA tb ad mu nu x1) (cwV 1 hts gX1_store_X1_isReadOnly rfl rfl rfl (by decide +kernel) ⟨Nat.le_of_ble_eq_true rfl, Nat.le_of_ble_eq_true rfl⟩) rfl rfl hl.1 (Nat.le_of_ble_eq_true rfl) dX1_store_20 (fun H locs w => ?_)
    refine lv_if_eq (tgt := 36) hx hb dX1_store_23 (by decide) (fun h23 => ?_) (fun h23 => ?_)
    · rw [if_pos h23]
      exact retV C w dX1_store_36
    · rw [if_neg h23]
      refine lv_aload_n hx hb dX1_store_26 rfl (lv_at hl 0 rfl) ?_
      refine gt_6_1 C (fun _ h => List.mem_cons_of_mem _ (List.mem_append_right _ h)) (hts _ (List.mem_of_getElem? (i := 2) rfl)) w dX1_store_27 ?_
      refine lv_iload_n hx hb dX1_store_30 rfl (lv_at hl 1 rfl) ?_
      refine lv_ldc (v := 64512) hx hb hown (hts _ (List.mem_of_getElem? (i := 3) rfl)) dX1_store_31 ?_
      refine lv_isub hx hb dX1_store_33 ?_
      refine lv_iload_n hx hb dX1_store_34 rfl (lv_at hl 2 rfl) ?_
      refine is_8 C w (in_ro h23) dX1_store_35 (fun H locs w => ?_)
      exact retV C w dX1_store_36
  · rw [if_neg h5]
    refine lv_aload_n hx hb dX1_store_8 rfl (lv_at hl 0 rfl) ?_
    refine gt_6_0 C (fun _ h => List.mem_cons_of_mem _ (List.mem_append_right _ h)) (hts _ (List.mem_of_getElem? (i := 1) rfl)) w dX1_store_9 ?_
    refine lv_iload_n hx hb dX1_store_12 rfl (lv_at hl 1 rfl) ?_
    refine lv_iload_n hx hb dX1_store_13 rfl (lv_at hl 2 rfl) ?_
    refine is_7 C w (in_free h5) dX1_store_14 (fun H locs w => ?_)
    refine lv_goto (tgt := 36) hx hb dX1_store_15 (by decide) ?_
    exact retV C w dX1_store_36
set_option maxHeartbeats 4000000 in
set_option maxRecDepth 100000 in
theorem c_Bu_store (l : Launch) (A : Nat → Prop) (D : va_G) (cA : Nat → ClassId) (tb : Nat) (ad : Nat → Nat) (mu nu : Mu) (x1 : Int32) (x2 : Int32) : Met l yX1_store wsX1_store ({ frames := 1, cells := 0, slots := 0, locals := 21 }) (va_Pc [.ref (ad 6), .int x1, .int x2] (Pw A D cA tb ad mu nu)) (va_Qv (fun (u : Mu × Mu) => u = (F_Bu_store x1 x2 mu, nu)) (Bw A D cA ad) A) 0 0 A := by
  refine Met.ofW (cc := cX1_store) (maxL := 3) (ret := none) (by decide) rfl ?_
  intro p e s m args below meth c s₁ B hml hv
  obtain ⟨rfl, w0⟩ := hv
  have C : Cx cX1_store 3 none wsX1_store RX1 A D cA tb p s m _ meth c := ⟨B.exec, B.bytes, B.returns, hml, findClass_of_methodNamed B.named, atoms_spec (ws := wsX1_store) B.pre, B.notSynchronized, w0.2.1, w0.2.2.2.1, w0.2.2.2.2⟩
  have hl := lv_entry ([.ref (ad 6), .int x1, .int x2]) (n := 3) (Nat.le_of_ble_eq_true rfl)
  rw [lg_entry_eq]
  exact k_Bu_store C w0.wd hl
def F_Bu_read (x1 : Int32) (mu : Mu) : Int32 × Mu := (if (x1 &&& 65535) = 8192 then ((F_Sd4_readData mu).1, (F_Sd4_readData mu).2) else (if (x1 &&& 65535) = 8193 then ((mu 4 3), mu) else (if (x1 &&& 65535) = 8194 then ((F_Sd5_readData mu).1, (F_Sd5_readData mu).2) else (if (x1 &&& 65535) = 8195 then ((mu 5 3), mu) else (if (x1 &&& 65535) = 8448 then ((F_Sc_status mu), mu) else (if (x1 &&& 65535) = 8449 then ((F_Sc_readData mu).1, (F_Sc_readData mu).2) else (if (F_Bu_isFree (x1 &&& 65535) mu) = (0 : Int32) then (if (F_Bu_isReadOnly (x1 &&& 65535) mu) = (0 : Int32) then (0, mu) else ((mu 8 ((x1 &&& 65535) - 64512).toNatClampNeg), mu)) else ((mu 7 (x1 &&& 65535).toNatClampNeg), mu))))))))
set_option maxHeartbeats 4000000 in
set_option maxRecDepth 100000 in
theorem k_Bu_read (C : Cx cX1_read 3 (some .int) wsX1_read RX1 A D cA tb p s m args meth c) {mu nu : Mu} {x1 : Int32} {H : Heap} {locs : List Loc} {ls : Array Slot} (w : Wd A D cA ad s mu nu H locs) (hl : lv_has ls 3 [(0, .ref (ad 6)), (1, .int x1)]) : W p l e { frames := 2, cells := 0, slots := 0, locals := 42 } s m args below meth c H locs 0 0 (QI A D cA ad below args s (F_Bu_read x1 mu).1 (F_Bu_read x1 mu).2 nu) (F0 m 0 ls []) := by
  have hx := C.1
  have hb := C.2.1
  have hts := C.2.2.2.2.2.1
  have hown := C.2.2.2.2.1
  unfold F_Bu_read
  refine lv_iload_n hx hb dX1_read_0 rfl (lv_at hl 1 rfl) ?_
  refine lv_ldc (v := 65535) hx hb hown (hts _ (List.mem_of_getElem? (i := 1) rfl)) dX1_read_1 ?_
  refine lv_iand hx hb dX1_read_3 ?_
  refine lv_istore_n (lv' := [(2, .int ((x1 &&& 65535))), (0, .ref (ad 6)), (1, .int x1)]) hx hb dX1_read_4 rfl hl (by decide) rfl (fun ls hl => ?_)
  refine lv_iload_n hx hb dX1_read_5 rfl (lv_at hl 0 rfl) ?_
  by_cases h6_8192 : (x1 &&& 65535) = (8192 : Int32)
  · rw [if_pos h6_8192]
    refine lv_lookup (off := 58) (tgt := 64) hx hb dX1_read_6 (by decide) (by rw [h6_8192]; decide) (by decide) ?_
    refine lv_aload_n hx hb dX1_read_64 rfl (lv_at hl 1 rfl) ?_
    refine gt_6_2 C (fun _ h => List.mem_cons_of_mem _ (List.mem_append_left _ (List.mem_append_left _ (List.mem_append_right _ h)))) (hts _ (List.mem_of_getElem? (i := 2) rfl)) w dX1_read_65 ?_
    refine kcI (k := 4) (ci := 5) (As := []) (rest := []) C w rfl rfl (c_Sd4_readData l A D cA tb ad mu nu) (cwV 0 hts gX1_read_X5_readData rfl rfl rfl (by decide +kernel) ⟨Nat.le_of_ble_eq_true rfl, Nat.le_of_ble_eq_true rfl⟩) rfl rfl hl.1 (Nat.le_of_ble_eq_true rfl) dX1_read_68 (fun H locs w => ?_)
    exact retI C w dX1_read_71
  · rw [if_neg h6_8192]
    by_cases h6_8193 : (x1 &&& 65535) = (8193 : Int32)
    · rw [if_pos h6_8193]
      refine lv_lookup (off := 66) (tgt := 72) hx hb dX1_read_6 (by decide) (by rw [h6_8193]; decide) (by decide) ?_
      refine lv_aload_n hx hb dX1_read_72 rfl (lv_at hl 1 rfl) ?_
      refine gt_6_2 C (fun _ h => List.mem_cons_of_mem _ (List.mem_append_left _ (List.mem_append_left _ (List.mem_append_right _ h)))) (hts _ (List.mem_of_getElem? (i := 2) rfl)) w dX1_read_73 ?_
      refine gt_4_3 C (fun _ h => List.mem_cons_of_mem _ (List.mem_append_left _ (List.mem_append_right _ h))) (hts _ (List.mem_of_getElem? (i := 3) rfl)) w (v := (mu 4 3)) rfl dX1_read_76 ?_
      exact retI C w dX1_read_79
    · rw [if_neg h6_8193]
      by_cases h6_8194 : (x1 &&& 65535) = (8194 : Int32)
      · rw [if_pos h6_8194]
        refine lv_lookup (off := 74) (tgt := 80) hx hb dX1_read_6 (by decide) (by rw [h6_8194]; decide) (by decide) ?_
        refine lv_aload_n hx hb dX1_read_80 rfl (lv_at hl 1 rfl) ?_
        refine gt_6_3 C (fun _ h => List.mem_cons_of_mem _ (List.mem_append_left _ (List.mem_append_left _ (List.mem_append_right _ h)))) (hts _ (List.mem_of_getElem? (i := 4) rfl)) w dX1_read_81 ?_
        refine kcI (k := 5) (ci := 5) (As := []) (rest := []) C w rfl rfl (c_Sd5_readData l A D cA tb ad mu nu) (cwV 0 hts gX1_read_X5_readData rfl rfl rfl (by decide +kernel) ⟨Nat.le_of_ble_eq_true rfl, Nat.le_of_ble_eq_true rfl⟩) rfl rfl hl.1 (Nat.le_of_ble_eq_true rfl) dX1_read_84 (fun H locs w => ?_)
        exact retI C w dX1_read_87
      · rw [if_neg h6_8194]
        by_cases h6_8195 : (x1 &&& 65535) = (8195 : Int32)
        · rw [if_pos h6_8195]
          refine lv_lookup (off := 82) (tgt := 88) hx hb dX1_read_6 (by decide) (by rw [h6_8195]; decide) (by decide) ?_
          refine lv_aload_n hx hb dX1_read_88 rfl (lv_at hl 1 rfl) ?_
          refine gt_6_3 C (fun _ h => List.mem_cons_of_mem _ (List.mem_append_left _ (List.mem_append_left _ (List.mem_append_right _ h)))) (hts _ (List.mem_of_getElem? (i := 4) rfl)) w dX1_read_89 ?_
          refine gt_5_3 C (fun _ h => List.mem_cons_of_mem _ (List.mem_append_left _ (List.mem_append_right _ h))) (hts _ (List.mem_of_getElem? (i := 3) rfl)) w (v := (mu 5 3)) rfl dX1_read_92 ?_
          exact retI C w dX1_read_95
        · rw [if_neg h6_8195]
          by_cases h6_8448 : (x1 &&& 65535) = (8448 : Int32)
          · rw [if_pos h6_8448]
            refine lv_lookup (off := 90) (tgt := 96) hx hb dX1_read_6 (by decide) (by rw [h6_8448]; decide) (by decide) ?_
            refine lv_aload_n hx hb dX1_read_96 rfl (lv_at hl 1 rfl) ?_
            refine gt_6_4 C (fun _ h => List.mem_cons_of_mem _ (List.mem_append_left _ (List.mem_append_left _ (List.mem_append_right _ h)))) (hts _ (List.mem_of_getElem? (i := 5) rfl)) w dX1_read_97 ?_
            refine kcI (k := 1) (ci := 4) (As := []) (rest := []) C w rfl rfl (c_Sc_status l A D cA tb ad mu nu) (cwV 0 hts gX1_read_X4_status rfl rfl rfl (by decide +kernel) ⟨Nat.le_of_ble_eq_true rfl, Nat.le_of_ble_eq_true rfl⟩) rfl rfl hl.1 (Nat.le_of_ble_eq_true rfl) dX1_read_100 (fun H locs w => ?_)
            exact retI C w dX1_read_103
          · rw [if_neg h6_8448]
            by_cases h6_8449 : (x1 &&& 65535) = (8449 : Int32)
            · rw [if_pos h6_8449]
              refine lv_lookup (off := 98) (tgt := 104) hx hb dX1_read_6 (by decide) (by rw [h6_8449]; decide) (by decide) ?_
              refine lv_aload_n hx hb dX1_read_104 rfl (lv_at hl 1 rfl) ?_
              refine gt_6_4 C (fun _ h => List.mem_cons_of_mem _ (List.mem_append_left _ (List.mem_append_left _ (List.mem_append_right _ h)))) (hts _ (List.mem_of_getElem? (i := 5) rfl)) w dX1_read_105 ?_
              refine kcI (k := 1) (ci := 4) (As := []) (rest := []) C w rfl rfl (c_Sc_readData l A D cA tb ad mu nu) (cwV 0 hts gX1_read_X4_readData rfl rfl rfl (by decide +kernel) ⟨Nat.le_of_ble_eq_true rfl, Nat.le_of_ble_eq_true rfl⟩) rfl rfl hl.1 (Nat.le_of_ble_eq_true rfl) dX1_read_108 (fun H locs w => ?_)
              exact retI C w dX1_read_111
            · rw [if_neg h6_8449]
              refine lv_lookup (off := 106) (tgt := 112) hx hb dX1_read_6 (by decide) ((lv_osw h6_8192 (by decide)).trans ((lv_osw h6_8193 (by decide)).trans ((lv_osw h6_8194 (by decide)).trans ((lv_osw h6_8195 (by decide)).trans ((lv_osw h6_8448 (by decide)).trans ((lv_osw h6_8449 (by decide)).trans rfl)))))) (by decide) ?_
              refine lv_aload_n hx hb dX1_read_112 rfl (lv_at hl 1 rfl) ?_
              refine lv_iload_n hx hb dX1_read_113 rfl (lv_at hl 0 rfl) ?_
              refine kcI (k := 6) (ci := 1) (As := [.int ((x1 &&& 65535))]) (rest := []) C w rfl rfl (c_Bu_isFree l A D cA tb ad mu nu (x1 &&& 65535)) (cwV 1 hts gX1_read_X1_isFree rfl rfl rfl (by decide +kernel) ⟨Nat.le_of_ble_eq_true rfl, Nat.le_of_ble_eq_true rfl⟩) rfl rfl hl.1 (Nat.le_of_ble_eq_true rfl) dX1_read_114 (fun H locs w => ?_)
              refine lv_if_eq (tgt := 127) hx hb dX1_read_117 (by decide) (fun h117 => ?_) (fun h117 => ?_)
              · rw [if_pos h117]
                refine lv_aload_n hx hb dX1_read_127 rfl (lv_at hl 1 rfl) ?_
                refine lv_iload_n hx hb dX1_read_128 rfl (lv_at hl 0 rfl) ?_
                refine kcI (k := 6) (ci := 1) (As := [.int ((x1 &&& 65535))]) (rest := []) C w rfl rfl (c_Bu_isReadOnly l A D cA tb ad mu nu (x1 &&& 65535)) (cwV 1 hts gX1_read_X1_isReadOnly rfl rfl rfl (by decide +kernel) ⟨Nat.le_of_ble_eq_true rfl, Nat.le_of_ble_eq_true rfl⟩) rfl rfl hl.1 (Nat.le_of_ble_eq_true rfl) dX1_read_129 (fun H locs w => ?_)
                refine lv_if_eq (tgt := 147) hx hb dX1_read_132 (by decide) (fun h132 => ?_) (fun h132 => ?_)
                · rw [if_pos h132]
                  refine lv_iconst (v := 0) hx hb dX1_read_147 (by decide) ?_
                  exact retI C w dX1_read_148
                · rw [if_neg h132]
                  refine lv_aload_n hx hb dX1_read_135 rfl (lv_at hl 1 rfl) ?_
                  refine gt_6_1 C (fun _ h => List.mem_cons_of_mem _ (List.mem_append_left _ (List.mem_append_left _ (List.mem_append_right _ h)))) (hts _ (List.mem_of_getElem? (i := 7) rfl)) w dX1_read_136 ?_
                  refine lv_iload_n hx hb dX1_read_139 rfl (lv_at hl 0 rfl) ?_
                  refine lv_ldc (v := 64512) hx hb hown (hts _ (List.mem_of_getElem? (i := 8) rfl)) dX1_read_140 ?_
                  refine lv_isub hx hb dX1_read_142 ?_
                  refine ia_8 C w (in_ro h132) (v := (mu 8 ((x1 &&& 65535) - 64512).toNatClampNeg)) rfl dX1_read_143 ?_
                  refine lv_goto (tgt := 148) hx hb dX1_read_144 (by decide) ?_
                  exact retI C w dX1_read_148
              · rw [if_neg h117]
                refine lv_aload_n hx hb dX1_read_120 rfl (lv_at hl 1 rfl) ?_
                refine gt_6_0 C (fun _ h => List.mem_cons_of_mem _ (List.mem_append_left _ (List.mem_append_left _ (List.mem_append_right _ h)))) (hts _ (List.mem_of_getElem? (i := 6) rfl)) w dX1_read_121 ?_
                refine lv_iload_n hx hb dX1_read_124 rfl (lv_at hl 0 rfl) ?_
                refine ia_7 C w (in_free h117) (v := (mu 7 (x1 &&& 65535).toNatClampNeg)) rfl dX1_read_125 ?_
                exact retI C w dX1_read_126
set_option maxHeartbeats 4000000 in
set_option maxRecDepth 100000 in
theorem c_Bu_read (l : Launch) (A : Nat → Prop) (D : va_G) (cA : Nat → ClassId) (tb : Nat) (ad : Nat → Nat) (mu nu : Mu) (x1 : Int32) : Met l yX1_read wsX1_read ({ frames := 2, cells := 0, slots := 0, locals := 42 }) (va_Pc [.ref (ad 6), .int x1] (Pw A D cA tb ad mu nu)) (va_Qi (fun (r : Int32) (u : Mu × Mu) => r = (F_Bu_read x1 mu).1 ∧ u = ((F_Bu_read x1 mu).2, nu)) (Bw A D cA ad) A) 0 0 A := by
  refine Met.ofW (cc := cX1_read) (maxL := 3) (ret := (some .int)) (by decide) rfl ?_
  intro p e s m args below meth c s₁ B hml hv
  obtain ⟨rfl, w0⟩ := hv
  have C : Cx cX1_read 3 (some .int) wsX1_read RX1 A D cA tb p s m _ meth c := ⟨B.exec, B.bytes, B.returns, hml, findClass_of_methodNamed B.named, atoms_spec (ws := wsX1_read) B.pre, B.notSynchronized, w0.2.1, w0.2.2.2.1, w0.2.2.2.2⟩
  have hl := lv_entry ([.ref (ad 6), .int x1]) (n := 3) (Nat.le_of_ble_eq_true rfl)
  rw [lg_entry_eq]
  exact k_Bu_read C w0.wd hl
def F_Bu_readWord_13 (x2 : Int32) (y0 : Int32) (mu : Mu) : Int32 × Mu := (((x2 <<< (8 &&& 31)) ||| y0), mu)
set_option maxHeartbeats 4000000 in
set_option maxRecDepth 100000 in
theorem k_Bu_readWord_13 (C : Cx cX1_readWord 4 (some .int) wsX1_readWord RX1 A D cA tb p s m args meth c) {mu nu : Mu} {x2 : Int32} {y0 : Int32} {H : Heap} {locs : List Loc} {ls : Array Slot} (w : Wd A D cA ad s mu nu H locs) (hl : lv_has ls 4 [(2, .int x2)]) : W p l e { frames := 3, cells := 0, slots := 0, locals := 64 } s m args below meth c H locs 0 0 (QI A D cA ad below args s (F_Bu_readWord_13 x2 y0 mu).1 (F_Bu_readWord_13 x2 y0 mu).2 nu) (F0 m 13 ls [.int y0]) := by
  have hx := C.1
  have hb := C.2.1
  have hts := C.2.2.2.2.2.1
  have hown := C.2.2.2.2.1
  unfold F_Bu_readWord_13
  refine lv_istore_n (lv' := [(3, .int y0), (2, .int x2)]) hx hb dX1_readWord_13 rfl hl (by decide) rfl (fun ls hl => ?_)
  refine lv_iload_n hx hb dX1_readWord_14 rfl (lv_at hl 1 rfl) ?_
  refine lv_bipush (v := 8) hx hb dX1_readWord_15 (by decide) ?_
  refine lv_ishl hx hb dX1_readWord_17 ?_
  refine lv_iload_n hx hb dX1_readWord_18 rfl (lv_at hl 0 rfl) ?_
  refine lv_ior hx hb dX1_readWord_19 ?_
  exact retI C w dX1_readWord_20
def F_Bu_readWord_5 (x1 : Int32) (y0 : Int32) (mu : Mu) : Int32 × Mu := F_Bu_readWord_13 y0 ((F_Bu_read (x1 + 1) mu).1) ((F_Bu_read (x1 + 1) mu).2)
set_option maxHeartbeats 4000000 in
set_option maxRecDepth 100000 in
theorem k_Bu_readWord_5 (C : Cx cX1_readWord 4 (some .int) wsX1_readWord RX1 A D cA tb p s m args meth c) {mu nu : Mu} {x1 : Int32} {y0 : Int32} {H : Heap} {locs : List Loc} {ls : Array Slot} (w : Wd A D cA ad s mu nu H locs) (hl : lv_has ls 4 [(0, .ref (ad 6)), (1, .int x1)]) : W p l e { frames := 3, cells := 0, slots := 0, locals := 64 } s m args below meth c H locs 0 0 (QI A D cA ad below args s (F_Bu_readWord_5 x1 y0 mu).1 (F_Bu_readWord_5 x1 y0 mu).2 nu) (F0 m 5 ls [.int y0]) := by
  have hx := C.1
  have hb := C.2.1
  have hts := C.2.2.2.2.2.1
  have hown := C.2.2.2.2.1
  unfold F_Bu_readWord_5
  refine lv_istore_n (lv' := [(2, .int y0), (0, .ref (ad 6)), (1, .int x1)]) hx hb dX1_readWord_5 rfl hl (by decide) rfl (fun ls hl => ?_)
  refine lv_aload_n hx hb dX1_readWord_6 rfl (lv_at hl 1 rfl) ?_
  refine lv_iload_n hx hb dX1_readWord_7 rfl (lv_at hl 2 rfl) ?_
  refine lv_iconst (v := 1) hx hb dX1_readWord_8 (by decide) ?_
  refine lv_iadd hx hb dX1_readWord_9 ?_
  refine kcI (k := 6) (ci := 1) (As := [.int ((x1 + 1))]) (rest := []) C w rfl rfl (c_Bu_read l A D cA tb ad mu nu (x1 + 1)) (cwV 1 hts gX1_readWord_X1_read rfl rfl rfl (by decide +kernel) ⟨Nat.le_of_ble_eq_true rfl, Nat.le_of_ble_eq_true rfl⟩) rfl rfl hl.1 (Nat.le_of_ble_eq_true rfl) dX1_readWord_10 (fun H locs w => ?_)
  exact k_Bu_readWord_13 C w (lv_sub hl [0] rfl)
def F_Bu_readWord (x1 : Int32) (mu : Mu) : Int32 × Mu := F_Bu_readWord_5 x1 ((F_Bu_read x1 mu).1) ((F_Bu_read x1 mu).2)
set_option maxHeartbeats 4000000 in
set_option maxRecDepth 100000 in
theorem k_Bu_readWord (C : Cx cX1_readWord 4 (some .int) wsX1_readWord RX1 A D cA tb p s m args meth c) {mu nu : Mu} {x1 : Int32} {H : Heap} {locs : List Loc} {ls : Array Slot} (w : Wd A D cA ad s mu nu H locs) (hl : lv_has ls 4 [(0, .ref (ad 6)), (1, .int x1)]) : W p l e { frames := 3, cells := 0, slots := 0, locals := 64 } s m args below meth c H locs 0 0 (QI A D cA ad below args s (F_Bu_readWord x1 mu).1 (F_Bu_readWord x1 mu).2 nu) (F0 m 0 ls []) := by
  have hx := C.1
  have hb := C.2.1
  have hts := C.2.2.2.2.2.1
  have hown := C.2.2.2.2.1
  unfold F_Bu_readWord
  refine lv_aload_n hx hb dX1_readWord_0 rfl (lv_at hl 0 rfl) ?_
  refine lv_iload_n hx hb dX1_readWord_1 rfl (lv_at hl 1 rfl) ?_
  refine kcI (k := 6) (ci := 1) (As := [.int x1]) (rest := []) C w rfl rfl (c_Bu_read l A D cA tb ad mu nu x1) (cwV 1 hts gX1_readWord_X1_read rfl rfl rfl (by decide +kernel) ⟨Nat.le_of_ble_eq_true rfl, Nat.le_of_ble_eq_true rfl⟩) rfl rfl hl.1 (Nat.le_of_ble_eq_true rfl) dX1_readWord_2 (fun H locs w => ?_)
  exact k_Bu_readWord_5 C w (lv_sub hl [0, 1] rfl)
set_option maxHeartbeats 4000000 in
set_option maxRecDepth 100000 in
theorem c_Bu_readWord (l : Launch) (A : Nat → Prop) (D : va_G) (cA : Nat → ClassId) (tb : Nat) (ad : Nat → Nat) (mu nu : Mu) (x1 : Int32) : Met l yX1_readWord wsX1_readWord ({ frames := 3, cells := 0, slots := 0, locals := 64 }) (va_Pc [.ref (ad 6), .int x1] (Pw A D cA tb ad mu nu)) (va_Qi (fun (r : Int32) (u : Mu × Mu) => r = (F_Bu_readWord x1 mu).1 ∧ u = ((F_Bu_readWord x1 mu).2, nu)) (Bw A D cA ad) A) 0 0 A := by
  refine Met.ofW (cc := cX1_readWord) (maxL := 4) (ret := (some .int)) (by decide) rfl ?_
  intro p e s m args below meth c s₁ B hml hv
  obtain ⟨rfl, w0⟩ := hv
  have C : Cx cX1_readWord 4 (some .int) wsX1_readWord RX1 A D cA tb p s m _ meth c := ⟨B.exec, B.bytes, B.returns, hml, findClass_of_methodNamed B.named, atoms_spec (ws := wsX1_readWord) B.pre, B.notSynchronized, w0.2.1, w0.2.2.2.1, w0.2.2.2.2⟩
  have hl := lv_entry ([.ref (ad 6), .int x1]) (n := 4) (Nat.le_of_ble_eq_true rfl)
  rw [lg_entry_eq]
  exact k_Bu_readWord C w0.wd hl
def F_Bu_write (x1 : Int32) (x2 : Int32) (mu : Mu) : Mu := (if (x1 &&& 65535) = 8192 then (F_Sd4_writeData x2 mu) else (if (x1 &&& 65535) = 8193 then (F_Sd4_writeControl x2 mu) else (if (x1 &&& 65535) = 8194 then (F_Sd5_writeData x2 mu) else (if (x1 &&& 65535) = 8195 then (F_Sd5_writeControl x2 mu) else (if (x1 &&& 65535) = 8448 then (F_Sc_writeControl x2 mu) else (if (x1 &&& 65535) = 8449 then (F_Sc_writeData x2 mu) else (if (F_Bu_isFree (x1 &&& 65535) mu) = (0 : Int32) then mu else (ps mu 7 (x1 &&& 65535).toNatClampNeg x2))))))))
set_option maxHeartbeats 4000000 in
set_option maxRecDepth 100000 in
theorem k_Bu_write (C : Cx cX1_write 4 none wsX1_write RX1 A D cA tb p s m args meth c) {mu nu : Mu} {x1 : Int32} {x2 : Int32} {H : Heap} {locs : List Loc} {ls : Array Slot} (w : Wd A D cA ad s mu nu H locs) (hl : lv_has ls 4 [(0, .ref (ad 6)), (1, .int x1), (2, .int x2)]) : W p l e { frames := 2, cells := 0, slots := 0, locals := 41 } s m args below meth c H locs 0 0 (QV A D cA ad below args s (F_Bu_write x1 x2 mu) nu) (F0 m 0 ls []) := by
  have hx := C.1
  have hb := C.2.1
  have hts := C.2.2.2.2.2.1
  have hown := C.2.2.2.2.1
  unfold F_Bu_write
  refine lv_iload_n hx hb dX1_write_0 rfl (lv_at hl 1 rfl) ?_
  refine lv_ldc (v := 65535) hx hb hown (hts _ (List.mem_of_getElem? (i := 1) rfl)) dX1_write_1 ?_
  refine lv_iand hx hb dX1_write_3 ?_
  refine lv_istore_n (lv' := [(3, .int ((x1 &&& 65535))), (0, .ref (ad 6)), (1, .int x1), (2, .int x2)]) hx hb dX1_write_4 rfl hl (by decide) rfl (fun ls hl => ?_)
  refine lv_iload_n hx hb dX1_write_5 rfl (lv_at hl 0 rfl) ?_
  by_cases h6_8192 : (x1 &&& 65535) = (8192 : Int32)
  · rw [if_pos h6_8192]
    refine lv_lookup (off := 58) (tgt := 64) hx hb dX1_write_6 (by decide) (by rw [h6_8192]; decide) (by decide) ?_
    refine lv_aload_n hx hb dX1_write_64 rfl (lv_at hl 1 rfl) ?_
    refine gt_6_2 C (fun _ h => List.mem_cons_of_mem _ (List.mem_append_left _ (List.mem_append_left _ (List.mem_append_right _ h)))) (hts _ (List.mem_of_getElem? (i := 2) rfl)) w dX1_write_65 ?_
    refine lv_iload_n hx hb dX1_write_68 rfl (lv_at hl 3 rfl) ?_
    refine kcV (k := 4) (ci := 5) (As := [.int x2]) (rest := []) C w rfl rfl (c_Sd4_writeData l A D cA tb ad mu nu x2) (cwV 1 hts gX1_write_X5_writeData rfl rfl rfl (by decide +kernel) ⟨Nat.le_of_ble_eq_true rfl, Nat.le_of_ble_eq_true rfl⟩) rfl rfl hl.1 (Nat.le_of_ble_eq_true rfl) dX1_write_69 (fun H locs w => ?_)
    refine lv_goto (tgt := 145) hx hb dX1_write_72 (by decide) ?_
    exact retV C w dX1_write_145
  · rw [if_neg h6_8192]
    by_cases h6_8193 : (x1 &&& 65535) = (8193 : Int32)
    · rw [if_pos h6_8193]
      refine lv_lookup (off := 69) (tgt := 75) hx hb dX1_write_6 (by decide) (by rw [h6_8193]; decide) (by decide) ?_
      refine lv_aload_n hx hb dX1_write_75 rfl (lv_at hl 1 rfl) ?_
      refine gt_6_2 C (fun _ h => List.mem_cons_of_mem _ (List.mem_append_left _ (List.mem_append_left _ (List.mem_append_right _ h)))) (hts _ (List.mem_of_getElem? (i := 2) rfl)) w dX1_write_76 ?_
      refine lv_iload_n hx hb dX1_write_79 rfl (lv_at hl 3 rfl) ?_
      refine kcV (k := 4) (ci := 5) (As := [.int x2]) (rest := []) C w rfl rfl (c_Sd4_writeControl l A D cA tb ad mu nu x2) (cwV 1 hts gX1_write_X5_writeControl rfl rfl rfl (by decide +kernel) ⟨Nat.le_of_ble_eq_true rfl, Nat.le_of_ble_eq_true rfl⟩) rfl rfl hl.1 (Nat.le_of_ble_eq_true rfl) dX1_write_80 (fun H locs w => ?_)
      refine lv_goto (tgt := 145) hx hb dX1_write_83 (by decide) ?_
      exact retV C w dX1_write_145
    · rw [if_neg h6_8193]
      by_cases h6_8194 : (x1 &&& 65535) = (8194 : Int32)
      · rw [if_pos h6_8194]
        refine lv_lookup (off := 80) (tgt := 86) hx hb dX1_write_6 (by decide) (by rw [h6_8194]; decide) (by decide) ?_
        refine lv_aload_n hx hb dX1_write_86 rfl (lv_at hl 1 rfl) ?_
        refine gt_6_3 C (fun _ h => List.mem_cons_of_mem _ (List.mem_append_left _ (List.mem_append_left _ (List.mem_append_right _ h)))) (hts _ (List.mem_of_getElem? (i := 3) rfl)) w dX1_write_87 ?_
        refine lv_iload_n hx hb dX1_write_90 rfl (lv_at hl 3 rfl) ?_
        refine kcV (k := 5) (ci := 5) (As := [.int x2]) (rest := []) C w rfl rfl (c_Sd5_writeData l A D cA tb ad mu nu x2) (cwV 1 hts gX1_write_X5_writeData rfl rfl rfl (by decide +kernel) ⟨Nat.le_of_ble_eq_true rfl, Nat.le_of_ble_eq_true rfl⟩) rfl rfl hl.1 (Nat.le_of_ble_eq_true rfl) dX1_write_91 (fun H locs w => ?_)
        refine lv_goto (tgt := 145) hx hb dX1_write_94 (by decide) ?_
        exact retV C w dX1_write_145
      · rw [if_neg h6_8194]
        by_cases h6_8195 : (x1 &&& 65535) = (8195 : Int32)
        · rw [if_pos h6_8195]
          refine lv_lookup (off := 91) (tgt := 97) hx hb dX1_write_6 (by decide) (by rw [h6_8195]; decide) (by decide) ?_
          refine lv_aload_n hx hb dX1_write_97 rfl (lv_at hl 1 rfl) ?_
          refine gt_6_3 C (fun _ h => List.mem_cons_of_mem _ (List.mem_append_left _ (List.mem_append_left _ (List.mem_append_right _ h)))) (hts _ (List.mem_of_getElem? (i := 3) rfl)) w dX1_write_98 ?_
          refine lv_iload_n hx hb dX1_write_101 rfl (lv_at hl 3 rfl) ?_
          refine kcV (k := 5) (ci := 5) (As := [.int x2]) (rest := []) C w rfl rfl (c_Sd5_writeControl l A D cA tb ad mu nu x2) (cwV 1 hts gX1_write_X5_writeControl rfl rfl rfl (by decide +kernel) ⟨Nat.le_of_ble_eq_true rfl, Nat.le_of_ble_eq_true rfl⟩) rfl rfl hl.1 (Nat.le_of_ble_eq_true rfl) dX1_write_102 (fun H locs w => ?_)
          refine lv_goto (tgt := 145) hx hb dX1_write_105 (by decide) ?_
          exact retV C w dX1_write_145
        · rw [if_neg h6_8195]
          by_cases h6_8448 : (x1 &&& 65535) = (8448 : Int32)
          · rw [if_pos h6_8448]
            refine lv_lookup (off := 102) (tgt := 108) hx hb dX1_write_6 (by decide) (by rw [h6_8448]; decide) (by decide) ?_
            refine lv_aload_n hx hb dX1_write_108 rfl (lv_at hl 1 rfl) ?_
            refine gt_6_4 C (fun _ h => List.mem_cons_of_mem _ (List.mem_append_left _ (List.mem_append_left _ (List.mem_append_right _ h)))) (hts _ (List.mem_of_getElem? (i := 4) rfl)) w dX1_write_109 ?_
            refine lv_iload_n hx hb dX1_write_112 rfl (lv_at hl 3 rfl) ?_
            refine kcV (k := 1) (ci := 4) (As := [.int x2]) (rest := []) C w rfl rfl (c_Sc_writeControl l A D cA tb ad mu nu x2) (cwV 1 hts gX1_write_X4_writeControl rfl rfl rfl (by decide +kernel) ⟨Nat.le_of_ble_eq_true rfl, Nat.le_of_ble_eq_true rfl⟩) rfl rfl hl.1 (Nat.le_of_ble_eq_true rfl) dX1_write_113 (fun H locs w => ?_)
            refine lv_goto (tgt := 145) hx hb dX1_write_116 (by decide) ?_
            exact retV C w dX1_write_145
          · rw [if_neg h6_8448]
            by_cases h6_8449 : (x1 &&& 65535) = (8449 : Int32)
            · rw [if_pos h6_8449]
              refine lv_lookup (off := 113) (tgt := 119) hx hb dX1_write_6 (by decide) (by rw [h6_8449]; decide) (by decide) ?_
              refine lv_aload_n hx hb dX1_write_119 rfl (lv_at hl 1 rfl) ?_
              refine gt_6_4 C (fun _ h => List.mem_cons_of_mem _ (List.mem_append_left _ (List.mem_append_left _ (List.mem_append_right _ h)))) (hts _ (List.mem_of_getElem? (i := 4) rfl)) w dX1_write_120 ?_
              refine lv_iload_n hx hb dX1_write_123 rfl (lv_at hl 3 rfl) ?_
              refine kcV (k := 1) (ci := 4) (As := [.int x2]) (rest := []) C w rfl rfl (c_Sc_writeData l A D cA tb ad mu nu x2) (cwV 1 hts gX1_write_X4_writeData rfl rfl rfl (by decide +kernel) ⟨Nat.le_of_ble_eq_true rfl, Nat.le_of_ble_eq_true rfl⟩) rfl rfl hl.1 (Nat.le_of_ble_eq_true rfl) dX1_write_124 (fun H locs w => ?_)
              refine lv_goto (tgt := 145) hx hb dX1_write_127 (by decide) ?_
              exact retV C w dX1_write_145
            · rw [if_neg h6_8449]
              refine lv_lookup (off := 124) (tgt := 130) hx hb dX1_write_6 (by decide) ((lv_osw h6_8192 (by decide)).trans ((lv_osw h6_8193 (by decide)).trans ((lv_osw h6_8194 (by decide)).trans ((lv_osw h6_8195 (by decide)).trans ((lv_osw h6_8448 (by decide)).trans ((lv_osw h6_8449 (by decide)).trans rfl)))))) (by decide) ?_
              refine lv_aload_n hx hb dX1_write_130 rfl (lv_at hl 1 rfl) ?_
              refine lv_iload_n hx hb dX1_write_131 rfl (lv_at hl 0 rfl) ?_
              refine kcI (k := 6) (ci := 1) (As := [.int ((x1 &&& 65535))]) (rest := []) C w rfl rfl (c_Bu_isFree l A D cA tb ad mu nu (x1 &&& 65535)) (cwV 1 hts gX1_write_X1_isFree rfl rfl rfl (by decide +kernel) ⟨Nat.le_of_ble_eq_true rfl, Nat.le_of_ble_eq_true rfl⟩) rfl rfl hl.1 (Nat.le_of_ble_eq_true rfl) dX1_write_132 (fun H locs w => ?_)
              refine lv_if_eq (tgt := 145) hx hb dX1_write_135 (by decide) (fun h135 => ?_) (fun h135 => ?_)
              · rw [if_pos h135]
                exact retV C w dX1_write_145
              · rw [if_neg h135]
                refine lv_aload_n hx hb dX1_write_138 rfl (lv_at hl 1 rfl) ?_
                refine gt_6_0 C (fun _ h => List.mem_cons_of_mem _ (List.mem_append_left _ (List.mem_append_left _ (List.mem_append_right _ h)))) (hts _ (List.mem_of_getElem? (i := 5) rfl)) w dX1_write_139 ?_
                refine lv_iload_n hx hb dX1_write_142 rfl (lv_at hl 0 rfl) ?_
                refine lv_iload_n hx hb dX1_write_143 rfl (lv_at hl 3 rfl) ?_
                refine is_7 C w (in_free h135) dX1_write_144 (fun H locs w => ?_)
                exact retV C w dX1_write_145
set_option maxHeartbeats 4000000 in
set_option maxRecDepth 100000 in
theorem c_Bu_write (l : Launch) (A : Nat → Prop) (D : va_G) (cA : Nat → ClassId) (tb : Nat) (ad : Nat → Nat) (mu nu : Mu) (x1 : Int32) (x2 : Int32) : Met l yX1_write wsX1_write ({ frames := 2, cells := 0, slots := 0, locals := 41 }) (va_Pc [.ref (ad 6), .int x1, .int x2] (Pw A D cA tb ad mu nu)) (va_Qv (fun (u : Mu × Mu) => u = (F_Bu_write x1 x2 mu, nu)) (Bw A D cA ad) A) 0 0 A := by
  refine Met.ofW (cc := cX1_write) (maxL := 4) (ret := none) (by decide) rfl ?_
  intro p e s m args below meth c s₁ B hml hv
  obtain ⟨rfl, w0⟩ := hv
  have C : Cx cX1_write 4 none wsX1_write RX1 A D cA tb p s m _ meth c := ⟨B.exec, B.bytes, B.returns, hml, findClass_of_methodNamed B.named, atoms_spec (ws := wsX1_write) B.pre, B.notSynchronized, w0.2.1, w0.2.2.2.1, w0.2.2.2.2⟩
  have hl := lv_entry ([.ref (ad 6), .int x1, .int x2]) (n := 4) (Nat.le_of_ble_eq_true rfl)
  rw [lg_entry_eq]
  exact k_Bu_write C w0.wd hl
def F_Bu_writeWord_13 (x1 : Int32) (x2 : Int32) (mu : Mu) : Mu := (F_Bu_write (x1 + 1) (x2 &&& 255) mu)
set_option maxHeartbeats 4000000 in
set_option maxRecDepth 100000 in
theorem k_Bu_writeWord_13 (C : Cx cX1_writeWord 3 none wsX1_writeWord RX1 A D cA tb p s m args meth c) {mu nu : Mu} {x1 : Int32} {x2 : Int32} {H : Heap} {locs : List Loc} {ls : Array Slot} (w : Wd A D cA ad s mu nu H locs) (hl : lv_has ls 3 [(0, .ref (ad 6)), (1, .int x1), (2, .int x2)]) : W p l e { frames := 3, cells := 0, slots := 0, locals := 64 } s m args below meth c H locs 0 0 (QV A D cA ad below args s (F_Bu_writeWord_13 x1 x2 mu) nu) (F0 m 13 ls []) := by
  have hx := C.1
  have hb := C.2.1
  have hts := C.2.2.2.2.2.1
  have hown := C.2.2.2.2.1
  unfold F_Bu_writeWord_13
  refine lv_aload_n hx hb dX1_writeWord_13 rfl (lv_at hl 0 rfl) ?_
  refine lv_iload_n hx hb dX1_writeWord_14 rfl (lv_at hl 1 rfl) ?_
  refine lv_iconst (v := 1) hx hb dX1_writeWord_15 (by decide) ?_
  refine lv_iadd hx hb dX1_writeWord_16 ?_
  refine lv_iload_n hx hb dX1_writeWord_17 rfl (lv_at hl 2 rfl) ?_
  refine lv_sipush (v := 255) hx hb dX1_writeWord_18 (by decide) ?_
  refine lv_iand hx hb dX1_writeWord_21 ?_
  refine kcV (k := 6) (ci := 1) (As := [.int ((x1 + 1)), .int ((x2 &&& 255))]) (rest := []) C w rfl rfl (c_Bu_write l A D cA tb ad mu nu (x1 + 1) (x2 &&& 255)) (cwV 2 hts gX1_writeWord_X1_write rfl rfl rfl (by decide +kernel) ⟨Nat.le_of_ble_eq_true rfl, Nat.le_of_ble_eq_true rfl⟩) rfl rfl hl.1 (Nat.le_of_ble_eq_true rfl) dX1_writeWord_22 (fun H locs w => ?_)
  exact retV C w dX1_writeWord_25
def F_Bu_writeWord (x1 : Int32) (x2 : Int32) (mu : Mu) : Mu := F_Bu_writeWord_13 x1 x2 (F_Bu_write x1 ((x2 >>> (8 &&& 31)) &&& 255) mu)
set_option maxHeartbeats 4000000 in
set_option maxRecDepth 100000 in
theorem k_Bu_writeWord (C : Cx cX1_writeWord 3 none wsX1_writeWord RX1 A D cA tb p s m args meth c) {mu nu : Mu} {x1 : Int32} {x2 : Int32} {H : Heap} {locs : List Loc} {ls : Array Slot} (w : Wd A D cA ad s mu nu H locs) (hl : lv_has ls 3 [(0, .ref (ad 6)), (1, .int x1), (2, .int x2)]) : W p l e { frames := 3, cells := 0, slots := 0, locals := 64 } s m args below meth c H locs 0 0 (QV A D cA ad below args s (F_Bu_writeWord x1 x2 mu) nu) (F0 m 0 ls []) := by
  have hx := C.1
  have hb := C.2.1
  have hts := C.2.2.2.2.2.1
  have hown := C.2.2.2.2.1
  unfold F_Bu_writeWord
  refine lv_aload_n hx hb dX1_writeWord_0 rfl (lv_at hl 0 rfl) ?_
  refine lv_iload_n hx hb dX1_writeWord_1 rfl (lv_at hl 1 rfl) ?_
  refine lv_iload_n hx hb dX1_writeWord_2 rfl (lv_at hl 2 rfl) ?_
  refine lv_bipush (v := 8) hx hb dX1_writeWord_3 (by decide) ?_
  refine lv_ishr hx hb dX1_writeWord_5 ?_
  refine lv_sipush (v := 255) hx hb dX1_writeWord_6 (by decide) ?_
  refine lv_iand hx hb dX1_writeWord_9 ?_
  refine kcV (k := 6) (ci := 1) (As := [.int x1, .int (((x2 >>> (8 &&& 31)) &&& 255))]) (rest := []) C w rfl rfl (c_Bu_write l A D cA tb ad mu nu x1 ((x2 >>> (8 &&& 31)) &&& 255)) (cwV 2 hts gX1_writeWord_X1_write rfl rfl rfl (by decide +kernel) ⟨Nat.le_of_ble_eq_true rfl, Nat.le_of_ble_eq_true rfl⟩) rfl rfl hl.1 (Nat.le_of_ble_eq_true rfl) dX1_writeWord_10 (fun H locs w => ?_)
  exact k_Bu_writeWord_13 C w (lv_sub hl [0, 1, 2] rfl)
set_option maxHeartbeats 4000000 in
set_option maxRecDepth 100000 in
theorem c_Bu_writeWord (l : Launch) (A : Nat → Prop) (D : va_G) (cA : Nat → ClassId) (tb : Nat) (ad : Nat → Nat) (mu nu : Mu) (x1 : Int32) (x2 : Int32) : Met l yX1_writeWord wsX1_writeWord ({ frames := 3, cells := 0, slots := 0, locals := 64 }) (va_Pc [.ref (ad 6), .int x1, .int x2] (Pw A D cA tb ad mu nu)) (va_Qv (fun (u : Mu × Mu) => u = (F_Bu_writeWord x1 x2 mu, nu)) (Bw A D cA ad) A) 0 0 A := by
  refine Met.ofW (cc := cX1_writeWord) (maxL := 3) (ret := none) (by decide) rfl ?_
  intro p e s m args below meth c s₁ B hml hv
  obtain ⟨rfl, w0⟩ := hv
  have C : Cx cX1_writeWord 3 none wsX1_writeWord RX1 A D cA tb p s m _ meth c := ⟨B.exec, B.bytes, B.returns, hml, findClass_of_methodNamed B.named, atoms_spec (ws := wsX1_writeWord) B.pre, B.notSynchronized, w0.2.1, w0.2.2.2.1, w0.2.2.2.2⟩
  have hl := lv_entry ([.ref (ad 6), .int x1, .int x2]) (n := 3) (Nat.le_of_ble_eq_true rfl)
  rw [lg_entry_eq]
  exact k_Bu_writeWord C w0.wd hl
end
