section
variable {p : Program} {l : Launch} {e : Env} {s : State} {m : MethodId} {args : Array Value} {below : List Frame} {meth : Method} {c : Code} 
variable {A : Nat → Prop} {D : va_G} {cA : Nat → ClassId} {tb : Nat} {ad : Nat → Nat}
def F_Sc_readData (mu : Mu) : Int32 × Mu := ((mu 1 15), (ps (ps mu 1 7 0) 1 8 0))
set_option maxHeartbeats 4000000 in
set_option maxRecDepth 100000 in
theorem k_Sc_readData (C : Cx cX4_readData 1 (some .int) wsX4_readData RX4 A D cA tb p s m args meth c) {mu nu : Mu} {H : Heap} {locs : List Loc} {ls : Array Slot} (w : Wd A D cA ad s mu nu H locs) (hl : lv_has ls 1 [(0, .ref (ad 1))]) : W p l e { frames := 0, cells := 0, slots := 0, locals := 0 } s m args below meth c H locs 0 0 (QI A D cA ad below args s (F_Sc_readData mu).1 (F_Sc_readData mu).2 nu) (F0 m 0 ls []) := by
  have hx := C.1
  have hb := C.2.1
  have hts := C.2.2.2.2.2.1
  have hown := C.2.2.2.2.1
  unfold F_Sc_readData
  refine lv_aload_n hx hb dX4_readData_0 rfl (lv_at hl 0 rfl) ?_
  refine lv_iconst (v := 0) hx hb dX4_readData_1 (by decide) ?_
  refine pt_1_7 C (fun _ h => List.mem_cons_of_mem _ (List.mem_append_right _ h)) (hts _ (List.mem_of_getElem? (i := 1) rfl)) w (Or.inl rfl) dX4_readData_2 (fun H locs w => ?_)
  refine lv_aload_n hx hb dX4_readData_5 rfl (lv_at hl 0 rfl) ?_
  refine lv_iconst (v := 0) hx hb dX4_readData_6 (by decide) ?_
  refine pt_1_8 C (fun _ h => List.mem_cons_of_mem _ (List.mem_append_right _ h)) (hts _ (List.mem_of_getElem? (i := 2) rfl)) w (Or.inl rfl) dX4_readData_7 (fun H locs w => ?_)
  refine lv_aload_n hx hb dX4_readData_10 rfl (lv_at hl 0 rfl) ?_
  refine gt_1_15 C (fun _ h => List.mem_cons_of_mem _ (List.mem_append_right _ h)) (hts _ (List.mem_of_getElem? (i := 3) rfl)) w (v := (mu 1 15)) rfl dX4_readData_11 ?_
  exact retI C w dX4_readData_14
set_option maxHeartbeats 4000000 in
set_option maxRecDepth 100000 in
theorem c_Sc_readData (l : Launch) (A : Nat → Prop) (D : va_G) (cA : Nat → ClassId) (tb : Nat) (ad : Nat → Nat) (mu nu : Mu) : Met l yX4_readData wsX4_readData ({ frames := 0, cells := 0, slots := 0, locals := 0 }) (va_Pc [.ref (ad 1)] (Pw A D cA tb ad mu nu)) (va_Qi (fun (r : Int32) (u : Mu × Mu) => r = (F_Sc_readData mu).1 ∧ u = ((F_Sc_readData mu).2, nu)) (Bw A D cA ad) A) 0 0 A := by
  refine Met.ofW (cc := cX4_readData) (maxL := 1) (ret := (some .int)) (by decide) rfl ?_
  intro p e s m args below meth c s₁ B hml hv
  obtain ⟨rfl, w0⟩ := hv
  have C : Cx cX4_readData 1 (some .int) wsX4_readData RX4 A D cA tb p s m _ meth c := ⟨B.exec, B.bytes, B.returns, hml, findClass_of_methodNamed B.named, atoms_spec (ws := wsX4_readData) B.pre, B.notSynchronized, w0.2.1, w0.2.2.2.1, w0.2.2.2.2⟩
  have hl := lv_entry ([.ref (ad 1)]) (n := 1) (Nat.le_of_ble_eq_true rfl)
  rw [lg_entry_eq]
  exact k_Sc_readData C w0.wd hl
def F_Sc_asks_64 (x1 : Int32) (y0 : Int32) (mu : Mu) : Int32 := (if x1 = (0 : Int32) then (if y0 = (0 : Int32) then 0 else 1) else 1)
set_option maxHeartbeats 4000000 in
set_option maxRecDepth 100000 in
theorem k_Sc_asks_64 (C : Cx cX4_asks 3 (some .boolean) wsX4_asks RX4 A D cA tb p s m args meth c) {mu nu : Mu} {x1 : Int32} {y0 : Int32} {H : Heap} {locs : List Loc} {ls : Array Slot} (w : Wd A D cA ad s mu nu H locs) (hl : lv_has ls 3 [(1, .int x1)]) : W p l e { frames := 0, cells := 0, slots := 0, locals := 0 } s m args below meth c H locs 0 0 (QI A D cA ad below args s (F_Sc_asks_64 x1 y0 mu) mu nu) (F0 m 64 ls [.int y0]) := by
  have hx := C.1
  have hb := C.2.1
  have hts := C.2.2.2.2.2.1
  have hown := C.2.2.2.2.1
  unfold F_Sc_asks_64
  refine lv_istore_n (lv' := [(2, .int y0), (1, .int x1)]) hx hb dX4_asks_64 rfl hl (by decide) rfl (fun ls hl => ?_)
  refine lv_iload_n hx hb dX4_asks_65 rfl (lv_at hl 1 rfl) ?_
  refine lv_if_ne (tgt := 73) hx hb dX4_asks_66 (by decide) (fun h66 => ?_) (fun h66 => ?_)
  · rw [if_neg h66]
    refine lv_iconst (v := 1) hx hb dX4_asks_73 (by decide) ?_
    refine lv_goto (tgt := 78) hx hb dX4_asks_74 (by decide) ?_
    exact retZ C w dX4_asks_78 (Or.inr rfl)
  · rw [if_pos h66]
    refine lv_iload_n hx hb dX4_asks_69 rfl (lv_at hl 0 rfl) ?_
    refine lv_if_eq (tgt := 77) hx hb dX4_asks_70 (by decide) (fun h70 => ?_) (fun h70 => ?_)
    · rw [if_pos h70]
      refine lv_iconst (v := 0) hx hb dX4_asks_77 (by decide) ?_
      exact retZ C w dX4_asks_78 (Or.inl rfl)
    · rw [if_neg h70]
      refine lv_iconst (v := 1) hx hb dX4_asks_73 (by decide) ?_
      refine lv_goto (tgt := 78) hx hb dX4_asks_74 (by decide) ?_
      exact retZ C w dX4_asks_78 (Or.inr rfl)
def F_Sc_asks_63 (x1 : Int32) (mu : Mu) : Int32 := F_Sc_asks_64 x1 0 mu
set_option maxHeartbeats 4000000 in
set_option maxRecDepth 100000 in
theorem k_Sc_asks_63 (C : Cx cX4_asks 3 (some .boolean) wsX4_asks RX4 A D cA tb p s m args meth c) {mu nu : Mu} {x1 : Int32} {H : Heap} {locs : List Loc} {ls : Array Slot} (w : Wd A D cA ad s mu nu H locs) (hl : lv_has ls 3 [(1, .int x1)]) : W p l e { frames := 0, cells := 0, slots := 0, locals := 0 } s m args below meth c H locs 0 0 (QI A D cA ad below args s (F_Sc_asks_63 x1 mu) mu nu) (F0 m 63 ls []) := by
  have hx := C.1
  have hb := C.2.1
  have hts := C.2.2.2.2.2.1
  have hown := C.2.2.2.2.1
  unfold F_Sc_asks_63
  refine lv_iconst (v := 0) hx hb dX4_asks_63 (by decide) ?_
  exact k_Sc_asks_64 C w (lv_sub hl [0] rfl)
def F_Sc_asks_59 (x1 : Int32) (mu : Mu) : Int32 := F_Sc_asks_64 x1 1 mu
set_option maxHeartbeats 4000000 in
set_option maxRecDepth 100000 in
theorem k_Sc_asks_59 (C : Cx cX4_asks 3 (some .boolean) wsX4_asks RX4 A D cA tb p s m args meth c) {mu nu : Mu} {x1 : Int32} {H : Heap} {locs : List Loc} {ls : Array Slot} (w : Wd A D cA ad s mu nu H locs) (hl : lv_has ls 3 [(1, .int x1)]) : W p l e { frames := 0, cells := 0, slots := 0, locals := 0 } s m args below meth c H locs 0 0 (QI A D cA ad below args s (F_Sc_asks_59 x1 mu) mu nu) (F0 m 59 ls []) := by
  have hx := C.1
  have hb := C.2.1
  have hts := C.2.2.2.2.2.1
  have hown := C.2.2.2.2.1
  unfold F_Sc_asks_59
  refine lv_iconst (v := 1) hx hb dX4_asks_59 (by decide) ?_
  refine lv_goto (tgt := 64) hx hb dX4_asks_60 (by decide) ?_
  exact k_Sc_asks_64 C w (lv_sub hl [0] rfl)
def F_Sc_asks_33 (y0 : Int32) (mu : Mu) : Int32 := (if ((mu 1 5) &&& 128) = (0 : Int32) then F_Sc_asks_63 y0 mu else (if (mu 1 7) = (0 : Int32) then (if (mu 1 8) = (0 : Int32) then F_Sc_asks_63 y0 mu else F_Sc_asks_59 y0 mu) else F_Sc_asks_59 y0 mu))
set_option maxHeartbeats 4000000 in
set_option maxRecDepth 100000 in
theorem k_Sc_asks_33 (C : Cx cX4_asks 3 (some .boolean) wsX4_asks RX4 A D cA tb p s m args meth c) {mu nu : Mu} {y0 : Int32} {H : Heap} {locs : List Loc} {ls : Array Slot} (w : Wd A D cA ad s mu nu H locs) (hl : lv_has ls 3 [(0, .ref (ad 1))]) : W p l e { frames := 0, cells := 0, slots := 0, locals := 0 } s m args below meth c H locs 0 0 (QI A D cA ad below args s (F_Sc_asks_33 y0 mu) mu nu) (F0 m 33 ls [.int y0]) := by
  have hx := C.1
  have hb := C.2.1
  have hts := C.2.2.2.2.2.1
  have hown := C.2.2.2.2.1
  unfold F_Sc_asks_33
  refine lv_istore_n (lv' := [(1, .int y0), (0, .ref (ad 1))]) hx hb dX4_asks_33 rfl hl (by decide) rfl (fun ls hl => ?_)
  refine lv_aload_n hx hb dX4_asks_34 rfl (lv_at hl 1 rfl) ?_
  refine gt_1_5 C (fun _ h => List.mem_cons_of_mem _ (List.mem_append_right _ h)) (hts _ (List.mem_of_getElem? (i := 2) rfl)) w (v := (mu 1 5)) rfl dX4_asks_35 ?_
  refine lv_sipush (v := 128) hx hb dX4_asks_38 (by decide) ?_
  refine lv_iand hx hb dX4_asks_41 ?_
  refine lv_if_eq (tgt := 63) hx hb dX4_asks_42 (by decide) (fun h42 => ?_) (fun h42 => ?_)
  · rw [if_pos h42]
    exact k_Sc_asks_63 C w (lv_sub hl [0] rfl)
  · rw [if_neg h42]
    refine lv_aload_n hx hb dX4_asks_45 rfl (lv_at hl 1 rfl) ?_
    refine gt_1_7 C (fun _ h => List.mem_cons_of_mem _ (List.mem_append_right _ h)) (hts _ (List.mem_of_getElem? (i := 4) rfl)) w (v := (mu 1 7)) rfl dX4_asks_46 ?_
    refine lv_if_ne (tgt := 59) hx hb dX4_asks_49 (by decide) (fun h49 => ?_) (fun h49 => ?_)
    · rw [if_neg h49]
      exact k_Sc_asks_59 C w (lv_sub hl [0] rfl)
    · rw [if_pos h49]
      refine lv_aload_n hx hb dX4_asks_52 rfl (lv_at hl 1 rfl) ?_
      refine gt_1_8 C (fun _ h => List.mem_cons_of_mem _ (List.mem_append_right _ h)) (hts _ (List.mem_of_getElem? (i := 5) rfl)) w (v := (mu 1 8)) rfl dX4_asks_53 ?_
      refine lv_if_eq (tgt := 63) hx hb dX4_asks_56 (by decide) (fun h56 => ?_) (fun h56 => ?_)
      · rw [if_pos h56]
        exact k_Sc_asks_63 C w (lv_sub hl [0] rfl)
      · rw [if_neg h56]
        exact k_Sc_asks_59 C w (lv_sub hl [0] rfl)
def F_Sc_asks_32 (mu : Mu) : Int32 := F_Sc_asks_33 0 mu
set_option maxHeartbeats 4000000 in
set_option maxRecDepth 100000 in
theorem k_Sc_asks_32 (C : Cx cX4_asks 3 (some .boolean) wsX4_asks RX4 A D cA tb p s m args meth c) {mu nu : Mu} {H : Heap} {locs : List Loc} {ls : Array Slot} (w : Wd A D cA ad s mu nu H locs) (hl : lv_has ls 3 [(0, .ref (ad 1))]) : W p l e { frames := 0, cells := 0, slots := 0, locals := 0 } s m args below meth c H locs 0 0 (QI A D cA ad below args s (F_Sc_asks_32 mu) mu nu) (F0 m 32 ls []) := by
  have hx := C.1
  have hb := C.2.1
  have hts := C.2.2.2.2.2.1
  have hown := C.2.2.2.2.1
  unfold F_Sc_asks_32
  refine lv_iconst (v := 0) hx hb dX4_asks_32 (by decide) ?_
  exact k_Sc_asks_33 C w (lv_sub hl [0] rfl)
def F_Sc_asks (mu : Mu) : Int32 := (if (mu 1 6) = (0 : Int32) then (if ((mu 1 5) &&& 96) = (32 : Int32) then (if (mu 1 9) = (0 : Int32) then F_Sc_asks_33 1 mu else F_Sc_asks_32 mu) else F_Sc_asks_32 mu) else 0)
set_option maxHeartbeats 4000000 in
set_option maxRecDepth 100000 in
theorem k_Sc_asks (C : Cx cX4_asks 3 (some .boolean) wsX4_asks RX4 A D cA tb p s m args meth c) {mu nu : Mu} {H : Heap} {locs : List Loc} {ls : Array Slot} (w : Wd A D cA ad s mu nu H locs) (hl : lv_has ls 3 [(0, .ref (ad 1))]) : W p l e { frames := 0, cells := 0, slots := 0, locals := 0 } s m args below meth c H locs 0 0 (QI A D cA ad below args s (F_Sc_asks mu) mu nu) (F0 m 0 ls []) := by
  have hx := C.1
  have hb := C.2.1
  have hts := C.2.2.2.2.2.1
  have hown := C.2.2.2.2.1
  unfold F_Sc_asks
  refine lv_aload_n hx hb dX4_asks_0 rfl (lv_at hl 0 rfl) ?_
  refine gt_1_6 C (fun _ h => List.mem_cons_of_mem _ (List.mem_append_right _ h)) (hts _ (List.mem_of_getElem? (i := 1) rfl)) w (v := (mu 1 6)) rfl dX4_asks_1 ?_
  refine lv_if_eq (tgt := 9) hx hb dX4_asks_4 (by decide) (fun h4 => ?_) (fun h4 => ?_)
  · rw [if_pos h4]
    refine lv_aload_n hx hb dX4_asks_9 rfl (lv_at hl 0 rfl) ?_
    refine gt_1_5 C (fun _ h => List.mem_cons_of_mem _ (List.mem_append_right _ h)) (hts _ (List.mem_of_getElem? (i := 2) rfl)) w (v := (mu 1 5)) rfl dX4_asks_10 ?_
    refine lv_bipush (v := 96) hx hb dX4_asks_13 (by decide) ?_
    refine lv_iand hx hb dX4_asks_15 ?_
    refine lv_bipush (v := 32) hx hb dX4_asks_16 (by decide) ?_
    refine lv_icmp_ne (tgt := 32) hx hb dX4_asks_18 (by decide) (fun h18 => ?_) (fun h18 => ?_)
    · rw [if_neg h18]
      exact k_Sc_asks_32 C w (lv_sub hl [0] rfl)
    · rw [if_pos h18]
      refine lv_aload_n hx hb dX4_asks_21 rfl (lv_at hl 0 rfl) ?_
      refine gt_1_9 C (fun _ h => List.mem_cons_of_mem _ (List.mem_append_right _ h)) (hts _ (List.mem_of_getElem? (i := 3) rfl)) w (v := (mu 1 9)) rfl dX4_asks_22 ?_
      refine lv_if_ne (tgt := 32) hx hb dX4_asks_25 (by decide) (fun h25 => ?_) (fun h25 => ?_)
      · rw [if_neg h25]
        exact k_Sc_asks_32 C w (lv_sub hl [0] rfl)
      · rw [if_pos h25]
        refine lv_iconst (v := 1) hx hb dX4_asks_28 (by decide) ?_
        refine lv_goto (tgt := 33) hx hb dX4_asks_29 (by decide) ?_
        exact k_Sc_asks_33 C w (lv_sub hl [0] rfl)
  · rw [if_neg h4]
    refine lv_iconst (v := 0) hx hb dX4_asks_7 (by decide) ?_
    exact retZ C w dX4_asks_8 (Or.inl rfl)
set_option maxHeartbeats 4000000 in
set_option maxRecDepth 100000 in
theorem c_Sc_asks (l : Launch) (A : Nat → Prop) (D : va_G) (cA : Nat → ClassId) (tb : Nat) (ad : Nat → Nat) (mu nu : Mu) : Met l yX4_asks wsX4_asks ({ frames := 0, cells := 0, slots := 0, locals := 0 }) (va_Pc [.ref (ad 1)] (Pw A D cA tb ad mu nu)) (va_Qi (fun (r : Int32) (u : Mu × Mu) => r = F_Sc_asks mu ∧ u = (mu, nu)) (Bw A D cA ad) A) 0 0 A := by
  refine Met.ofW (cc := cX4_asks) (maxL := 3) (ret := (some .boolean)) (by decide) rfl ?_
  intro p e s m args below meth c s₁ B hml hv
  obtain ⟨rfl, w0⟩ := hv
  have C : Cx cX4_asks 3 (some .boolean) wsX4_asks RX4 A D cA tb p s m _ meth c := ⟨B.exec, B.bytes, B.returns, hml, findClass_of_methodNamed B.named, atoms_spec (ws := wsX4_asks) B.pre, B.notSynchronized, w0.2.1, w0.2.2.2.1, w0.2.2.2.2⟩
  have hl := lv_entry ([.ref (ad 1)]) (n := 3) (Nat.le_of_ble_eq_true rfl)
  rw [lg_entry_eq]
  exact k_Sc_asks C w0.wd hl
def F_Sc_status_38 (y0 : Int32) (y1 : Int32) (mu : Mu) : Int32 := (if (F_Sc_asks mu) = (0 : Int32) then ((y0 ||| y1) ||| 0) else ((y0 ||| y1) ||| 128))
set_option maxHeartbeats 4000000 in
set_option maxRecDepth 100000 in
theorem k_Sc_status_38 (C : Cx cX4_status 1 (some .int) wsX4_status RX4 A D cA tb p s m args meth c) {mu nu : Mu} {y0 : Int32} {y1 : Int32} {H : Heap} {locs : List Loc} {ls : Array Slot} (w : Wd A D cA ad s mu nu H locs) (hl : lv_has ls 1 [(0, .ref (ad 1))]) : W p l e { frames := 1, cells := 0, slots := 0, locals := 22 } s m args below meth c H locs 0 0 (QI A D cA ad below args s (F_Sc_status_38 y0 y1 mu) mu nu) (F0 m 38 ls [.int y1, .int y0]) := by
  have hx := C.1
  have hb := C.2.1
  have hts := C.2.2.2.2.2.1
  have hown := C.2.2.2.2.1
  unfold F_Sc_status_38
  refine lv_ior hx hb dX4_status_38 ?_
  refine lv_aload_n hx hb dX4_status_39 rfl (lv_at hl 0 rfl) ?_
  refine kcI (k := 1) (ci := 4) (As := []) (rest := [.int ((y0 ||| y1))]) C w rfl rfl (c_Sc_asks l A D cA tb ad mu nu) (cwV 0 hts gX4_status_X4_asks rfl rfl rfl (by decide +kernel) ⟨Nat.le_of_ble_eq_true rfl, Nat.le_of_ble_eq_true rfl⟩) rfl rfl hl.1 (Nat.le_of_ble_eq_true rfl) dX4_status_40 (fun H locs w => ?_)
  refine lv_if_eq (tgt := 52) hx hb dX4_status_43 (by decide) (fun h43 => ?_) (fun h43 => ?_)
  · rw [if_pos h43]
    refine lv_iconst (v := 0) hx hb dX4_status_52 (by decide) ?_
    refine lv_ior hx hb dX4_status_53 ?_
    exact retI C w dX4_status_54
  · rw [if_neg h43]
    refine lv_sipush (v := 128) hx hb dX4_status_46 (by decide) ?_
    refine lv_goto (tgt := 53) hx hb dX4_status_49 (by decide) ?_
    refine lv_ior hx hb dX4_status_53 ?_
    exact retI C w dX4_status_54
def F_Sc_status_24 (y0 : Int32) (y1 : Int32) (mu : Mu) : Int32 := (if (mu 1 8) = (0 : Int32) then F_Sc_status_38 (y0 ||| y1) 0 mu else F_Sc_status_38 (y0 ||| y1) 32 mu)
set_option maxHeartbeats 4000000 in
set_option maxRecDepth 100000 in
theorem k_Sc_status_24 (C : Cx cX4_status 1 (some .int) wsX4_status RX4 A D cA tb p s m args meth c) {mu nu : Mu} {y0 : Int32} {y1 : Int32} {H : Heap} {locs : List Loc} {ls : Array Slot} (w : Wd A D cA ad s mu nu H locs) (hl : lv_has ls 1 [(0, .ref (ad 1))]) : W p l e { frames := 1, cells := 0, slots := 0, locals := 22 } s m args below meth c H locs 0 0 (QI A D cA ad below args s (F_Sc_status_24 y0 y1 mu) mu nu) (F0 m 24 ls [.int y1, .int y0]) := by
  have hx := C.1
  have hb := C.2.1
  have hts := C.2.2.2.2.2.1
  have hown := C.2.2.2.2.1
  unfold F_Sc_status_24
  refine lv_ior hx hb dX4_status_24 ?_
  refine lv_aload_n hx hb dX4_status_25 rfl (lv_at hl 0 rfl) ?_
  refine gt_1_8 C (fun _ h => List.mem_cons_of_mem _ (List.mem_append_right _ h)) (hts _ (List.mem_of_getElem? (i := 3) rfl)) w (v := (mu 1 8)) rfl dX4_status_26 ?_
  refine lv_if_eq (tgt := 37) hx hb dX4_status_29 (by decide) (fun h29 => ?_) (fun h29 => ?_)
  · rw [if_pos h29]
    refine lv_iconst (v := 0) hx hb dX4_status_37 (by decide) ?_
    exact k_Sc_status_38 C w (lv_sub hl [0] rfl)
  · rw [if_neg h29]
    refine lv_bipush (v := 32) hx hb dX4_status_32 (by decide) ?_
    refine lv_goto (tgt := 38) hx hb dX4_status_34 (by decide) ?_
    exact k_Sc_status_38 C w (lv_sub hl [0] rfl)
def F_Sc_status_12 (y0 : Int32) (mu : Mu) : Int32 := (if (mu 1 9) = (0 : Int32) then F_Sc_status_24 y0 2 mu else F_Sc_status_24 y0 0 mu)
set_option maxHeartbeats 4000000 in
set_option maxRecDepth 100000 in
theorem k_Sc_status_12 (C : Cx cX4_status 1 (some .int) wsX4_status RX4 A D cA tb p s m args meth c) {mu nu : Mu} {y0 : Int32} {H : Heap} {locs : List Loc} {ls : Array Slot} (w : Wd A D cA ad s mu nu H locs) (hl : lv_has ls 1 [(0, .ref (ad 1))]) : W p l e { frames := 1, cells := 0, slots := 0, locals := 22 } s m args below meth c H locs 0 0 (QI A D cA ad below args s (F_Sc_status_12 y0 mu) mu nu) (F0 m 12 ls [.int y0]) := by
  have hx := C.1
  have hb := C.2.1
  have hts := C.2.2.2.2.2.1
  have hown := C.2.2.2.2.1
  unfold F_Sc_status_12
  refine lv_aload_n hx hb dX4_status_12 rfl (lv_at hl 0 rfl) ?_
  refine gt_1_9 C (fun _ h => List.mem_cons_of_mem _ (List.mem_append_right _ h)) (hts _ (List.mem_of_getElem? (i := 2) rfl)) w (v := (mu 1 9)) rfl dX4_status_13 ?_
  refine lv_if_eq (tgt := 23) hx hb dX4_status_16 (by decide) (fun h16 => ?_) (fun h16 => ?_)
  · rw [if_pos h16]
    refine lv_iconst (v := 2) hx hb dX4_status_23 (by decide) ?_
    exact k_Sc_status_24 C w (lv_sub hl [0] rfl)
  · rw [if_neg h16]
    refine lv_iconst (v := 0) hx hb dX4_status_19 (by decide) ?_
    refine lv_goto (tgt := 24) hx hb dX4_status_20 (by decide) ?_
    exact k_Sc_status_24 C w (lv_sub hl [0] rfl)
def F_Sc_status (mu : Mu) : Int32 := (if (mu 1 7) = (0 : Int32) then F_Sc_status_12 0 mu else F_Sc_status_12 1 mu)
set_option maxHeartbeats 4000000 in
set_option maxRecDepth 100000 in
theorem k_Sc_status (C : Cx cX4_status 1 (some .int) wsX4_status RX4 A D cA tb p s m args meth c) {mu nu : Mu} {H : Heap} {locs : List Loc} {ls : Array Slot} (w : Wd A D cA ad s mu nu H locs) (hl : lv_has ls 1 [(0, .ref (ad 1))]) : W p l e { frames := 1, cells := 0, slots := 0, locals := 22 } s m args below meth c H locs 0 0 (QI A D cA ad below args s (F_Sc_status mu) mu nu) (F0 m 0 ls []) := by
  have hx := C.1
  have hb := C.2.1
  have hts := C.2.2.2.2.2.1
  have hown := C.2.2.2.2.1
  unfold F_Sc_status
  refine lv_aload_n hx hb dX4_status_0 rfl (lv_at hl 0 rfl) ?_
  refine gt_1_7 C (fun _ h => List.mem_cons_of_mem _ (List.mem_append_right _ h)) (hts _ (List.mem_of_getElem? (i := 1) rfl)) w (v := (mu 1 7)) rfl dX4_status_1 ?_
  refine lv_if_eq (tgt := 11) hx hb dX4_status_4 (by decide) (fun h4 => ?_) (fun h4 => ?_)
  · rw [if_pos h4]
    refine lv_iconst (v := 0) hx hb dX4_status_11 (by decide) ?_
    exact k_Sc_status_12 C w (lv_sub hl [0] rfl)
  · rw [if_neg h4]
    refine lv_iconst (v := 1) hx hb dX4_status_7 (by decide) ?_
    refine lv_goto (tgt := 12) hx hb dX4_status_8 (by decide) ?_
    exact k_Sc_status_12 C w (lv_sub hl [0] rfl)
set_option maxHeartbeats 4000000 in
set_option maxRecDepth 100000 in
theorem c_Sc_status (l : Launch) (A : Nat → Prop) (D : va_G) (cA : Nat → ClassId) (tb : Nat) (ad : Nat → Nat) (mu nu : Mu) : Met l yX4_status wsX4_status ({ frames := 1, cells := 0, slots := 0, locals := 22 }) (va_Pc [.ref (ad 1)] (Pw A D cA tb ad mu nu)) (va_Qi (fun (r : Int32) (u : Mu × Mu) => r = F_Sc_status mu ∧ u = (mu, nu)) (Bw A D cA ad) A) 0 0 A := by
  refine Met.ofW (cc := cX4_status) (maxL := 1) (ret := (some .int)) (by decide) rfl ?_
  intro p e s m args below meth c s₁ B hml hv
  obtain ⟨rfl, w0⟩ := hv
  have C : Cx cX4_status 1 (some .int) wsX4_status RX4 A D cA tb p s m _ meth c := ⟨B.exec, B.bytes, B.returns, hml, findClass_of_methodNamed B.named, atoms_spec (ws := wsX4_status) B.pre, B.notSynchronized, w0.2.1, w0.2.2.2.1, w0.2.2.2.2⟩
  have hl := lv_entry ([.ref (ad 1)]) (n := 1) (Nat.le_of_ble_eq_true rfl)
  rw [lg_entry_eq]
  exact k_Sc_status C w0.wd hl
def F_Sc_takeIn (mu : Mu) : Mu := (if (mu 1 7) = (0 : Int32) then (ps (ps mu 1 7 1) 1 15 (mu 1 11)) else (ps mu 1 8 1))
set_option maxHeartbeats 4000000 in
set_option maxRecDepth 100000 in
theorem k_Sc_takeIn (C : Cx cX4_takeIn 1 none wsX4_takeIn RX4 A D cA tb p s m args meth c) {mu nu : Mu} {H : Heap} {locs : List Loc} {ls : Array Slot} (w : Wd A D cA ad s mu nu H locs) (hl : lv_has ls 1 [(0, .ref (ad 1))]) : W p l e { frames := 0, cells := 0, slots := 0, locals := 0 } s m args below meth c H locs 0 0 (QV A D cA ad below args s (F_Sc_takeIn mu) nu) (F0 m 0 ls []) := by
  have hx := C.1
  have hb := C.2.1
  have hts := C.2.2.2.2.2.1
  have hown := C.2.2.2.2.1
  unfold F_Sc_takeIn
  refine lv_aload_n hx hb dX4_takeIn_0 rfl (lv_at hl 0 rfl) ?_
  refine gt_1_7 C (fun _ h => List.mem_cons_of_mem _ (List.mem_append_right _ h)) (hts _ (List.mem_of_getElem? (i := 1) rfl)) w (v := (mu 1 7)) rfl dX4_takeIn_1 ?_
  refine lv_if_eq (tgt := 15) hx hb dX4_takeIn_4 (by decide) (fun h4 => ?_) (fun h4 => ?_)
  · rw [if_pos h4]
    refine lv_aload_n hx hb dX4_takeIn_15 rfl (lv_at hl 0 rfl) ?_
    refine lv_iconst (v := 1) hx hb dX4_takeIn_16 (by decide) ?_
    refine pt_1_7 C (fun _ h => List.mem_cons_of_mem _ (List.mem_append_right _ h)) (hts _ (List.mem_of_getElem? (i := 1) rfl)) w (Or.inr rfl) dX4_takeIn_17 (fun H locs w => ?_)
    refine lv_aload_n hx hb dX4_takeIn_20 rfl (lv_at hl 0 rfl) ?_
    refine lv_aload_n hx hb dX4_takeIn_21 rfl (lv_at hl 0 rfl) ?_
    refine gt_1_11 C (fun _ h => List.mem_cons_of_mem _ (List.mem_append_right _ h)) (hts _ (List.mem_of_getElem? (i := 3) rfl)) w (v := (mu 1 11)) rfl dX4_takeIn_22 ?_
    refine pt_1_15 C (fun _ h => List.mem_cons_of_mem _ (List.mem_append_right _ h)) (hts _ (List.mem_of_getElem? (i := 4) rfl)) w dX4_takeIn_25 (fun H locs w => ?_)
    exact retV C w dX4_takeIn_28
  · rw [if_neg h4]
    refine lv_aload_n hx hb dX4_takeIn_7 rfl (lv_at hl 0 rfl) ?_
    refine lv_iconst (v := 1) hx hb dX4_takeIn_8 (by decide) ?_
    refine pt_1_8 C (fun _ h => List.mem_cons_of_mem _ (List.mem_append_right _ h)) (hts _ (List.mem_of_getElem? (i := 2) rfl)) w (Or.inr rfl) dX4_takeIn_9 (fun H locs w => ?_)
    refine lv_goto (tgt := 28) hx hb dX4_takeIn_12 (by decide) ?_
    exact retV C w dX4_takeIn_28
set_option maxHeartbeats 4000000 in
set_option maxRecDepth 100000 in
theorem c_Sc_takeIn (l : Launch) (A : Nat → Prop) (D : va_G) (cA : Nat → ClassId) (tb : Nat) (ad : Nat → Nat) (mu nu : Mu) : Met l yX4_takeIn wsX4_takeIn ({ frames := 0, cells := 0, slots := 0, locals := 0 }) (va_Pc [.ref (ad 1)] (Pw A D cA tb ad mu nu)) (va_Qv (fun (u : Mu × Mu) => u = (F_Sc_takeIn mu, nu)) (Bw A D cA ad) A) 0 0 A := by
  refine Met.ofW (cc := cX4_takeIn) (maxL := 1) (ret := none) (by decide) rfl ?_
  intro p e s m args below meth c s₁ B hml hv
  obtain ⟨rfl, w0⟩ := hv
  have C : Cx cX4_takeIn 1 none wsX4_takeIn RX4 A D cA tb p s m _ meth c := ⟨B.exec, B.bytes, B.returns, hml, findClass_of_methodNamed B.named, atoms_spec (ws := wsX4_takeIn) B.pre, B.notSynchronized, w0.2.1, w0.2.2.2.1, w0.2.2.2.2⟩
  have hl := lv_entry ([.ref (ad 1)]) (n := 1) (Nat.le_of_ble_eq_true rfl)
  rw [lg_entry_eq]
  exact k_Sc_takeIn C w0.wd hl
def F_Sc_stepsOfByte (mu : Mu) : Int32 := (if ((mu 1 5) &&& 3) = 0 then 1 else (if ((mu 1 5) &&& 3) = 1 then 16 else 64))
set_option maxHeartbeats 4000000 in
set_option maxRecDepth 100000 in
theorem k_Sc_stepsOfByte (C : Cx cX4_stepsOfByte 1 (some .int) wsX4_stepsOfByte RX4 A D cA tb p s m args meth c) {mu nu : Mu} {H : Heap} {locs : List Loc} {ls : Array Slot} (w : Wd A D cA ad s mu nu H locs) (hl : lv_has ls 1 [(0, .ref (ad 1))]) : W p l e { frames := 0, cells := 0, slots := 0, locals := 0 } s m args below meth c H locs 0 0 (QI A D cA ad below args s (F_Sc_stepsOfByte mu) mu nu) (F0 m 0 ls []) := by
  have hx := C.1
  have hb := C.2.1
  have hts := C.2.2.2.2.2.1
  have hown := C.2.2.2.2.1
  unfold F_Sc_stepsOfByte
  refine lv_aload_n hx hb dX4_stepsOfByte_0 rfl (lv_at hl 0 rfl) ?_
  refine gt_1_5 C (fun _ h => List.mem_cons_of_mem _ (List.mem_append_right _ h)) (hts _ (List.mem_of_getElem? (i := 1) rfl)) w (v := (mu 1 5)) rfl dX4_stepsOfByte_1 ?_
  refine lv_iconst (v := 3) hx hb dX4_stepsOfByte_4 (by decide) ?_
  refine lv_iand hx hb dX4_stepsOfByte_5 ?_
  by_cases h6_0 : ((mu 1 5) &&& 3) = (0 : Int32)
  · rw [if_pos h6_0]
    refine lv_lookup (off := 26) (tgt := 32) hx hb dX4_stepsOfByte_6 (by decide) (by rw [h6_0]; decide) (by decide) ?_
    refine lv_iconst (v := 1) hx hb dX4_stepsOfByte_32 (by decide) ?_
    exact retI C w dX4_stepsOfByte_33
  · rw [if_neg h6_0]
    by_cases h6_1 : ((mu 1 5) &&& 3) = (1 : Int32)
    · rw [if_pos h6_1]
      refine lv_lookup (off := 28) (tgt := 34) hx hb dX4_stepsOfByte_6 (by decide) (by rw [h6_1]; decide) (by decide) ?_
      refine lv_bipush (v := 16) hx hb dX4_stepsOfByte_34 (by decide) ?_
      exact retI C w dX4_stepsOfByte_36
    · rw [if_neg h6_1]
      refine lv_lookup (off := 31) (tgt := 37) hx hb dX4_stepsOfByte_6 (by decide) ((lv_osw h6_0 (by decide)).trans ((lv_osw h6_1 (by decide)).trans rfl)) (by decide) ?_
      refine lv_bipush (v := 64) hx hb dX4_stepsOfByte_37 (by decide) ?_
      exact retI C w dX4_stepsOfByte_39
set_option maxHeartbeats 4000000 in
set_option maxRecDepth 100000 in
theorem c_Sc_stepsOfByte (l : Launch) (A : Nat → Prop) (D : va_G) (cA : Nat → ClassId) (tb : Nat) (ad : Nat → Nat) (mu nu : Mu) : Met l yX4_stepsOfByte wsX4_stepsOfByte ({ frames := 0, cells := 0, slots := 0, locals := 0 }) (va_Pc [.ref (ad 1)] (Pw A D cA tb ad mu nu)) (va_Qi (fun (r : Int32) (u : Mu × Mu) => r = F_Sc_stepsOfByte mu ∧ u = (mu, nu)) (Bw A D cA ad) A) 0 0 A := by
  refine Met.ofW (cc := cX4_stepsOfByte) (maxL := 1) (ret := (some .int)) (by decide) rfl ?_
  intro p e s m args below meth c s₁ B hml hv
  obtain ⟨rfl, w0⟩ := hv
  have C : Cx cX4_stepsOfByte 1 (some .int) wsX4_stepsOfByte RX4 A D cA tb p s m _ meth c := ⟨B.exec, B.bytes, B.returns, hml, findClass_of_methodNamed B.named, atoms_spec (ws := wsX4_stepsOfByte) B.pre, B.notSynchronized, w0.2.1, w0.2.2.2.1, w0.2.2.2.2⟩
  have hl := lv_entry ([.ref (ad 1)]) (n := 1) (Nat.le_of_ble_eq_true rfl)
  rw [lg_entry_eq]
  exact k_Sc_stepsOfByte C w0.wd hl
def F_Sc_passTimeIn (mu : Mu) : Mu := (if (mu 1 13) ≤ (0 : Int32) then (if (mu 1 3) ≤ (0 : Int32) then mu else (ps (ps (ps (ps mu 1 11 (mu 2 (mu 1 2).toNatClampNeg)) 1 2 (((mu 1 2) + 1) - ((mu 1 2) + 1) / 64 * 64)) 1 3 ((mu 1 3) - 1)) 1 13 (F_Sc_stepsOfByte (ps (ps (ps mu 1 11 (mu 2 (mu 1 2).toNatClampNeg)) 1 2 (((mu 1 2) + 1) - ((mu 1 2) + 1) / 64 * 64)) 1 3 ((mu 1 3) - 1))))) else (if ((mu 1 13) - 1) = (0 : Int32) then (F_Sc_takeIn (ps mu 1 13 ((mu 1 13) - 1))) else (ps mu 1 13 ((mu 1 13) - 1))))
set_option maxHeartbeats 4000000 in
set_option maxRecDepth 100000 in
theorem k_Sc_passTimeIn (C : Cx cX4_passTimeIn 1 none wsX4_passTimeIn RX4 A D cA tb p s m args meth c) {mu nu : Mu} {H : Heap} {locs : List Loc} {ls : Array Slot} (w : Wd A D cA ad s mu nu H locs) (hl : lv_has ls 1 [(0, .ref (ad 1))]) (hJ : Jc mu) : W p l e { frames := 1, cells := 0, slots := 0, locals := 20 } s m args below meth c H locs 0 0 (QV A D cA ad below args s (F_Sc_passTimeIn mu) nu) (F0 m 0 ls []) := by
  have hx := C.1
  have hb := C.2.1
  have hts := C.2.2.2.2.2.1
  have hown := C.2.2.2.2.1
  unfold F_Sc_passTimeIn
  refine lv_aload_n hx hb dX4_passTimeIn_0 rfl (lv_at hl 0 rfl) ?_
  refine gt_1_13 C (fun _ h => List.mem_cons_of_mem _ (List.mem_append_right _ h)) (hts _ (List.mem_of_getElem? (i := 1) rfl)) w (v := (mu 1 13)) rfl dX4_passTimeIn_1 ?_
  refine lv_if_le (tgt := 31) hx hb dX4_passTimeIn_4 (by decide) (fun h4 => ?_) (fun h4 => ?_)
  · rw [if_pos h4]
    refine lv_aload_n hx hb dX4_passTimeIn_31 rfl (lv_at hl 0 rfl) ?_
    refine gt_1_3 C (fun _ h => List.mem_cons_of_mem _ (List.mem_append_right _ h)) (hts _ (List.mem_of_getElem? (i := 2) rfl)) w (v := (mu 1 3)) rfl dX4_passTimeIn_32 ?_
    refine lv_if_le (tgt := 82) hx hb dX4_passTimeIn_35 (by decide) (fun h35 => ?_) (fun h35 => ?_)
    · rw [if_pos h35]
      exact retV C w dX4_passTimeIn_82
    · rw [if_neg h35]
      refine lv_aload_n hx hb dX4_passTimeIn_38 rfl (lv_at hl 0 rfl) ?_
      refine lv_aload_n hx hb dX4_passTimeIn_39 rfl (lv_at hl 0 rfl) ?_
      refine gt_1_0 C (fun _ h => List.mem_cons_of_mem _ (List.mem_append_right _ h)) (hts _ (List.mem_of_getElem? (i := 3) rfl)) w dX4_passTimeIn_40 ?_
      refine lv_aload_n hx hb dX4_passTimeIn_43 rfl (lv_at hl 0 rfl) ?_
      refine gt_1_2 C (fun _ h => List.mem_cons_of_mem _ (List.mem_append_right _ h)) (hts _ (List.mem_of_getElem? (i := 4) rfl)) w (v := (mu 1 2)) rfl dX4_passTimeIn_44 ?_
      refine ia_2 C w (vin_i hJ.1.1 hJ.1.2) (v := (mu 2 (mu 1 2).toNatClampNeg)) rfl dX4_passTimeIn_47 ?_
      refine pt_1_11 C (fun _ h => List.mem_cons_of_mem _ (List.mem_append_right _ h)) (hts _ (List.mem_of_getElem? (i := 5) rfl)) w dX4_passTimeIn_48 (fun H locs w => ?_)
      refine lv_aload_n hx hb dX4_passTimeIn_51 rfl (lv_at hl 0 rfl) ?_
      refine lv_aload_n hx hb dX4_passTimeIn_52 rfl (lv_at hl 0 rfl) ?_
      refine gt_1_2 C (fun _ h => List.mem_cons_of_mem _ (List.mem_append_right _ h)) (hts _ (List.mem_of_getElem? (i := 4) rfl)) w (v := (mu 1 2)) rfl dX4_passTimeIn_53 ?_
      refine lv_iconst (v := 1) hx hb dX4_passTimeIn_56 (by decide) ?_
      refine lv_iadd hx hb dX4_passTimeIn_57 ?_
      refine lv_bipush (v := 64) hx hb dX4_passTimeIn_58 (by decide) ?_
      refine lv_irem hx hb dX4_passTimeIn_60 (by decide) ?_
      refine pt_1_2 C (fun _ h => List.mem_cons_of_mem _ (List.mem_append_right _ h)) (hts _ (List.mem_of_getElem? (i := 4) rfl)) w dX4_passTimeIn_61 (fun H locs w => ?_)
      refine lv_aload_n hx hb dX4_passTimeIn_64 rfl (lv_at hl 0 rfl) ?_
      refine lv_dup hx hb dX4_passTimeIn_65 rfl ?_
      refine gt_1_3 C (fun _ h => List.mem_cons_of_mem _ (List.mem_append_right _ h)) (hts _ (List.mem_of_getElem? (i := 2) rfl)) w (v := (mu 1 3)) rfl dX4_passTimeIn_66 ?_
      refine lv_iconst (v := 1) hx hb dX4_passTimeIn_69 (by decide) ?_
      refine lv_isub hx hb dX4_passTimeIn_70 ?_
      refine pt_1_3 C (fun _ h => List.mem_cons_of_mem _ (List.mem_append_right _ h)) (hts _ (List.mem_of_getElem? (i := 2) rfl)) w dX4_passTimeIn_71 (fun H locs w => ?_)
      refine lv_aload_n hx hb dX4_passTimeIn_74 rfl (lv_at hl 0 rfl) ?_
      refine lv_aload_n hx hb dX4_passTimeIn_75 rfl (lv_at hl 0 rfl) ?_
      refine kcI (k := 1) (ci := 4) (As := []) (rest := [.ref (ad 1)]) C w rfl rfl (c_Sc_stepsOfByte l A D cA tb ad (ps (ps (ps mu 1 11 (mu 2 (mu 1 2).toNatClampNeg)) 1 2 (((mu 1 2) + 1) - ((mu 1 2) + 1) / 64 * 64)) 1 3 ((mu 1 3) - 1)) nu) (cwV 0 hts gX4_passTimeIn_X4_stepsOfByte rfl rfl rfl (by decide +kernel) ⟨Nat.le_of_ble_eq_true rfl, Nat.le_of_ble_eq_true rfl⟩) rfl rfl hl.1 (Nat.le_of_ble_eq_true rfl) dX4_passTimeIn_76 (fun H locs w => ?_)
      refine pt_1_13 C (fun _ h => List.mem_cons_of_mem _ (List.mem_append_right _ h)) (hts _ (List.mem_of_getElem? (i := 1) rfl)) w dX4_passTimeIn_79 (fun H locs w => ?_)
      exact retV C w dX4_passTimeIn_82
  · rw [if_neg h4]
    refine lv_aload_n hx hb dX4_passTimeIn_7 rfl (lv_at hl 0 rfl) ?_
    refine lv_dup hx hb dX4_passTimeIn_8 rfl ?_
    refine gt_1_13 C (fun _ h => List.mem_cons_of_mem _ (List.mem_append_right _ h)) (hts _ (List.mem_of_getElem? (i := 1) rfl)) w (v := (mu 1 13)) rfl dX4_passTimeIn_9 ?_
    refine lv_iconst (v := 1) hx hb dX4_passTimeIn_12 (by decide) ?_
    refine lv_isub hx hb dX4_passTimeIn_13 ?_
    refine pt_1_13 C (fun _ h => List.mem_cons_of_mem _ (List.mem_append_right _ h)) (hts _ (List.mem_of_getElem? (i := 1) rfl)) w dX4_passTimeIn_14 (fun H locs w => ?_)
    refine lv_aload_n hx hb dX4_passTimeIn_17 rfl (lv_at hl 0 rfl) ?_
    refine gt_1_13 C (fun _ h => List.mem_cons_of_mem _ (List.mem_append_right _ h)) (hts _ (List.mem_of_getElem? (i := 1) rfl)) w (v := ((mu 1 13) - 1)) rfl dX4_passTimeIn_18 ?_
    refine lv_if_ne (tgt := 82) hx hb dX4_passTimeIn_21 (by decide) (fun h21 => ?_) (fun h21 => ?_)
    · rw [if_neg h21]
      exact retV C w dX4_passTimeIn_82
    · rw [if_pos h21]
      refine lv_aload_n hx hb dX4_passTimeIn_24 rfl (lv_at hl 0 rfl) ?_
      refine kcV (k := 1) (ci := 4) (As := []) (rest := []) C w rfl rfl (c_Sc_takeIn l A D cA tb ad (ps mu 1 13 ((mu 1 13) - 1)) nu) (cwV 0 hts gX4_passTimeIn_X4_takeIn rfl rfl rfl (by decide +kernel) ⟨Nat.le_of_ble_eq_true rfl, Nat.le_of_ble_eq_true rfl⟩) rfl rfl hl.1 (Nat.le_of_ble_eq_true rfl) dX4_passTimeIn_25 (fun H locs w => ?_)
      refine lv_goto (tgt := 82) hx hb dX4_passTimeIn_28 (by decide) ?_
      exact retV C w dX4_passTimeIn_82
set_option maxHeartbeats 4000000 in
set_option maxRecDepth 100000 in
theorem c_Sc_passTimeIn (l : Launch) (A : Nat → Prop) (D : va_G) (cA : Nat → ClassId) (tb : Nat) (ad : Nat → Nat) (mu nu : Mu) (hJ : Jc mu) : Met l yX4_passTimeIn wsX4_passTimeIn ({ frames := 1, cells := 0, slots := 0, locals := 20 }) (va_Pc [.ref (ad 1)] (Pw A D cA tb ad mu nu)) (va_Qv (fun (u : Mu × Mu) => u = (F_Sc_passTimeIn mu, nu)) (Bw A D cA ad) A) 0 0 A := by
  refine Met.ofW (cc := cX4_passTimeIn) (maxL := 1) (ret := none) (by decide) rfl ?_
  intro p e s m args below meth c s₁ B hml hv
  obtain ⟨rfl, w0⟩ := hv
  have C : Cx cX4_passTimeIn 1 none wsX4_passTimeIn RX4 A D cA tb p s m _ meth c := ⟨B.exec, B.bytes, B.returns, hml, findClass_of_methodNamed B.named, atoms_spec (ws := wsX4_passTimeIn) B.pre, B.notSynchronized, w0.2.1, w0.2.2.2.1, w0.2.2.2.2⟩
  have hl := lv_entry ([.ref (ad 1)]) (n := 1) (Nat.le_of_ble_eq_true rfl)
  rw [lg_entry_eq]
  exact k_Sc_passTimeIn C w0.wd hl hJ
theorem pi_J {mu : Mu} (hJ : Jc mu) : Jc (F_Sc_passTimeIn mu) := by
  unfold F_Sc_passTimeIn
  split
  · split
    · exact hJ
    · rename_i h1 h2
      obtain ⟨⟨a1, a2⟩, ⟨b1, b2⟩, c⟩ := hJ
      have e1 : (1 : Int32).toInt = 1 := by decide
      have e0 : (0 : Int32).toInt = 0 := by decide
      rw [i_le, e0] at h2
      have q : (mu 1 2 + 1).toInt = (mu 1 2).toInt + 1 := by rw [i_add (by omega) (by omega), e1]
      obtain ⟨r1, r2⟩ := i_rem64 (x := mu 1 2 + 1) (by omega)
      have r3 := vp_in_iff.mp r1
      have s : (mu 1 3 - 1).toInt = (mu 1 3).toInt - 1 := by rw [i_sub (by omega) (by omega), e1]
      refine ⟨⟨r3.1, r3.2⟩, ⟨?_, ?_⟩, c⟩
      · show 0 ≤ (mu 1 3 - 1).toInt
        omega
      · show (mu 1 3 - 1).toInt ≤ 64
        omega
  · split
    · unfold F_Sc_takeIn; split <;> exact hJ
    · exact hJ
def F_Sc_passTimeOut (mu : Mu) : Mu := (if (mu 1 14) ≤ (0 : Int32) then (if (mu 1 9) = (0 : Int32) then mu else (ps (ps (ps mu 1 9 0) 1 12 (mu 1 10)) 1 14 (F_Sc_stepsOfByte (ps (ps mu 1 9 0) 1 12 (mu 1 10))))) else (if ((mu 1 14) - 1) = (0 : Int32) then (if (256 : Int32) ≤ (mu 1 4) then (ps mu 1 14 ((mu 1 14) - 1)) else (ps (ps (ps mu 1 14 ((mu 1 14) - 1)) 3 (mu 1 4).toNatClampNeg (mu 1 12)) 1 4 ((mu 1 4) + 1))) else (ps mu 1 14 ((mu 1 14) - 1))))
set_option maxHeartbeats 4000000 in
set_option maxRecDepth 100000 in
theorem k_Sc_passTimeOut (C : Cx cX4_passTimeOut 1 none wsX4_passTimeOut RX4 A D cA tb p s m args meth c) {mu nu : Mu} {H : Heap} {locs : List Loc} {ls : Array Slot} (w : Wd A D cA ad s mu nu H locs) (hl : lv_has ls 1 [(0, .ref (ad 1))]) (hJ : Jc mu) : W p l e { frames := 1, cells := 0, slots := 0, locals := 20 } s m args below meth c H locs 0 0 (QV A D cA ad below args s (F_Sc_passTimeOut mu) nu) (F0 m 0 ls []) := by
  have hx := C.1
  have hb := C.2.1
  have hts := C.2.2.2.2.2.1
  have hown := C.2.2.2.2.1
  unfold F_Sc_passTimeOut
  refine lv_aload_n hx hb dX4_passTimeOut_0 rfl (lv_at hl 0 rfl) ?_
  refine gt_1_14 C (fun _ h => List.mem_cons_of_mem _ (List.mem_append_right _ h)) (hts _ (List.mem_of_getElem? (i := 1) rfl)) w (v := (mu 1 14)) rfl dX4_passTimeOut_1 ?_
  refine lv_if_le (tgt := 60) hx hb dX4_passTimeOut_4 (by decide) (fun h4 => ?_) (fun h4 => ?_)
  · rw [if_pos h4]
    refine lv_aload_n hx hb dX4_passTimeOut_60 rfl (lv_at hl 0 rfl) ?_
    refine gt_1_9 C (fun _ h => List.mem_cons_of_mem _ (List.mem_append_right _ h)) (hts _ (List.mem_of_getElem? (i := 5) rfl)) w (v := (mu 1 9)) rfl dX4_passTimeOut_61 ?_
    refine lv_if_eq (tgt := 88) hx hb dX4_passTimeOut_64 (by decide) (fun h64 => ?_) (fun h64 => ?_)
    · rw [if_pos h64]
      exact retV C w dX4_passTimeOut_88
    · rw [if_neg h64]
      refine lv_aload_n hx hb dX4_passTimeOut_67 rfl (lv_at hl 0 rfl) ?_
      refine lv_iconst (v := 0) hx hb dX4_passTimeOut_68 (by decide) ?_
      refine pt_1_9 C (fun _ h => List.mem_cons_of_mem _ (List.mem_append_right _ h)) (hts _ (List.mem_of_getElem? (i := 5) rfl)) w (Or.inl rfl) dX4_passTimeOut_69 (fun H locs w => ?_)
      refine lv_aload_n hx hb dX4_passTimeOut_72 rfl (lv_at hl 0 rfl) ?_
      refine lv_aload_n hx hb dX4_passTimeOut_73 rfl (lv_at hl 0 rfl) ?_
      refine gt_1_10 C (fun _ h => List.mem_cons_of_mem _ (List.mem_append_right _ h)) (hts _ (List.mem_of_getElem? (i := 6) rfl)) w (v := (mu 1 10)) rfl dX4_passTimeOut_74 ?_
      refine pt_1_12 C (fun _ h => List.mem_cons_of_mem _ (List.mem_append_right _ h)) (hts _ (List.mem_of_getElem? (i := 4) rfl)) w dX4_passTimeOut_77 (fun H locs w => ?_)
      refine lv_aload_n hx hb dX4_passTimeOut_80 rfl (lv_at hl 0 rfl) ?_
      refine lv_aload_n hx hb dX4_passTimeOut_81 rfl (lv_at hl 0 rfl) ?_
      refine kcI (k := 1) (ci := 4) (As := []) (rest := [.ref (ad 1)]) C w rfl rfl (c_Sc_stepsOfByte l A D cA tb ad (ps (ps mu 1 9 0) 1 12 (mu 1 10)) nu) (cwV 0 hts gX4_passTimeOut_X4_stepsOfByte rfl rfl rfl (by decide +kernel) ⟨Nat.le_of_ble_eq_true rfl, Nat.le_of_ble_eq_true rfl⟩) rfl rfl hl.1 (Nat.le_of_ble_eq_true rfl) dX4_passTimeOut_82 (fun H locs w => ?_)
      refine pt_1_14 C (fun _ h => List.mem_cons_of_mem _ (List.mem_append_right _ h)) (hts _ (List.mem_of_getElem? (i := 1) rfl)) w dX4_passTimeOut_85 (fun H locs w => ?_)
      exact retV C w dX4_passTimeOut_88
  · rw [if_neg h4]
    refine lv_aload_n hx hb dX4_passTimeOut_7 rfl (lv_at hl 0 rfl) ?_
    refine lv_dup hx hb dX4_passTimeOut_8 rfl ?_
    refine gt_1_14 C (fun _ h => List.mem_cons_of_mem _ (List.mem_append_right _ h)) (hts _ (List.mem_of_getElem? (i := 1) rfl)) w (v := (mu 1 14)) rfl dX4_passTimeOut_9 ?_
    refine lv_iconst (v := 1) hx hb dX4_passTimeOut_12 (by decide) ?_
    refine lv_isub hx hb dX4_passTimeOut_13 ?_
    refine pt_1_14 C (fun _ h => List.mem_cons_of_mem _ (List.mem_append_right _ h)) (hts _ (List.mem_of_getElem? (i := 1) rfl)) w dX4_passTimeOut_14 (fun H locs w => ?_)
    refine lv_aload_n hx hb dX4_passTimeOut_17 rfl (lv_at hl 0 rfl) ?_
    refine gt_1_14 C (fun _ h => List.mem_cons_of_mem _ (List.mem_append_right _ h)) (hts _ (List.mem_of_getElem? (i := 1) rfl)) w (v := ((mu 1 14) - 1)) rfl dX4_passTimeOut_18 ?_
    refine lv_if_ne (tgt := 88) hx hb dX4_passTimeOut_21 (by decide) (fun h21 => ?_) (fun h21 => ?_)
    · rw [if_neg h21]
      exact retV C w dX4_passTimeOut_88
    · rw [if_pos h21]
      refine lv_aload_n hx hb dX4_passTimeOut_24 rfl (lv_at hl 0 rfl) ?_
      refine gt_1_4 C (fun _ h => List.mem_cons_of_mem _ (List.mem_append_right _ h)) (hts _ (List.mem_of_getElem? (i := 2) rfl)) w (v := (mu 1 4)) rfl dX4_passTimeOut_25 ?_
      refine lv_sipush (v := 256) hx hb dX4_passTimeOut_28 (by decide) ?_
      refine lv_icmp_ge (tgt := 88) hx hb dX4_passTimeOut_31 (by decide) (fun h31 => ?_) (fun h31 => ?_)
      · rw [if_pos h31]
        exact retV C w dX4_passTimeOut_88
      · rw [if_neg h31]
        refine lv_aload_n hx hb dX4_passTimeOut_34 rfl (lv_at hl 0 rfl) ?_
        refine gt_1_1 C (fun _ h => List.mem_cons_of_mem _ (List.mem_append_right _ h)) (hts _ (List.mem_of_getElem? (i := 3) rfl)) w dX4_passTimeOut_35 ?_
        refine lv_aload_n hx hb dX4_passTimeOut_38 rfl (lv_at hl 0 rfl) ?_
        refine gt_1_4 C (fun _ h => List.mem_cons_of_mem _ (List.mem_append_right _ h)) (hts _ (List.mem_of_getElem? (i := 2) rfl)) w (v := (mu 1 4)) rfl dX4_passTimeOut_39 ?_
        refine lv_aload_n hx hb dX4_passTimeOut_42 rfl (lv_at hl 0 rfl) ?_
        refine gt_1_12 C (fun _ h => List.mem_cons_of_mem _ (List.mem_append_right _ h)) (hts _ (List.mem_of_getElem? (i := 4) rfl)) w (v := (mu 1 12)) rfl dX4_passTimeOut_43 ?_
        refine is_3 C w (vin_nge (b := 256) (by decide) hJ.2.2.1 h31) dX4_passTimeOut_46 (fun H locs w => ?_)
        refine lv_aload_n hx hb dX4_passTimeOut_47 rfl (lv_at hl 0 rfl) ?_
        refine lv_dup hx hb dX4_passTimeOut_48 rfl ?_
        refine gt_1_4 C (fun _ h => List.mem_cons_of_mem _ (List.mem_append_right _ h)) (hts _ (List.mem_of_getElem? (i := 2) rfl)) w (v := (mu 1 4)) rfl dX4_passTimeOut_49 ?_
        refine lv_iconst (v := 1) hx hb dX4_passTimeOut_52 (by decide) ?_
        refine lv_iadd hx hb dX4_passTimeOut_53 ?_
        refine pt_1_4 C (fun _ h => List.mem_cons_of_mem _ (List.mem_append_right _ h)) (hts _ (List.mem_of_getElem? (i := 2) rfl)) w dX4_passTimeOut_54 (fun H locs w => ?_)
        refine lv_goto (tgt := 88) hx hb dX4_passTimeOut_57 (by decide) ?_
        exact retV C w dX4_passTimeOut_88
set_option maxHeartbeats 4000000 in
set_option maxRecDepth 100000 in
theorem c_Sc_passTimeOut (l : Launch) (A : Nat → Prop) (D : va_G) (cA : Nat → ClassId) (tb : Nat) (ad : Nat → Nat) (mu nu : Mu) (hJ : Jc mu) : Met l yX4_passTimeOut wsX4_passTimeOut ({ frames := 1, cells := 0, slots := 0, locals := 20 }) (va_Pc [.ref (ad 1)] (Pw A D cA tb ad mu nu)) (va_Qv (fun (u : Mu × Mu) => u = (F_Sc_passTimeOut mu, nu)) (Bw A D cA ad) A) 0 0 A := by
  refine Met.ofW (cc := cX4_passTimeOut) (maxL := 1) (ret := none) (by decide) rfl ?_
  intro p e s m args below meth c s₁ B hml hv
  obtain ⟨rfl, w0⟩ := hv
  have C : Cx cX4_passTimeOut 1 none wsX4_passTimeOut RX4 A D cA tb p s m _ meth c := ⟨B.exec, B.bytes, B.returns, hml, findClass_of_methodNamed B.named, atoms_spec (ws := wsX4_passTimeOut) B.pre, B.notSynchronized, w0.2.1, w0.2.2.2.1, w0.2.2.2.2⟩
  have hl := lv_entry ([.ref (ad 1)]) (n := 1) (Nat.le_of_ble_eq_true rfl)
  rw [lg_entry_eq]
  exact k_Sc_passTimeOut C w0.wd hl hJ
def F_Sc_passTime_11 (mu : Mu) : Mu := (F_Sc_passTimeOut mu)
set_option maxHeartbeats 4000000 in
set_option maxRecDepth 100000 in
theorem k_Sc_passTime_11 (C : Cx cX4_passTime 1 none wsX4_passTime RX4 A D cA tb p s m args meth c) {mu nu : Mu} {H : Heap} {locs : List Loc} {ls : Array Slot} (w : Wd A D cA ad s mu nu H locs) (hl : lv_has ls 1 [(0, .ref (ad 1))]) (hJ : Jc mu) : W p l e { frames := 2, cells := 0, slots := 0, locals := 40 } s m args below meth c H locs 0 0 (QV A D cA ad below args s (F_Sc_passTime_11 mu) nu) (F0 m 11 ls []) := by
  have hx := C.1
  have hb := C.2.1
  have hts := C.2.2.2.2.2.1
  have hown := C.2.2.2.2.1
  unfold F_Sc_passTime_11
  refine lv_aload_n hx hb dX4_passTime_11 rfl (lv_at hl 0 rfl) ?_
  refine kcV (k := 1) (ci := 4) (As := []) (rest := []) C w rfl rfl (c_Sc_passTimeOut l A D cA tb ad mu nu hJ) (cwV 0 hts gX4_passTime_X4_passTimeOut rfl rfl rfl (by decide +kernel) ⟨Nat.le_of_ble_eq_true rfl, Nat.le_of_ble_eq_true rfl⟩) rfl rfl hl.1 (Nat.le_of_ble_eq_true rfl) dX4_passTime_12 (fun H locs w => ?_)
  exact retV C w dX4_passTime_15
def F_Sc_passTime (mu : Mu) : Mu := (if (mu 1 6) = (0 : Int32) then F_Sc_passTime_11 (F_Sc_passTimeIn mu) else mu)
set_option maxHeartbeats 4000000 in
set_option maxRecDepth 100000 in
theorem k_Sc_passTime (C : Cx cX4_passTime 1 none wsX4_passTime RX4 A D cA tb p s m args meth c) {mu nu : Mu} {H : Heap} {locs : List Loc} {ls : Array Slot} (w : Wd A D cA ad s mu nu H locs) (hl : lv_has ls 1 [(0, .ref (ad 1))]) (hJ : Jc mu) : W p l e { frames := 2, cells := 0, slots := 0, locals := 40 } s m args below meth c H locs 0 0 (QV A D cA ad below args s (F_Sc_passTime mu) nu) (F0 m 0 ls []) := by
  have hx := C.1
  have hb := C.2.1
  have hts := C.2.2.2.2.2.1
  have hown := C.2.2.2.2.1
  unfold F_Sc_passTime
  refine lv_aload_n hx hb dX4_passTime_0 rfl (lv_at hl 0 rfl) ?_
  refine gt_1_6 C (fun _ h => List.mem_cons_of_mem _ (List.mem_append_right _ h)) (hts _ (List.mem_of_getElem? (i := 1) rfl)) w (v := (mu 1 6)) rfl dX4_passTime_1 ?_
  refine lv_if_ne (tgt := 15) hx hb dX4_passTime_4 (by decide) (fun h4 => ?_) (fun h4 => ?_)
  · rw [if_neg h4]
    exact retV C w dX4_passTime_15
  · rw [if_pos h4]
    refine lv_aload_n hx hb dX4_passTime_7 rfl (lv_at hl 0 rfl) ?_
    refine kcV (k := 1) (ci := 4) (As := []) (rest := []) C w rfl rfl (c_Sc_passTimeIn l A D cA tb ad mu nu hJ) (cwV 0 hts gX4_passTime_X4_passTimeIn rfl rfl rfl (by decide +kernel) ⟨Nat.le_of_ble_eq_true rfl, Nat.le_of_ble_eq_true rfl⟩) rfl rfl hl.1 (Nat.le_of_ble_eq_true rfl) dX4_passTime_8 (fun H locs w => ?_)
    exact k_Sc_passTime_11 C w (lv_sub hl [0] rfl) (pi_J hJ)
set_option maxHeartbeats 4000000 in
set_option maxRecDepth 100000 in
theorem c_Sc_passTime (l : Launch) (A : Nat → Prop) (D : va_G) (cA : Nat → ClassId) (tb : Nat) (ad : Nat → Nat) (mu nu : Mu) (hJ : Jc mu) : Met l yX4_passTime wsX4_passTime ({ frames := 2, cells := 0, slots := 0, locals := 40 }) (va_Pc [.ref (ad 1)] (Pw A D cA tb ad mu nu)) (va_Qv (fun (u : Mu × Mu) => u = (F_Sc_passTime mu, nu)) (Bw A D cA ad) A) 0 0 A := by
  refine Met.ofW (cc := cX4_passTime) (maxL := 1) (ret := none) (by decide) rfl ?_
  intro p e s m args below meth c s₁ B hml hv
  obtain ⟨rfl, w0⟩ := hv
  have C : Cx cX4_passTime 1 none wsX4_passTime RX4 A D cA tb p s m _ meth c := ⟨B.exec, B.bytes, B.returns, hml, findClass_of_methodNamed B.named, atoms_spec (ws := wsX4_passTime) B.pre, B.notSynchronized, w0.2.1, w0.2.2.2.1, w0.2.2.2.2⟩
  have hl := lv_entry ([.ref (ad 1)]) (n := 1) (Nat.le_of_ble_eq_true rfl)
  rw [lg_entry_eq]
  exact k_Sc_passTime C w0.wd hl hJ
def F_Sc_writeData (x1 : Int32) (mu : Mu) : Mu := (if (mu 1 6) = (0 : Int32) then (ps (ps mu 1 10 x1) 1 9 1) else mu)
set_option maxHeartbeats 4000000 in
set_option maxRecDepth 100000 in
theorem k_Sc_writeData (C : Cx cX4_writeData 2 none wsX4_writeData RX4 A D cA tb p s m args meth c) {mu nu : Mu} {x1 : Int32} {H : Heap} {locs : List Loc} {ls : Array Slot} (w : Wd A D cA ad s mu nu H locs) (hl : lv_has ls 2 [(0, .ref (ad 1)), (1, .int x1)]) : W p l e { frames := 0, cells := 0, slots := 0, locals := 0 } s m args below meth c H locs 0 0 (QV A D cA ad below args s (F_Sc_writeData x1 mu) nu) (F0 m 0 ls []) := by
  have hx := C.1
  have hb := C.2.1
  have hts := C.2.2.2.2.2.1
  have hown := C.2.2.2.2.1
  unfold F_Sc_writeData
  refine lv_aload_n hx hb dX4_writeData_0 rfl (lv_at hl 0 rfl) ?_
  refine gt_1_6 C (fun _ h => List.mem_cons_of_mem _ (List.mem_append_right _ h)) (hts _ (List.mem_of_getElem? (i := 1) rfl)) w (v := (mu 1 6)) rfl dX4_writeData_1 ?_
  refine lv_if_ne (tgt := 17) hx hb dX4_writeData_4 (by decide) (fun h4 => ?_) (fun h4 => ?_)
  · rw [if_neg h4]
    exact retV C w dX4_writeData_17
  · rw [if_pos h4]
    refine lv_aload_n hx hb dX4_writeData_7 rfl (lv_at hl 0 rfl) ?_
    refine lv_iload_n hx hb dX4_writeData_8 rfl (lv_at hl 1 rfl) ?_
    refine pt_1_10 C (fun _ h => List.mem_cons_of_mem _ (List.mem_append_right _ h)) (hts _ (List.mem_of_getElem? (i := 2) rfl)) w dX4_writeData_9 (fun H locs w => ?_)
    refine lv_aload_n hx hb dX4_writeData_12 rfl (lv_at hl 0 rfl) ?_
    refine lv_iconst (v := 1) hx hb dX4_writeData_13 (by decide) ?_
    refine pt_1_9 C (fun _ h => List.mem_cons_of_mem _ (List.mem_append_right _ h)) (hts _ (List.mem_of_getElem? (i := 3) rfl)) w (Or.inr rfl) dX4_writeData_14 (fun H locs w => ?_)
    exact retV C w dX4_writeData_17
set_option maxHeartbeats 4000000 in
set_option maxRecDepth 100000 in
theorem c_Sc_writeData (l : Launch) (A : Nat → Prop) (D : va_G) (cA : Nat → ClassId) (tb : Nat) (ad : Nat → Nat) (mu nu : Mu) (x1 : Int32) : Met l yX4_writeData wsX4_writeData ({ frames := 0, cells := 0, slots := 0, locals := 0 }) (va_Pc [.ref (ad 1), .int x1] (Pw A D cA tb ad mu nu)) (va_Qv (fun (u : Mu × Mu) => u = (F_Sc_writeData x1 mu, nu)) (Bw A D cA ad) A) 0 0 A := by
  refine Met.ofW (cc := cX4_writeData) (maxL := 2) (ret := none) (by decide) rfl ?_
  intro p e s m args below meth c s₁ B hml hv
  obtain ⟨rfl, w0⟩ := hv
  have C : Cx cX4_writeData 2 none wsX4_writeData RX4 A D cA tb p s m _ meth c := ⟨B.exec, B.bytes, B.returns, hml, findClass_of_methodNamed B.named, atoms_spec (ws := wsX4_writeData) B.pre, B.notSynchronized, w0.2.1, w0.2.2.2.1, w0.2.2.2.2⟩
  have hl := lv_entry ([.ref (ad 1), .int x1]) (n := 2) (Nat.le_of_ble_eq_true rfl)
  rw [lg_entry_eq]
  exact k_Sc_writeData C w0.wd hl
def F_Sc_writeControl_18 (y1 : Int32) (mu : Mu) : Mu := (if y1 = (0 : Int32) then (ps mu 1 6 y1) else (ps (ps (ps (ps (ps (ps mu 1 6 y1) 1 7 0) 1 8 0) 1 9 0) 1 13 0) 1 14 0))
set_option maxHeartbeats 4000000 in
set_option maxRecDepth 100000 in
theorem k_Sc_writeControl_18 (C : Cx cX4_writeControl 2 none wsX4_writeControl RX4 A D cA tb p s m args meth c) {mu nu : Mu} {y1 : Int32} {H : Heap} {locs : List Loc} {ls : Array Slot} (w : Wd A D cA ad s mu nu H locs) (hl : lv_has ls 2 [(0, .ref (ad 1))]) (hby1 : y1 = 0 ∨ y1 = 1) : W p l e { frames := 0, cells := 0, slots := 0, locals := 0 } s m args below meth c H locs 0 0 (QV A D cA ad below args s (F_Sc_writeControl_18 y1 mu) nu) (F0 m 18 ls [.int y1, .ref (ad 1)]) := by
  have hx := C.1
  have hb := C.2.1
  have hts := C.2.2.2.2.2.1
  have hown := C.2.2.2.2.1
  unfold F_Sc_writeControl_18
  refine pt_1_6 C (fun _ h => List.mem_cons_of_mem _ (List.mem_append_right _ h)) (hts _ (List.mem_of_getElem? (i := 2) rfl)) w hby1 dX4_writeControl_18 (fun H locs w => ?_)
  refine lv_aload_n hx hb dX4_writeControl_21 rfl (lv_at hl 0 rfl) ?_
  refine gt_1_6 C (fun _ h => List.mem_cons_of_mem _ (List.mem_append_right _ h)) (hts _ (List.mem_of_getElem? (i := 2) rfl)) w (v := y1) rfl dX4_writeControl_22 ?_
  refine lv_if_eq (tgt := 53) hx hb dX4_writeControl_25 (by decide) (fun h25 => ?_) (fun h25 => ?_)
  · rw [if_pos h25]
    exact retV C w dX4_writeControl_53
  · rw [if_neg h25]
    refine lv_aload_n hx hb dX4_writeControl_28 rfl (lv_at hl 0 rfl) ?_
    refine lv_iconst (v := 0) hx hb dX4_writeControl_29 (by decide) ?_
    refine pt_1_7 C (fun _ h => List.mem_cons_of_mem _ (List.mem_append_right _ h)) (hts _ (List.mem_of_getElem? (i := 3) rfl)) w (Or.inl rfl) dX4_writeControl_30 (fun H locs w => ?_)
    refine lv_aload_n hx hb dX4_writeControl_33 rfl (lv_at hl 0 rfl) ?_
    refine lv_iconst (v := 0) hx hb dX4_writeControl_34 (by decide) ?_
    refine pt_1_8 C (fun _ h => List.mem_cons_of_mem _ (List.mem_append_right _ h)) (hts _ (List.mem_of_getElem? (i := 4) rfl)) w (Or.inl rfl) dX4_writeControl_35 (fun H locs w => ?_)
    refine lv_aload_n hx hb dX4_writeControl_38 rfl (lv_at hl 0 rfl) ?_
    refine lv_iconst (v := 0) hx hb dX4_writeControl_39 (by decide) ?_
    refine pt_1_9 C (fun _ h => List.mem_cons_of_mem _ (List.mem_append_right _ h)) (hts _ (List.mem_of_getElem? (i := 5) rfl)) w (Or.inl rfl) dX4_writeControl_40 (fun H locs w => ?_)
    refine lv_aload_n hx hb dX4_writeControl_43 rfl (lv_at hl 0 rfl) ?_
    refine lv_iconst (v := 0) hx hb dX4_writeControl_44 (by decide) ?_
    refine pt_1_13 C (fun _ h => List.mem_cons_of_mem _ (List.mem_append_right _ h)) (hts _ (List.mem_of_getElem? (i := 6) rfl)) w dX4_writeControl_45 (fun H locs w => ?_)
    refine lv_aload_n hx hb dX4_writeControl_48 rfl (lv_at hl 0 rfl) ?_
    refine lv_iconst (v := 0) hx hb dX4_writeControl_49 (by decide) ?_
    refine pt_1_14 C (fun _ h => List.mem_cons_of_mem _ (List.mem_append_right _ h)) (hts _ (List.mem_of_getElem? (i := 7) rfl)) w dX4_writeControl_50 (fun H locs w => ?_)
    exact retV C w dX4_writeControl_53
def F_Sc_writeControl (x1 : Int32) (mu : Mu) : Mu := (if (x1 &&& 3) = (3 : Int32) then F_Sc_writeControl_18 1 (ps mu 1 5 x1) else F_Sc_writeControl_18 0 (ps mu 1 5 x1))
set_option maxHeartbeats 4000000 in
set_option maxRecDepth 100000 in
theorem k_Sc_writeControl (C : Cx cX4_writeControl 2 none wsX4_writeControl RX4 A D cA tb p s m args meth c) {mu nu : Mu} {x1 : Int32} {H : Heap} {locs : List Loc} {ls : Array Slot} (w : Wd A D cA ad s mu nu H locs) (hl : lv_has ls 2 [(0, .ref (ad 1)), (1, .int x1)]) : W p l e { frames := 0, cells := 0, slots := 0, locals := 0 } s m args below meth c H locs 0 0 (QV A D cA ad below args s (F_Sc_writeControl x1 mu) nu) (F0 m 0 ls []) := by
  have hx := C.1
  have hb := C.2.1
  have hts := C.2.2.2.2.2.1
  have hown := C.2.2.2.2.1
  unfold F_Sc_writeControl
  refine lv_aload_n hx hb dX4_writeControl_0 rfl (lv_at hl 0 rfl) ?_
  refine lv_iload_n hx hb dX4_writeControl_1 rfl (lv_at hl 1 rfl) ?_
  refine pt_1_5 C (fun _ h => List.mem_cons_of_mem _ (List.mem_append_right _ h)) (hts _ (List.mem_of_getElem? (i := 1) rfl)) w dX4_writeControl_2 (fun H locs w => ?_)
  refine lv_aload_n hx hb dX4_writeControl_5 rfl (lv_at hl 0 rfl) ?_
  refine lv_iload_n hx hb dX4_writeControl_6 rfl (lv_at hl 1 rfl) ?_
  refine lv_iconst (v := 3) hx hb dX4_writeControl_7 (by decide) ?_
  refine lv_iand hx hb dX4_writeControl_8 ?_
  refine lv_iconst (v := 3) hx hb dX4_writeControl_9 (by decide) ?_
  refine lv_icmp_ne (tgt := 17) hx hb dX4_writeControl_10 (by decide) (fun h10 => ?_) (fun h10 => ?_)
  · rw [if_neg h10]
    refine lv_iconst (v := 0) hx hb dX4_writeControl_17 (by decide) ?_
    exact k_Sc_writeControl_18 C w (lv_sub hl [0] rfl) (Or.inl rfl)
  · rw [if_pos h10]
    refine lv_iconst (v := 1) hx hb dX4_writeControl_13 (by decide) ?_
    refine lv_goto (tgt := 18) hx hb dX4_writeControl_14 (by decide) ?_
    exact k_Sc_writeControl_18 C w (lv_sub hl [0] rfl) (Or.inr rfl)
set_option maxHeartbeats 4000000 in
set_option maxRecDepth 100000 in
theorem c_Sc_writeControl (l : Launch) (A : Nat → Prop) (D : va_G) (cA : Nat → ClassId) (tb : Nat) (ad : Nat → Nat) (mu nu : Mu) (x1 : Int32) : Met l yX4_writeControl wsX4_writeControl ({ frames := 0, cells := 0, slots := 0, locals := 0 }) (va_Pc [.ref (ad 1), .int x1] (Pw A D cA tb ad mu nu)) (va_Qv (fun (u : Mu × Mu) => u = (F_Sc_writeControl x1 mu, nu)) (Bw A D cA ad) A) 0 0 A := by
  refine Met.ofW (cc := cX4_writeControl) (maxL := 2) (ret := none) (by decide) rfl ?_
  intro p e s m args below meth c s₁ B hml hv
  obtain ⟨rfl, w0⟩ := hv
  have C : Cx cX4_writeControl 2 none wsX4_writeControl RX4 A D cA tb p s m _ meth c := ⟨B.exec, B.bytes, B.returns, hml, findClass_of_methodNamed B.named, atoms_spec (ws := wsX4_writeControl) B.pre, B.notSynchronized, w0.2.1, w0.2.2.2.1, w0.2.2.2.2⟩
  have hl := lv_entry ([.ref (ad 1), .int x1]) (n := 2) (Nat.le_of_ble_eq_true rfl)
  rw [lg_entry_eq]
  exact k_Sc_writeControl C w0.wd hl
def F_Sc_takeOnLine (x1 : Int32) (mu : Mu) : Int32 × Mu := (if (mu 1 3) < (64 : Int32) then (1, (ps (ps mu 2 (((mu 1 2) + (mu 1 3)) - ((mu 1 2) + (mu 1 3)) / 64 * 64).toNatClampNeg x1) 1 3 ((mu 1 3) + 1))) else (0, mu))
set_option maxHeartbeats 4000000 in
set_option maxRecDepth 100000 in
theorem k_Sc_takeOnLine (C : Cx cX4_takeOnLine 2 (some .boolean) wsX4_takeOnLine RX4 A D cA tb p s m args meth c) {mu nu : Mu} {x1 : Int32} {H : Heap} {locs : List Loc} {ls : Array Slot} (w : Wd A D cA ad s mu nu H locs) (hl : lv_has ls 2 [(0, .ref (ad 1)), (1, .int x1)]) (hJ : Jc mu) : W p l e { frames := 0, cells := 0, slots := 0, locals := 0 } s m args below meth c H locs 0 0 (QI A D cA ad below args s (F_Sc_takeOnLine x1 mu).1 (F_Sc_takeOnLine x1 mu).2 nu) (F0 m 0 ls []) := by
  have hx := C.1
  have hb := C.2.1
  have hts := C.2.2.2.2.2.1
  have hown := C.2.2.2.2.1
  unfold F_Sc_takeOnLine
  refine lv_aload_n hx hb dX4_takeOnLine_0 rfl (lv_at hl 0 rfl) ?_
  refine gt_1_3 C (fun _ h => List.mem_cons_of_mem _ (List.mem_append_right _ h)) (hts _ (List.mem_of_getElem? (i := 1) rfl)) w (v := (mu 1 3)) rfl dX4_takeOnLine_1 ?_
  refine lv_bipush (v := 64) hx hb dX4_takeOnLine_4 (by decide) ?_
  refine lv_icmp_lt (tgt := 11) hx hb dX4_takeOnLine_6 (by decide) (fun h6 => ?_) (fun h6 => ?_)
  · rw [if_pos h6]
    refine lv_aload_n hx hb dX4_takeOnLine_11 rfl (lv_at hl 0 rfl) ?_
    refine gt_1_0 C (fun _ h => List.mem_cons_of_mem _ (List.mem_append_right _ h)) (hts _ (List.mem_of_getElem? (i := 2) rfl)) w dX4_takeOnLine_12 ?_
    refine lv_aload_n hx hb dX4_takeOnLine_15 rfl (lv_at hl 0 rfl) ?_
    refine gt_1_2 C (fun _ h => List.mem_cons_of_mem _ (List.mem_append_right _ h)) (hts _ (List.mem_of_getElem? (i := 3) rfl)) w (v := (mu 1 2)) rfl dX4_takeOnLine_16 ?_
    refine lv_aload_n hx hb dX4_takeOnLine_19 rfl (lv_at hl 0 rfl) ?_
    refine gt_1_3 C (fun _ h => List.mem_cons_of_mem _ (List.mem_append_right _ h)) (hts _ (List.mem_of_getElem? (i := 1) rfl)) w (v := (mu 1 3)) rfl dX4_takeOnLine_20 ?_
    refine lv_iadd hx hb dX4_takeOnLine_23 ?_
    refine lv_bipush (v := 64) hx hb dX4_takeOnLine_24 (by decide) ?_
    refine lv_irem hx hb dX4_takeOnLine_26 (by decide) ?_
    refine lv_iload_n hx hb dX4_takeOnLine_27 rfl (lv_at hl 1 rfl) ?_
    refine is_2 C w (tk_in hJ) dX4_takeOnLine_28 (fun H locs w => ?_)
    refine lv_aload_n hx hb dX4_takeOnLine_29 rfl (lv_at hl 0 rfl) ?_
    refine lv_dup hx hb dX4_takeOnLine_30 rfl ?_
    refine gt_1_3 C (fun _ h => List.mem_cons_of_mem _ (List.mem_append_right _ h)) (hts _ (List.mem_of_getElem? (i := 1) rfl)) w (v := (mu 1 3)) rfl dX4_takeOnLine_31 ?_
    refine lv_iconst (v := 1) hx hb dX4_takeOnLine_34 (by decide) ?_
    refine lv_iadd hx hb dX4_takeOnLine_35 ?_
    refine pt_1_3 C (fun _ h => List.mem_cons_of_mem _ (List.mem_append_right _ h)) (hts _ (List.mem_of_getElem? (i := 1) rfl)) w dX4_takeOnLine_36 (fun H locs w => ?_)
    refine lv_iconst (v := 1) hx hb dX4_takeOnLine_39 (by decide) ?_
    exact retZ C w dX4_takeOnLine_40 (Or.inr rfl)
  · rw [if_neg h6]
    refine lv_iconst (v := 0) hx hb dX4_takeOnLine_9 (by decide) ?_
    exact retZ C w dX4_takeOnLine_10 (Or.inl rfl)
set_option maxHeartbeats 4000000 in
set_option maxRecDepth 100000 in
theorem c_Sc_takeOnLine (l : Launch) (A : Nat → Prop) (D : va_G) (cA : Nat → ClassId) (tb : Nat) (ad : Nat → Nat) (mu nu : Mu) (x1 : Int32) (hJ : Jc mu) : Met l yX4_takeOnLine wsX4_takeOnLine ({ frames := 0, cells := 0, slots := 0, locals := 0 }) (va_Pc [.ref (ad 1), .int x1] (Pw A D cA tb ad mu nu)) (va_Qi (fun (r : Int32) (u : Mu × Mu) => r = (F_Sc_takeOnLine x1 mu).1 ∧ u = ((F_Sc_takeOnLine x1 mu).2, nu)) (Bw A D cA ad) A) 0 0 A := by
  refine Met.ofW (cc := cX4_takeOnLine) (maxL := 2) (ret := (some .boolean)) (by decide) rfl ?_
  intro p e s m args below meth c s₁ B hml hv
  obtain ⟨rfl, w0⟩ := hv
  have C : Cx cX4_takeOnLine 2 (some .boolean) wsX4_takeOnLine RX4 A D cA tb p s m _ meth c := ⟨B.exec, B.bytes, B.returns, hml, findClass_of_methodNamed B.named, atoms_spec (ws := wsX4_takeOnLine) B.pre, B.notSynchronized, w0.2.1, w0.2.2.2.1, w0.2.2.2.2⟩
  have hl := lv_entry ([.ref (ad 1), .int x1]) (n := 2) (Nat.le_of_ble_eq_true rfl)
  rw [lg_entry_eq]
  exact k_Sc_takeOnLine C w0.wd hl hJ
theorem z_Sc_takeOnLine {x : Int32} {mu : Mu} : (F_Sc_takeOnLine x mu).1 = 0 ∨ (F_Sc_takeOnLine x mu).1 = 1 := by
  unfold F_Sc_takeOnLine; split
  · exact Or.inr rfl
  · exact Or.inl rfl
def F_Sc_sentAt (x1 : Int32) (mu : Mu) : Int32 := (if x1 < (0 : Int32) then (-1 : Int32) else (if (mu 1 4) ≤ x1 then (-1 : Int32) else (mu 3 x1.toNatClampNeg)))
set_option maxHeartbeats 4000000 in
set_option maxRecDepth 100000 in
theorem k_Sc_sentAt (C : Cx cX4_sentAt 2 (some .int) wsX4_sentAt RX4 A D cA tb p s m args meth c) {mu nu : Mu} {x1 : Int32} {H : Heap} {locs : List Loc} {ls : Array Slot} (w : Wd A D cA ad s mu nu H locs) (hl : lv_has ls 2 [(0, .ref (ad 1)), (1, .int x1)]) (hJ : Jc mu) : W p l e { frames := 0, cells := 0, slots := 0, locals := 0 } s m args below meth c H locs 0 0 (QI A D cA ad below args s (F_Sc_sentAt x1 mu) mu nu) (F0 m 0 ls []) := by
  have hx := C.1
  have hb := C.2.1
  have hts := C.2.2.2.2.2.1
  have hown := C.2.2.2.2.1
  unfold F_Sc_sentAt
  refine lv_iload_n hx hb dX4_sentAt_0 rfl (lv_at hl 1 rfl) ?_
  refine lv_if_lt (tgt := 21) hx hb dX4_sentAt_1 (by decide) (fun h1 => ?_) (fun h1 => ?_)
  · rw [if_pos h1]
    refine lv_iconst (v := (-1 : Int32)) hx hb dX4_sentAt_21 (by decide) ?_
    exact retI C w dX4_sentAt_22
  · rw [if_neg h1]
    refine lv_iload_n hx hb dX4_sentAt_4 rfl (lv_at hl 1 rfl) ?_
    refine lv_aload_n hx hb dX4_sentAt_5 rfl (lv_at hl 0 rfl) ?_
    refine gt_1_4 C (fun _ h => List.mem_cons_of_mem _ (List.mem_append_right _ h)) (hts _ (List.mem_of_getElem? (i := 1) rfl)) w (v := (mu 1 4)) rfl dX4_sentAt_6 ?_
    refine lv_icmp_ge (tgt := 21) hx hb dX4_sentAt_9 (by decide) (fun h9 => ?_) (fun h9 => ?_)
    · rw [if_pos h9]
      refine lv_iconst (v := (-1 : Int32)) hx hb dX4_sentAt_21 (by decide) ?_
      exact retI C w dX4_sentAt_22
    · rw [if_neg h9]
      refine lv_aload_n hx hb dX4_sentAt_12 rfl (lv_at hl 0 rfl) ?_
      refine gt_1_1 C (fun _ h => List.mem_cons_of_mem _ (List.mem_append_right _ h)) (hts _ (List.mem_of_getElem? (i := 2) rfl)) w dX4_sentAt_13 ?_
      refine lv_iload_n hx hb dX4_sentAt_16 rfl (lv_at hl 1 rfl) ?_
      refine ia_3 C w (vin_nle h1 h9 hJ.2.2.2) (v := (mu 3 x1.toNatClampNeg)) rfl dX4_sentAt_17 ?_
      refine lv_goto (tgt := 22) hx hb dX4_sentAt_18 (by decide) ?_
      exact retI C w dX4_sentAt_22
set_option maxHeartbeats 4000000 in
set_option maxRecDepth 100000 in
theorem c_Sc_sentAt (l : Launch) (A : Nat → Prop) (D : va_G) (cA : Nat → ClassId) (tb : Nat) (ad : Nat → Nat) (mu nu : Mu) (x1 : Int32) (hJ : Jc mu) : Met l yX4_sentAt wsX4_sentAt ({ frames := 0, cells := 0, slots := 0, locals := 0 }) (va_Pc [.ref (ad 1), .int x1] (Pw A D cA tb ad mu nu)) (va_Qi (fun (r : Int32) (u : Mu × Mu) => r = F_Sc_sentAt x1 mu ∧ u = (mu, nu)) (Bw A D cA ad) A) 0 0 A := by
  refine Met.ofW (cc := cX4_sentAt) (maxL := 2) (ret := (some .int)) (by decide) rfl ?_
  intro p e s m args below meth c s₁ B hml hv
  obtain ⟨rfl, w0⟩ := hv
  have C : Cx cX4_sentAt 2 (some .int) wsX4_sentAt RX4 A D cA tb p s m _ meth c := ⟨B.exec, B.bytes, B.returns, hml, findClass_of_methodNamed B.named, atoms_spec (ws := wsX4_sentAt) B.pre, B.notSynchronized, w0.2.1, w0.2.2.2.1, w0.2.2.2.2⟩
  have hl := lv_entry ([.ref (ad 1), .int x1]) (n := 2) (Nat.le_of_ble_eq_true rfl)
  rw [lg_entry_eq]
  exact k_Sc_sentAt C w0.wd hl hJ
end
