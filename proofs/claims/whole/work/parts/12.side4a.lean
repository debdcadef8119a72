section
variable {p : Program} {l : Launch} {e : Env} {s : State} {m : MethodId} {args : Array Value} {below : List Frame} {meth : Method} {c : Code} 
variable {A : Nat → Prop} {D : va_G} {cA : Nat → ClassId} {tb : Nat} {ad : Nat → Nat}
def F_Sd4_isStrobed (mu : Mu) : Int32 := (if ((mu 4 3) &&& 48) = (32 : Int32) then 1 else 0)
set_option maxHeartbeats 4000000 in
set_option maxRecDepth 100000 in
theorem k_Sd4_isStrobed (C : Cx cX5_isStrobed 1 (some .boolean) wsX5_isStrobed RX5 A D cA tb p s m args meth c) {mu nu : Mu} {H : Heap} {locs : List Loc} {ls : Array Slot} (w : Wd A D cA ad s mu nu H locs) (hl : lv_has ls 1 [(0, .ref (ad 4))]) : W p l e { frames := 0, cells := 0, slots := 0, locals := 0 } s m args below meth c H locs 0 0 (QI A D cA ad below args s (F_Sd4_isStrobed mu) mu nu) (F0 m 0 ls []) := by
  have hx := C.1
  have hb := C.2.1
  have hts := C.2.2.2.2.2.1
  have hown := C.2.2.2.2.1
  unfold F_Sd4_isStrobed
  refine lv_aload_n hx hb dX5_isStrobed_0 rfl (lv_at hl 0 rfl) ?_
  refine gt_4_3 C (fun _ h => List.mem_cons_of_mem _ (List.mem_append_right _ h)) (hts _ (List.mem_of_getElem? (i := 1) rfl)) w (v := (mu 4 3)) rfl dX5_isStrobed_1 ?_
  refine lv_bipush (v := 48) hx hb dX5_isStrobed_4 (by decide) ?_
  refine lv_iand hx hb dX5_isStrobed_6 ?_
  refine lv_bipush (v := 32) hx hb dX5_isStrobed_7 (by decide) ?_
  refine lv_icmp_ne (tgt := 16) hx hb dX5_isStrobed_9 (by decide) (fun h9 => ?_) (fun h9 => ?_)
  · rw [if_neg h9]
    refine lv_iconst (v := 0) hx hb dX5_isStrobed_16 (by decide) ?_
    exact retZ C w dX5_isStrobed_17 (Or.inl rfl)
  · rw [if_pos h9]
    refine lv_iconst (v := 1) hx hb dX5_isStrobed_12 (by decide) ?_
    refine lv_goto (tgt := 17) hx hb dX5_isStrobed_13 (by decide) ?_
    exact retZ C w dX5_isStrobed_17 (Or.inr rfl)
set_option maxHeartbeats 4000000 in
set_option maxRecDepth 100000 in
theorem c_Sd4_isStrobed (l : Launch) (A : Nat → Prop) (D : va_G) (cA : Nat → ClassId) (tb : Nat) (ad : Nat → Nat) (mu nu : Mu) : Met l yX5_isStrobed wsX5_isStrobed ({ frames := 0, cells := 0, slots := 0, locals := 0 }) (va_Pc [.ref (ad 4)] (Pw A D cA tb ad mu nu)) (va_Qi (fun (r : Int32) (u : Mu × Mu) => r = F_Sd4_isStrobed mu ∧ u = (mu, nu)) (Bw A D cA ad) A) 0 0 A := by
  refine Met.ofW (cc := cX5_isStrobed) (maxL := 1) (ret := (some .boolean)) (by decide) rfl ?_
  intro p e s m args below meth c s₁ B hml hv
  obtain ⟨rfl, w0⟩ := hv
  have C : Cx cX5_isStrobed 1 (some .boolean) wsX5_isStrobed RX5 A D cA tb p s m _ meth c := ⟨B.exec, B.bytes, B.returns, hml, findClass_of_methodNamed B.named, atoms_spec (ws := wsX5_isStrobed) B.pre, B.notSynchronized, w0.2.1, w0.2.2.2.1, w0.2.2.2.2⟩
  have hl := lv_entry ([.ref (ad 4)]) (n := 1) (Nat.le_of_ble_eq_true rfl)
  rw [lg_entry_eq]
  exact k_Sd4_isStrobed C w0.wd hl
def F_Sd4_readData_44 (mu : Mu) : Int32 × Mu := ((((mu 4 1) &&& (mu 4 2)) ||| ((mu 4 4) &&& ((mu 4 2) ^^^ (-1 : Int32)))), mu)
set_option maxHeartbeats 4000000 in
set_option maxRecDepth 100000 in
theorem k_Sd4_readData_44 (C : Cx cX5_readData 1 (some .int) wsX5_readData RX5 A D cA tb p s m args meth c) {mu nu : Mu} {H : Heap} {locs : List Loc} {ls : Array Slot} (w : Wd A D cA ad s mu nu H locs) (hl : lv_has ls 1 [(0, .ref (ad 4))]) : W p l e { frames := 1, cells := 0, slots := 0, locals := 20 } s m args below meth c H locs 0 0 (QI A D cA ad below args s (F_Sd4_readData_44 mu).1 (F_Sd4_readData_44 mu).2 nu) (F0 m 44 ls []) := by
  have hx := C.1
  have hb := C.2.1
  have hts := C.2.2.2.2.2.1
  have hown := C.2.2.2.2.1
  unfold F_Sd4_readData_44
  refine lv_aload_n hx hb dX5_readData_44 rfl (lv_at hl 0 rfl) ?_
  refine gt_4_1 C (fun _ h => List.mem_cons_of_mem _ (List.mem_append_right _ h)) (hts _ (List.mem_of_getElem? (i := 5) rfl)) w (v := (mu 4 1)) rfl dX5_readData_45 ?_
  refine lv_aload_n hx hb dX5_readData_48 rfl (lv_at hl 0 rfl) ?_
  refine gt_4_2 C (fun _ h => List.mem_cons_of_mem _ (List.mem_append_right _ h)) (hts _ (List.mem_of_getElem? (i := 2) rfl)) w (v := (mu 4 2)) rfl dX5_readData_49 ?_
  refine lv_iand hx hb dX5_readData_52 ?_
  refine lv_aload_n hx hb dX5_readData_53 rfl (lv_at hl 0 rfl) ?_
  refine gt_4_4 C (fun _ h => List.mem_cons_of_mem _ (List.mem_append_right _ h)) (hts _ (List.mem_of_getElem? (i := 6) rfl)) w (v := (mu 4 4)) rfl dX5_readData_54 ?_
  refine lv_aload_n hx hb dX5_readData_57 rfl (lv_at hl 0 rfl) ?_
  refine gt_4_2 C (fun _ h => List.mem_cons_of_mem _ (List.mem_append_right _ h)) (hts _ (List.mem_of_getElem? (i := 2) rfl)) w (v := (mu 4 2)) rfl dX5_readData_58 ?_
  refine lv_iconst (v := (-1 : Int32)) hx hb dX5_readData_61 (by decide) ?_
  refine lv_ixor hx hb dX5_readData_62 ?_
  refine lv_iand hx hb dX5_readData_63 ?_
  refine lv_ior hx hb dX5_readData_64 ?_
  exact retI C w dX5_readData_65
def F_Sd4_readData (mu : Mu) : Int32 × Mu := (if ((mu 4 3) &&& 4) = (0 : Int32) then ((mu 4 2), mu) else (if (mu 4 0) = (0 : Int32) then F_Sd4_readData_44 (ps mu 4 3 ((mu 4 3) &&& 63)) else (if (F_Sd4_isStrobed (ps mu 4 3 ((mu 4 3) &&& 63))) = (0 : Int32) then F_Sd4_readData_44 (ps mu 4 3 ((mu 4 3) &&& 63)) else F_Sd4_readData_44 (ps (ps mu 4 3 ((mu 4 3) &&& 63)) 4 6 0))))
set_option maxHeartbeats 4000000 in
set_option maxRecDepth 100000 in
theorem k_Sd4_readData (C : Cx cX5_readData 1 (some .int) wsX5_readData RX5 A D cA tb p s m args meth c) {mu nu : Mu} {H : Heap} {locs : List Loc} {ls : Array Slot} (w : Wd A D cA ad s mu nu H locs) (hl : lv_has ls 1 [(0, .ref (ad 4))]) : W p l e { frames := 1, cells := 0, slots := 0, locals := 20 } s m args below meth c H locs 0 0 (QI A D cA ad below args s (F_Sd4_readData mu).1 (F_Sd4_readData mu).2 nu) (F0 m 0 ls []) := by
  have hx := C.1
  have hb := C.2.1
  have hts := C.2.2.2.2.2.1
  have hown := C.2.2.2.2.1
  unfold F_Sd4_readData
  refine lv_aload_n hx hb dX5_readData_0 rfl (lv_at hl 0 rfl) ?_
  refine gt_4_3 C (fun _ h => List.mem_cons_of_mem _ (List.mem_append_right _ h)) (hts _ (List.mem_of_getElem? (i := 1) rfl)) w (v := (mu 4 3)) rfl dX5_readData_1 ?_
  refine lv_iconst (v := 4) hx hb dX5_readData_4 (by decide) ?_
  refine lv_iand hx hb dX5_readData_5 ?_
  refine lv_if_ne (tgt := 14) hx hb dX5_readData_6 (by decide) (fun h6 => ?_) (fun h6 => ?_)
  · rw [if_neg h6]
    refine lv_aload_n hx hb dX5_readData_14 rfl (lv_at hl 0 rfl) ?_
    refine lv_dup hx hb dX5_readData_15 rfl ?_
    refine gt_4_3 C (fun _ h => List.mem_cons_of_mem _ (List.mem_append_right _ h)) (hts _ (List.mem_of_getElem? (i := 1) rfl)) w (v := (mu 4 3)) rfl dX5_readData_16 ?_
    refine lv_bipush (v := 63) hx hb dX5_readData_19 (by decide) ?_
    refine lv_iand hx hb dX5_readData_21 ?_
    refine pt_4_3 C (fun _ h => List.mem_cons_of_mem _ (List.mem_append_right _ h)) (hts _ (List.mem_of_getElem? (i := 1) rfl)) w dX5_readData_22 (fun H locs w => ?_)
    refine lv_aload_n hx hb dX5_readData_25 rfl (lv_at hl 0 rfl) ?_
    refine gt_4_0 C (fun _ h => List.mem_cons_of_mem _ (List.mem_append_right _ h)) (hts _ (List.mem_of_getElem? (i := 3) rfl)) w (v := (mu 4 0)) rfl dX5_readData_26 ?_
    refine lv_if_eq (tgt := 44) hx hb dX5_readData_29 (by decide) (fun h29 => ?_) (fun h29 => ?_)
    · rw [if_pos h29]
      exact k_Sd4_readData_44 C w (lv_sub hl [0] rfl)
    · rw [if_neg h29]
      refine lv_aload_n hx hb dX5_readData_32 rfl (lv_at hl 0 rfl) ?_
      refine kcI (k := 4) (ci := 5) (As := []) (rest := []) C w rfl rfl (c_Sd4_isStrobed l A D cA tb ad (ps mu 4 3 ((mu 4 3) &&& 63)) nu) (cwV 0 hts gX5_readData_X5_isStrobed rfl rfl rfl (by decide +kernel) ⟨Nat.le_of_ble_eq_true rfl, Nat.le_of_ble_eq_true rfl⟩) rfl rfl hl.1 (Nat.le_of_ble_eq_true rfl) dX5_readData_33 (fun H locs w => ?_)
      refine lv_if_eq (tgt := 44) hx hb dX5_readData_36 (by decide) (fun h36 => ?_) (fun h36 => ?_)
      · rw [if_pos h36]
        exact k_Sd4_readData_44 C w (lv_sub hl [0] rfl)
      · rw [if_neg h36]
        refine lv_aload_n hx hb dX5_readData_39 rfl (lv_at hl 0 rfl) ?_
        refine lv_iconst (v := 0) hx hb dX5_readData_40 (by decide) ?_
        refine pt_4_6 C (fun _ h => List.mem_cons_of_mem _ (List.mem_append_right _ h)) (hts _ (List.mem_of_getElem? (i := 4) rfl)) w dX5_readData_41 (fun H locs w => ?_)
        exact k_Sd4_readData_44 C w (lv_sub hl [0] rfl)
  · rw [if_pos h6]
    refine lv_aload_n hx hb dX5_readData_9 rfl (lv_at hl 0 rfl) ?_
    refine gt_4_2 C (fun _ h => List.mem_cons_of_mem _ (List.mem_append_right _ h)) (hts _ (List.mem_of_getElem? (i := 2) rfl)) w (v := (mu 4 2)) rfl dX5_readData_10 ?_
    exact retI C w dX5_readData_13
set_option maxHeartbeats 4000000 in
set_option maxRecDepth 100000 in
theorem c_Sd4_readData (l : Launch) (A : Nat → Prop) (D : va_G) (cA : Nat → ClassId) (tb : Nat) (ad : Nat → Nat) (mu nu : Mu) : Met l yX5_readData wsX5_readData ({ frames := 1, cells := 0, slots := 0, locals := 20 }) (va_Pc [.ref (ad 4)] (Pw A D cA tb ad mu nu)) (va_Qi (fun (r : Int32) (u : Mu × Mu) => r = (F_Sd4_readData mu).1 ∧ u = ((F_Sd4_readData mu).2, nu)) (Bw A D cA ad) A) 0 0 A := by
  refine Met.ofW (cc := cX5_readData) (maxL := 1) (ret := (some .int)) (by decide) rfl ?_
  intro p e s m args below meth c s₁ B hml hv
  obtain ⟨rfl, w0⟩ := hv
  have C : Cx cX5_readData 1 (some .int) wsX5_readData RX5 A D cA tb p s m _ meth c := ⟨B.exec, B.bytes, B.returns, hml, findClass_of_methodNamed B.named, atoms_spec (ws := wsX5_readData) B.pre, B.notSynchronized, w0.2.1, w0.2.2.2.1, w0.2.2.2.2⟩
  have hl := lv_entry ([.ref (ad 4)]) (n := 1) (Nat.le_of_ble_eq_true rfl)
  rw [lg_entry_eq]
  exact k_Sd4_readData C w0.wd hl
def F_Sd4_asks (mu : Mu) : Int32 := (if ((mu 4 3) &&& 129) = (129 : Int32) then 1 else (if ((mu 4 3) &&& (72 ||| 32)) = (72 : Int32) then 1 else 0))
set_option maxHeartbeats 4000000 in
set_option maxRecDepth 100000 in
theorem k_Sd4_asks (C : Cx cX5_asks 3 (some .boolean) wsX5_asks RX5 A D cA tb p s m args meth c) {mu nu : Mu} {H : Heap} {locs : List Loc} {ls : Array Slot} (w : Wd A D cA ad s mu nu H locs) (hl : lv_has ls 3 [(0, .ref (ad 4))]) : W p l e { frames := 0, cells := 0, slots := 0, locals := 0 } s m args below meth c H locs 0 0 (QI A D cA ad below args s (F_Sd4_asks mu) mu nu) (F0 m 0 ls []) := by
  have hx := C.1
  have hb := C.2.1
  have hts := C.2.2.2.2.2.1
  have hown := C.2.2.2.2.1
  unfold F_Sd4_asks
  refine lv_sipush (v := 129) hx hb dX5_asks_0 (by decide) ?_
  refine lv_istore_n (lv' := [(1, .int 129), (0, .ref (ad 4))]) hx hb dX5_asks_3 rfl hl (by decide) rfl (fun ls hl => ?_)
  refine lv_bipush (v := 72) hx hb dX5_asks_4 (by decide) ?_
  refine lv_istore_n (lv' := [(2, .int 72), (1, .int 129), (0, .ref (ad 4))]) hx hb dX5_asks_6 rfl hl (by decide) rfl (fun ls hl => ?_)
  refine lv_aload_n hx hb dX5_asks_7 rfl (lv_at hl 2 rfl) ?_
  refine gt_4_3 C (fun _ h => List.mem_cons_of_mem _ (List.mem_append_right _ h)) (hts _ (List.mem_of_getElem? (i := 1) rfl)) w (v := (mu 4 3)) rfl dX5_asks_8 ?_
  refine lv_iload_n hx hb dX5_asks_11 rfl (lv_at hl 1 rfl) ?_
  refine lv_iand hx hb dX5_asks_12 ?_
  refine lv_iload_n hx hb dX5_asks_13 rfl (lv_at hl 1 rfl) ?_
  refine lv_icmp_eq (tgt := 30) hx hb dX5_asks_14 (by decide) (fun h14 => ?_) (fun h14 => ?_)
  · rw [if_pos h14]
    refine lv_iconst (v := 1) hx hb dX5_asks_30 (by decide) ?_
    refine lv_goto (tgt := 35) hx hb dX5_asks_31 (by decide) ?_
    exact retZ C w dX5_asks_35 (Or.inr rfl)
  · rw [if_neg h14]
    refine lv_aload_n hx hb dX5_asks_17 rfl (lv_at hl 2 rfl) ?_
    refine gt_4_3 C (fun _ h => List.mem_cons_of_mem _ (List.mem_append_right _ h)) (hts _ (List.mem_of_getElem? (i := 1) rfl)) w (v := (mu 4 3)) rfl dX5_asks_18 ?_
    refine lv_iload_n hx hb dX5_asks_21 rfl (lv_at hl 0 rfl) ?_
    refine lv_bipush (v := 32) hx hb dX5_asks_22 (by decide) ?_
    refine lv_ior hx hb dX5_asks_24 ?_
    refine lv_iand hx hb dX5_asks_25 ?_
    refine lv_iload_n hx hb dX5_asks_26 rfl (lv_at hl 0 rfl) ?_
    refine lv_icmp_ne (tgt := 34) hx hb dX5_asks_27 (by decide) (fun h27 => ?_) (fun h27 => ?_)
    · rw [if_neg h27]
      refine lv_iconst (v := 0) hx hb dX5_asks_34 (by decide) ?_
      exact retZ C w dX5_asks_35 (Or.inl rfl)
    · rw [if_pos h27]
      refine lv_iconst (v := 1) hx hb dX5_asks_30 (by decide) ?_
      refine lv_goto (tgt := 35) hx hb dX5_asks_31 (by decide) ?_
      exact retZ C w dX5_asks_35 (Or.inr rfl)
set_option maxHeartbeats 4000000 in
set_option maxRecDepth 100000 in
theorem c_Sd4_asks (l : Launch) (A : Nat → Prop) (D : va_G) (cA : Nat → ClassId) (tb : Nat) (ad : Nat → Nat) (mu nu : Mu) : Met l yX5_asks wsX5_asks ({ frames := 0, cells := 0, slots := 0, locals := 0 }) (va_Pc [.ref (ad 4)] (Pw A D cA tb ad mu nu)) (va_Qi (fun (r : Int32) (u : Mu × Mu) => r = F_Sd4_asks mu ∧ u = (mu, nu)) (Bw A D cA ad) A) 0 0 A := by
  refine Met.ofW (cc := cX5_asks) (maxL := 3) (ret := (some .boolean)) (by decide) rfl ?_
  intro p e s m args below meth c s₁ B hml hv
  obtain ⟨rfl, w0⟩ := hv
  have C : Cx cX5_asks 3 (some .boolean) wsX5_asks RX5 A D cA tb p s m _ meth c := ⟨B.exec, B.bytes, B.returns, hml, findClass_of_methodNamed B.named, atoms_spec (ws := wsX5_asks) B.pre, B.notSynchronized, w0.2.1, w0.2.2.2.1, w0.2.2.2.2⟩
  have hl := lv_entry ([.ref (ad 4)]) (n := 3) (Nat.le_of_ble_eq_true rfl)
  rw [lg_entry_eq]
  exact k_Sd4_asks C w0.wd hl
def F_Sd4_secondLineIsOutput (mu : Mu) : Int32 := (if ((mu 4 3) &&& 32) = (0 : Int32) then 0 else 1)
set_option maxHeartbeats 4000000 in
set_option maxRecDepth 100000 in
theorem k_Sd4_secondLineIsOutput (C : Cx cX5_secondLineIsOutput 1 (some .boolean) wsX5_secondLineIsOutput RX5 A D cA tb p s m args meth c) {mu nu : Mu} {H : Heap} {locs : List Loc} {ls : Array Slot} (w : Wd A D cA ad s mu nu H locs) (hl : lv_has ls 1 [(0, .ref (ad 4))]) : W p l e { frames := 0, cells := 0, slots := 0, locals := 0 } s m args below meth c H locs 0 0 (QI A D cA ad below args s (F_Sd4_secondLineIsOutput mu) mu nu) (F0 m 0 ls []) := by
  have hx := C.1
  have hb := C.2.1
  have hts := C.2.2.2.2.2.1
  have hown := C.2.2.2.2.1
  unfold F_Sd4_secondLineIsOutput
  refine lv_aload_n hx hb dX5_secondLineIsOutput_0 rfl (lv_at hl 0 rfl) ?_
  refine gt_4_3 C (fun _ h => List.mem_cons_of_mem _ (List.mem_append_right _ h)) (hts _ (List.mem_of_getElem? (i := 1) rfl)) w (v := (mu 4 3)) rfl dX5_secondLineIsOutput_1 ?_
  refine lv_bipush (v := 32) hx hb dX5_secondLineIsOutput_4 (by decide) ?_
  refine lv_iand hx hb dX5_secondLineIsOutput_6 ?_
  refine lv_if_eq (tgt := 14) hx hb dX5_secondLineIsOutput_7 (by decide) (fun h7 => ?_) (fun h7 => ?_)
  · rw [if_pos h7]
    refine lv_iconst (v := 0) hx hb dX5_secondLineIsOutput_14 (by decide) ?_
    exact retZ C w dX5_secondLineIsOutput_15 (Or.inl rfl)
  · rw [if_neg h7]
    refine lv_iconst (v := 1) hx hb dX5_secondLineIsOutput_10 (by decide) ?_
    refine lv_goto (tgt := 15) hx hb dX5_secondLineIsOutput_11 (by decide) ?_
    exact retZ C w dX5_secondLineIsOutput_15 (Or.inr rfl)
set_option maxHeartbeats 4000000 in
set_option maxRecDepth 100000 in
theorem c_Sd4_secondLineIsOutput (l : Launch) (A : Nat → Prop) (D : va_G) (cA : Nat → ClassId) (tb : Nat) (ad : Nat → Nat) (mu nu : Mu) : Met l yX5_secondLineIsOutput wsX5_secondLineIsOutput ({ frames := 0, cells := 0, slots := 0, locals := 0 }) (va_Pc [.ref (ad 4)] (Pw A D cA tb ad mu nu)) (va_Qi (fun (r : Int32) (u : Mu × Mu) => r = F_Sd4_secondLineIsOutput mu ∧ u = (mu, nu)) (Bw A D cA ad) A) 0 0 A := by
  refine Met.ofW (cc := cX5_secondLineIsOutput) (maxL := 1) (ret := (some .boolean)) (by decide) rfl ?_
  intro p e s m args below meth c s₁ B hml hv
  obtain ⟨rfl, w0⟩ := hv
  have C : Cx cX5_secondLineIsOutput 1 (some .boolean) wsX5_secondLineIsOutput RX5 A D cA tb p s m _ meth c := ⟨B.exec, B.bytes, B.returns, hml, findClass_of_methodNamed B.named, atoms_spec (ws := wsX5_secondLineIsOutput) B.pre, B.notSynchronized, w0.2.1, w0.2.2.2.1, w0.2.2.2.2⟩
  have hl := lv_entry ([.ref (ad 4)]) (n := 1) (Nat.le_of_ble_eq_true rfl)
  rw [lg_entry_eq]
  exact k_Sd4_secondLineIsOutput C w0.wd hl
def F_Sd4_writeControl (x1 : Int32) (mu : Mu) : Mu := (if (F_Sd4_isStrobed (ps mu 4 3 (((mu 4 3) &&& (-64 : Int32)) ||| (x1 &&& 63)))) = (0 : Int32) then (if (F_Sd4_secondLineIsOutput (ps mu 4 3 (((mu 4 3) &&& (-64 : Int32)) ||| (x1 &&& 63)))) = (0 : Int32) then (ps mu 4 3 (((mu 4 3) &&& (-64 : Int32)) ||| (x1 &&& 63))) else (ps (ps mu 4 3 (((mu 4 3) &&& (-64 : Int32)) ||| (x1 &&& 63))) 4 6 ((x1 >>> (3 &&& 31)) &&& 1))) else (ps (ps mu 4 3 (((mu 4 3) &&& (-64 : Int32)) ||| (x1 &&& 63))) 4 6 1))
set_option maxHeartbeats 4000000 in
set_option maxRecDepth 100000 in
theorem k_Sd4_writeControl (C : Cx cX5_writeControl 2 none wsX5_writeControl RX5 A D cA tb p s m args meth c) {mu nu : Mu} {x1 : Int32} {H : Heap} {locs : List Loc} {ls : Array Slot} (w : Wd A D cA ad s mu nu H locs) (hl : lv_has ls 2 [(0, .ref (ad 4)), (1, .int x1)]) : W p l e { frames := 1, cells := 0, slots := 0, locals := 20 } s m args below meth c H locs 0 0 (QV A D cA ad below args s (F_Sd4_writeControl x1 mu) nu) (F0 m 0 ls []) := by
  have hx := C.1
  have hb := C.2.1
  have hts := C.2.2.2.2.2.1
  have hown := C.2.2.2.2.1
  unfold F_Sd4_writeControl
  refine lv_aload_n hx hb dX5_writeControl_0 rfl (lv_at hl 0 rfl) ?_
  refine lv_aload_n hx hb dX5_writeControl_1 rfl (lv_at hl 0 rfl) ?_
  refine gt_4_3 C (fun _ h => List.mem_cons_of_mem _ (List.mem_append_right _ h)) (hts _ (List.mem_of_getElem? (i := 1) rfl)) w (v := (mu 4 3)) rfl dX5_writeControl_2 ?_
  refine lv_bipush (v := (-64 : Int32)) hx hb dX5_writeControl_5 (by decide) ?_
  refine lv_iand hx hb dX5_writeControl_7 ?_
  refine lv_iload_n hx hb dX5_writeControl_8 rfl (lv_at hl 1 rfl) ?_
  refine lv_bipush (v := 63) hx hb dX5_writeControl_9 (by decide) ?_
  refine lv_iand hx hb dX5_writeControl_11 ?_
  refine lv_ior hx hb dX5_writeControl_12 ?_
  refine pt_4_3 C (fun _ h => List.mem_cons_of_mem _ (List.mem_append_right _ h)) (hts _ (List.mem_of_getElem? (i := 1) rfl)) w dX5_writeControl_13 (fun H locs w => ?_)
  refine lv_aload_n hx hb dX5_writeControl_16 rfl (lv_at hl 0 rfl) ?_
  refine kcI (k := 4) (ci := 5) (As := []) (rest := []) C w rfl rfl (c_Sd4_isStrobed l A D cA tb ad (ps mu 4 3 (((mu 4 3) &&& (-64 : Int32)) ||| (x1 &&& 63))) nu) (cwV 0 hts gX5_writeControl_X5_isStrobed rfl rfl rfl (by decide +kernel) ⟨Nat.le_of_ble_eq_true rfl, Nat.le_of_ble_eq_true rfl⟩) rfl rfl hl.1 (Nat.le_of_ble_eq_true rfl) dX5_writeControl_17 (fun H locs w => ?_)
  refine lv_if_eq (tgt := 31) hx hb dX5_writeControl_20 (by decide) (fun h20 => ?_) (fun h20 => ?_)
  · rw [if_pos h20]
    refine lv_aload_n hx hb dX5_writeControl_31 rfl (lv_at hl 0 rfl) ?_
    refine kcI (k := 4) (ci := 5) (As := []) (rest := []) C w rfl rfl (c_Sd4_secondLineIsOutput l A D cA tb ad (ps mu 4 3 (((mu 4 3) &&& (-64 : Int32)) ||| (x1 &&& 63))) nu) (cwV 0 hts gX5_writeControl_X5_secondLineIsOutput rfl rfl rfl (by decide +kernel) ⟨Nat.le_of_ble_eq_true rfl, Nat.le_of_ble_eq_true rfl⟩) rfl rfl hl.1 (Nat.le_of_ble_eq_true rfl) dX5_writeControl_32 (fun H locs w => ?_)
    refine lv_if_eq (tgt := 47) hx hb dX5_writeControl_35 (by decide) (fun h35 => ?_) (fun h35 => ?_)
    · rw [if_pos h35]
      exact retV C w dX5_writeControl_47
    · rw [if_neg h35]
      refine lv_aload_n hx hb dX5_writeControl_38 rfl (lv_at hl 0 rfl) ?_
      refine lv_iload_n hx hb dX5_writeControl_39 rfl (lv_at hl 1 rfl) ?_
      refine lv_iconst (v := 3) hx hb dX5_writeControl_40 (by decide) ?_
      refine lv_ishr hx hb dX5_writeControl_41 ?_
      refine lv_iconst (v := 1) hx hb dX5_writeControl_42 (by decide) ?_
      refine lv_iand hx hb dX5_writeControl_43 ?_
      refine pt_4_6 C (fun _ h => List.mem_cons_of_mem _ (List.mem_append_right _ h)) (hts _ (List.mem_of_getElem? (i := 2) rfl)) w dX5_writeControl_44 (fun H locs w => ?_)
      exact retV C w dX5_writeControl_47
  · rw [if_neg h20]
    refine lv_aload_n hx hb dX5_writeControl_23 rfl (lv_at hl 0 rfl) ?_
    refine lv_iconst (v := 1) hx hb dX5_writeControl_24 (by decide) ?_
    refine pt_4_6 C (fun _ h => List.mem_cons_of_mem _ (List.mem_append_right _ h)) (hts _ (List.mem_of_getElem? (i := 2) rfl)) w dX5_writeControl_25 (fun H locs w => ?_)
    refine lv_goto (tgt := 47) hx hb dX5_writeControl_28 (by decide) ?_
    exact retV C w dX5_writeControl_47
set_option maxHeartbeats 4000000 in
set_option maxRecDepth 100000 in
theorem c_Sd4_writeControl (l : Launch) (A : Nat → Prop) (D : va_G) (cA : Nat → ClassId) (tb : Nat) (ad : Nat → Nat) (mu nu : Mu) (x1 : Int32) : Met l yX5_writeControl wsX5_writeControl ({ frames := 1, cells := 0, slots := 0, locals := 20 }) (va_Pc [.ref (ad 4), .int x1] (Pw A D cA tb ad mu nu)) (va_Qv (fun (u : Mu × Mu) => u = (F_Sd4_writeControl x1 mu, nu)) (Bw A D cA ad) A) 0 0 A := by
  refine Met.ofW (cc := cX5_writeControl) (maxL := 2) (ret := none) (by decide) rfl ?_
  intro p e s m args below meth c s₁ B hml hv
  obtain ⟨rfl, w0⟩ := hv
  have C : Cx cX5_writeControl 2 none wsX5_writeControl RX5 A D cA tb p s m _ meth c := ⟨B.exec, B.bytes, B.returns, hml, findClass_of_methodNamed B.named, atoms_spec (ws := wsX5_writeControl) B.pre, B.notSynchronized, w0.2.1, w0.2.2.2.1, w0.2.2.2.2⟩
  have hl := lv_entry ([.ref (ad 4), .int x1]) (n := 2) (Nat.le_of_ble_eq_true rfl)
  rw [lg_entry_eq]
  exact k_Sd4_writeControl C w0.wd hl
def F_Sd4_writeData (x1 : Int32) (mu : Mu) : Mu := (if ((mu 4 3) &&& 4) = (0 : Int32) then (ps mu 4 2 x1) else (if (mu 4 0) = (0 : Int32) then (if (F_Sd4_isStrobed (ps mu 4 1 x1)) = (0 : Int32) then (ps mu 4 1 x1) else (ps (ps mu 4 1 x1) 4 6 0)) else (ps mu 4 1 x1)))
set_option maxHeartbeats 4000000 in
set_option maxRecDepth 100000 in
theorem k_Sd4_writeData (C : Cx cX5_writeData 2 none wsX5_writeData RX5 A D cA tb p s m args meth c) {mu nu : Mu} {x1 : Int32} {H : Heap} {locs : List Loc} {ls : Array Slot} (w : Wd A D cA ad s mu nu H locs) (hl : lv_has ls 2 [(0, .ref (ad 4)), (1, .int x1)]) : W p l e { frames := 1, cells := 0, slots := 0, locals := 20 } s m args below meth c H locs 0 0 (QV A D cA ad below args s (F_Sd4_writeData x1 mu) nu) (F0 m 0 ls []) := by
  have hx := C.1
  have hb := C.2.1
  have hts := C.2.2.2.2.2.1
  have hown := C.2.2.2.2.1
  unfold F_Sd4_writeData
  refine lv_aload_n hx hb dX5_writeData_0 rfl (lv_at hl 0 rfl) ?_
  refine gt_4_3 C (fun _ h => List.mem_cons_of_mem _ (List.mem_append_right _ h)) (hts _ (List.mem_of_getElem? (i := 1) rfl)) w (v := (mu 4 3)) rfl dX5_writeData_1 ?_
  refine lv_iconst (v := 4) hx hb dX5_writeData_4 (by decide) ?_
  refine lv_iand hx hb dX5_writeData_5 ?_
  refine lv_if_ne (tgt := 15) hx hb dX5_writeData_6 (by decide) (fun h6 => ?_) (fun h6 => ?_)
  · rw [if_neg h6]
    refine lv_aload_n hx hb dX5_writeData_15 rfl (lv_at hl 0 rfl) ?_
    refine lv_iload_n hx hb dX5_writeData_16 rfl (lv_at hl 1 rfl) ?_
    refine pt_4_1 C (fun _ h => List.mem_cons_of_mem _ (List.mem_append_right _ h)) (hts _ (List.mem_of_getElem? (i := 3) rfl)) w dX5_writeData_17 (fun H locs w => ?_)
    refine lv_aload_n hx hb dX5_writeData_20 rfl (lv_at hl 0 rfl) ?_
    refine gt_4_0 C (fun _ h => List.mem_cons_of_mem _ (List.mem_append_right _ h)) (hts _ (List.mem_of_getElem? (i := 4) rfl)) w (v := (mu 4 0)) rfl dX5_writeData_21 ?_
    refine lv_if_ne (tgt := 39) hx hb dX5_writeData_24 (by decide) (fun h24 => ?_) (fun h24 => ?_)
    · rw [if_neg h24]
      exact retV C w dX5_writeData_39
    · rw [if_pos h24]
      refine lv_aload_n hx hb dX5_writeData_27 rfl (lv_at hl 0 rfl) ?_
      refine kcI (k := 4) (ci := 5) (As := []) (rest := []) C w rfl rfl (c_Sd4_isStrobed l A D cA tb ad (ps mu 4 1 x1) nu) (cwV 0 hts gX5_writeData_X5_isStrobed rfl rfl rfl (by decide +kernel) ⟨Nat.le_of_ble_eq_true rfl, Nat.le_of_ble_eq_true rfl⟩) rfl rfl hl.1 (Nat.le_of_ble_eq_true rfl) dX5_writeData_28 (fun H locs w => ?_)
      refine lv_if_eq (tgt := 39) hx hb dX5_writeData_31 (by decide) (fun h31 => ?_) (fun h31 => ?_)
      · rw [if_pos h31]
        exact retV C w dX5_writeData_39
      · rw [if_neg h31]
        refine lv_aload_n hx hb dX5_writeData_34 rfl (lv_at hl 0 rfl) ?_
        refine lv_iconst (v := 0) hx hb dX5_writeData_35 (by decide) ?_
        refine pt_4_6 C (fun _ h => List.mem_cons_of_mem _ (List.mem_append_right _ h)) (hts _ (List.mem_of_getElem? (i := 5) rfl)) w dX5_writeData_36 (fun H locs w => ?_)
        exact retV C w dX5_writeData_39
  · rw [if_pos h6]
    refine lv_aload_n hx hb dX5_writeData_9 rfl (lv_at hl 0 rfl) ?_
    refine lv_iload_n hx hb dX5_writeData_10 rfl (lv_at hl 1 rfl) ?_
    refine pt_4_2 C (fun _ h => List.mem_cons_of_mem _ (List.mem_append_right _ h)) (hts _ (List.mem_of_getElem? (i := 2) rfl)) w dX5_writeData_11 (fun H locs w => ?_)
    exact retV C w dX5_writeData_14
set_option maxHeartbeats 4000000 in
set_option maxRecDepth 100000 in
theorem c_Sd4_writeData (l : Launch) (A : Nat → Prop) (D : va_G) (cA : Nat → ClassId) (tb : Nat) (ad : Nat → Nat) (mu nu : Mu) (x1 : Int32) : Met l yX5_writeData wsX5_writeData ({ frames := 1, cells := 0, slots := 0, locals := 20 }) (va_Pc [.ref (ad 4), .int x1] (Pw A D cA tb ad mu nu)) (va_Qv (fun (u : Mu × Mu) => u = (F_Sd4_writeData x1 mu, nu)) (Bw A D cA ad) A) 0 0 A := by
  refine Met.ofW (cc := cX5_writeData) (maxL := 2) (ret := none) (by decide) rfl ?_
  intro p e s m args below meth c s₁ B hml hv
  obtain ⟨rfl, w0⟩ := hv
  have C : Cx cX5_writeData 2 none wsX5_writeData RX5 A D cA tb p s m _ meth c := ⟨B.exec, B.bytes, B.returns, hml, findClass_of_methodNamed B.named, atoms_spec (ws := wsX5_writeData) B.pre, B.notSynchronized, w0.2.1, w0.2.2.2.1, w0.2.2.2.2⟩
  have hl := lv_entry ([.ref (ad 4), .int x1]) (n := 2) (Nat.le_of_ble_eq_true rfl)
  rw [lg_entry_eq]
  exact k_Sd4_writeData C w0.wd hl
def F_Sd4_isKind (x1 : Int32) (mu : Mu) : Int32 := (if ((mu 4 3) &&& 56) = x1 then 1 else 0)
set_option maxHeartbeats 4000000 in
set_option maxRecDepth 100000 in
theorem k_Sd4_isKind (C : Cx cX5_isKind 2 (some .boolean) wsX5_isKind RX5 A D cA tb p s m args meth c) {mu nu : Mu} {x1 : Int32} {H : Heap} {locs : List Loc} {ls : Array Slot} (w : Wd A D cA ad s mu nu H locs) (hl : lv_has ls 2 [(0, .ref (ad 4)), (1, .int x1)]) : W p l e { frames := 0, cells := 0, slots := 0, locals := 0 } s m args below meth c H locs 0 0 (QI A D cA ad below args s (F_Sd4_isKind x1 mu) mu nu) (F0 m 0 ls []) := by
  have hx := C.1
  have hb := C.2.1
  have hts := C.2.2.2.2.2.1
  have hown := C.2.2.2.2.1
  unfold F_Sd4_isKind
  refine lv_aload_n hx hb dX5_isKind_0 rfl (lv_at hl 0 rfl) ?_
  refine gt_4_3 C (fun _ h => List.mem_cons_of_mem _ (List.mem_append_right _ h)) (hts _ (List.mem_of_getElem? (i := 1) rfl)) w (v := (mu 4 3)) rfl dX5_isKind_1 ?_
  refine lv_bipush (v := 56) hx hb dX5_isKind_4 (by decide) ?_
  refine lv_iand hx hb dX5_isKind_6 ?_
  refine lv_iload_n hx hb dX5_isKind_7 rfl (lv_at hl 1 rfl) ?_
  refine lv_icmp_ne (tgt := 15) hx hb dX5_isKind_8 (by decide) (fun h8 => ?_) (fun h8 => ?_)
  · rw [if_neg h8]
    refine lv_iconst (v := 0) hx hb dX5_isKind_15 (by decide) ?_
    exact retZ C w dX5_isKind_16 (Or.inl rfl)
  · rw [if_pos h8]
    refine lv_iconst (v := 1) hx hb dX5_isKind_11 (by decide) ?_
    refine lv_goto (tgt := 16) hx hb dX5_isKind_12 (by decide) ?_
    exact retZ C w dX5_isKind_16 (Or.inr rfl)
set_option maxHeartbeats 4000000 in
set_option maxRecDepth 100000 in
theorem c_Sd4_isKind (l : Launch) (A : Nat → Prop) (D : va_G) (cA : Nat → ClassId) (tb : Nat) (ad : Nat → Nat) (mu nu : Mu) (x1 : Int32) : Met l yX5_isKind wsX5_isKind ({ frames := 0, cells := 0, slots := 0, locals := 0 }) (va_Pc [.ref (ad 4), .int x1] (Pw A D cA tb ad mu nu)) (va_Qi (fun (r : Int32) (u : Mu × Mu) => r = F_Sd4_isKind x1 mu ∧ u = (mu, nu)) (Bw A D cA ad) A) 0 0 A := by
  refine Met.ofW (cc := cX5_isKind) (maxL := 2) (ret := (some .boolean)) (by decide) rfl ?_
  intro p e s m args below meth c s₁ B hml hv
  obtain ⟨rfl, w0⟩ := hv
  have C : Cx cX5_isKind 2 (some .boolean) wsX5_isKind RX5 A D cA tb p s m _ meth c := ⟨B.exec, B.bytes, B.returns, hml, findClass_of_methodNamed B.named, atoms_spec (ws := wsX5_isKind) B.pre, B.notSynchronized, w0.2.1, w0.2.2.2.1, w0.2.2.2.2⟩
  have hl := lv_entry ([.ref (ad 4), .int x1]) (n := 2) (Nat.le_of_ble_eq_true rfl)
  rw [lg_entry_eq]
  exact k_Sd4_isKind C w0.wd hl
def F_Sd4_endStep (mu : Mu) : Mu := (if (F_Sd4_isKind 40 mu) = (0 : Int32) then mu else (ps mu 4 6 1))
set_option maxHeartbeats 4000000 in
set_option maxRecDepth 100000 in
theorem k_Sd4_endStep (C : Cx cX5_endStep 1 none wsX5_endStep RX5 A D cA tb p s m args meth c) {mu nu : Mu} {H : Heap} {locs : List Loc} {ls : Array Slot} (w : Wd A D cA ad s mu nu H locs) (hl : lv_has ls 1 [(0, .ref (ad 4))]) : W p l e { frames := 1, cells := 0, slots := 0, locals := 21 } s m args below meth c H locs 0 0 (QV A D cA ad below args s (F_Sd4_endStep mu) nu) (F0 m 0 ls []) := by
  have hx := C.1
  have hb := C.2.1
  have hts := C.2.2.2.2.2.1
  have hown := C.2.2.2.2.1
  unfold F_Sd4_endStep
  refine lv_aload_n hx hb dX5_endStep_0 rfl (lv_at hl 0 rfl) ?_
  refine lv_bipush (v := 40) hx hb dX5_endStep_1 (by decide) ?_
  refine kcI (k := 4) (ci := 5) (As := [.int 40]) (rest := []) C w rfl rfl (c_Sd4_isKind l A D cA tb ad mu nu 40) (cwV 1 hts gX5_endStep_X5_isKind rfl rfl rfl (by decide +kernel) ⟨Nat.le_of_ble_eq_true rfl, Nat.le_of_ble_eq_true rfl⟩) rfl rfl hl.1 (Nat.le_of_ble_eq_true rfl) dX5_endStep_3 (fun H locs w => ?_)
  refine lv_if_eq (tgt := 14) hx hb dX5_endStep_6 (by decide) (fun h6 => ?_) (fun h6 => ?_)
  · rw [if_pos h6]
    exact retV C w dX5_endStep_14
  · rw [if_neg h6]
    refine lv_aload_n hx hb dX5_endStep_9 rfl (lv_at hl 0 rfl) ?_
    refine lv_iconst (v := 1) hx hb dX5_endStep_10 (by decide) ?_
    refine pt_4_6 C (fun _ h => List.mem_cons_of_mem _ (List.mem_append_right _ h)) (hts _ (List.mem_of_getElem? (i := 1) rfl)) w dX5_endStep_11 (fun H locs w => ?_)
    exact retV C w dX5_endStep_14
set_option maxHeartbeats 4000000 in
set_option maxRecDepth 100000 in
theorem c_Sd4_endStep (l : Launch) (A : Nat → Prop) (D : va_G) (cA : Nat → ClassId) (tb : Nat) (ad : Nat → Nat) (mu nu : Mu) : Met l yX5_endStep wsX5_endStep ({ frames := 1, cells := 0, slots := 0, locals := 21 }) (va_Pc [.ref (ad 4)] (Pw A D cA tb ad mu nu)) (va_Qv (fun (u : Mu × Mu) => u = (F_Sd4_endStep mu, nu)) (Bw A D cA ad) A) 0 0 A := by
  refine Met.ofW (cc := cX5_endStep) (maxL := 1) (ret := none) (by decide) rfl ?_
  intro p e s m args below meth c s₁ B hml hv
  obtain ⟨rfl, w0⟩ := hv
  have C : Cx cX5_endStep 1 none wsX5_endStep RX5 A D cA tb p s m _ meth c := ⟨B.exec, B.bytes, B.returns, hml, findClass_of_methodNamed B.named, atoms_spec (ws := wsX5_endStep) B.pre, B.notSynchronized, w0.2.1, w0.2.2.2.1, w0.2.2.2.2⟩
  have hl := lv_entry ([.ref (ad 4)]) (n := 1) (Nat.le_of_ble_eq_true rfl)
  rw [lg_entry_eq]
  exact k_Sd4_endStep C w0.wd hl
def F_Sd4_isSeen_14 (x1 : Int32) (x2 : Int32) (y0 : Int32) (mu : Mu) : Int32 := (if x1 = x2 then 0 else (if x2 = y0 then 1 else 0))
set_option maxHeartbeats 4000000 in
set_option maxRecDepth 100000 in
theorem k_Sd4_isSeen_14 (C : Cx cX5_isSeen 5 (some .boolean) wsX5_isSeen RX5 A D cA tb p s m args meth c) {mu nu : Mu} {x1 : Int32} {x2 : Int32} {y0 : Int32} {H : Heap} {locs : List Loc} {ls : Array Slot} (w : Wd A D cA ad s mu nu H locs) (hl : lv_has ls 5 [(1, .int x1), (2, .int x2)]) : W p l e { frames := 0, cells := 0, slots := 0, locals := 0 } s m args below meth c H locs 0 0 (QI A D cA ad below args s (F_Sd4_isSeen_14 x1 x2 y0 mu) mu nu) (F0 m 14 ls [.int y0]) := by
  have hx := C.1
  have hb := C.2.1
  have hts := C.2.2.2.2.2.1
  have hown := C.2.2.2.2.1
  unfold F_Sd4_isSeen_14
  refine lv_istore (lv' := [(4, .int y0), (1, .int x1), (2, .int x2)]) hx hb dX5_isSeen_14 hl (by decide) rfl (fun ls hl => ?_)
  refine lv_iload_n hx hb dX5_isSeen_16 rfl (lv_at hl 1 rfl) ?_
  refine lv_iload_n hx hb dX5_isSeen_17 rfl (lv_at hl 2 rfl) ?_
  refine lv_icmp_eq (tgt := 31) hx hb dX5_isSeen_18 (by decide) (fun h18 => ?_) (fun h18 => ?_)
  · rw [if_pos h18]
    refine lv_iconst (v := 0) hx hb dX5_isSeen_31 (by decide) ?_
    exact retZ C w dX5_isSeen_32 (Or.inl rfl)
  · rw [if_neg h18]
    refine lv_iload_n hx hb dX5_isSeen_21 rfl (lv_at hl 2 rfl) ?_
    refine lv_iload hx hb dX5_isSeen_22 (lv_at hl 0 rfl) ?_
    refine lv_icmp_ne (tgt := 31) hx hb dX5_isSeen_24 (by decide) (fun h24 => ?_) (fun h24 => ?_)
    · rw [if_neg h24]
      refine lv_iconst (v := 0) hx hb dX5_isSeen_31 (by decide) ?_
      exact retZ C w dX5_isSeen_32 (Or.inl rfl)
    · rw [if_pos h24]
      refine lv_iconst (v := 1) hx hb dX5_isSeen_27 (by decide) ?_
      refine lv_goto (tgt := 32) hx hb dX5_isSeen_28 (by decide) ?_
      exact retZ C w dX5_isSeen_32 (Or.inr rfl)
def F_Sd4_isSeen (x1 : Int32) (x2 : Int32) (x3 : Int32) (mu : Mu) : Int32 := (if ((mu 4 3) &&& x3) = (0 : Int32) then F_Sd4_isSeen_14 x1 x2 0 mu else F_Sd4_isSeen_14 x1 x2 1 mu)
set_option maxHeartbeats 4000000 in
set_option maxRecDepth 100000 in
theorem k_Sd4_isSeen (C : Cx cX5_isSeen 5 (some .boolean) wsX5_isSeen RX5 A D cA tb p s m args meth c) {mu nu : Mu} {x1 : Int32} {x2 : Int32} {x3 : Int32} {H : Heap} {locs : List Loc} {ls : Array Slot} (w : Wd A D cA ad s mu nu H locs) (hl : lv_has ls 5 [(0, .ref (ad 4)), (1, .int x1), (2, .int x2), (3, .int x3)]) : W p l e { frames := 0, cells := 0, slots := 0, locals := 0 } s m args below meth c H locs 0 0 (QI A D cA ad below args s (F_Sd4_isSeen x1 x2 x3 mu) mu nu) (F0 m 0 ls []) := by
  have hx := C.1
  have hb := C.2.1
  have hts := C.2.2.2.2.2.1
  have hown := C.2.2.2.2.1
  unfold F_Sd4_isSeen
  refine lv_aload_n hx hb dX5_isSeen_0 rfl (lv_at hl 0 rfl) ?_
  refine gt_4_3 C (fun _ h => List.mem_cons_of_mem _ (List.mem_append_right _ h)) (hts _ (List.mem_of_getElem? (i := 1) rfl)) w (v := (mu 4 3)) rfl dX5_isSeen_1 ?_
  refine lv_iload_n hx hb dX5_isSeen_4 rfl (lv_at hl 3 rfl) ?_
  refine lv_iand hx hb dX5_isSeen_5 ?_
  refine lv_if_eq (tgt := 13) hx hb dX5_isSeen_6 (by decide) (fun h6 => ?_) (fun h6 => ?_)
  · rw [if_pos h6]
    refine lv_iconst (v := 0) hx hb dX5_isSeen_13 (by decide) ?_
    exact k_Sd4_isSeen_14 C w (lv_sub hl [1, 2] rfl)
  · rw [if_neg h6]
    refine lv_iconst (v := 1) hx hb dX5_isSeen_9 (by decide) ?_
    refine lv_goto (tgt := 14) hx hb dX5_isSeen_10 (by decide) ?_
    exact k_Sd4_isSeen_14 C w (lv_sub hl [1, 2] rfl)
set_option maxHeartbeats 4000000 in
set_option maxRecDepth 100000 in
theorem c_Sd4_isSeen (l : Launch) (A : Nat → Prop) (D : va_G) (cA : Nat → ClassId) (tb : Nat) (ad : Nat → Nat) (mu nu : Mu) (x1 : Int32) (x2 : Int32) (x3 : Int32) : Met l yX5_isSeen wsX5_isSeen ({ frames := 0, cells := 0, slots := 0, locals := 0 }) (va_Pc [.ref (ad 4), .int x1, .int x2, .int x3] (Pw A D cA tb ad mu nu)) (va_Qi (fun (r : Int32) (u : Mu × Mu) => r = F_Sd4_isSeen x1 x2 x3 mu ∧ u = (mu, nu)) (Bw A D cA ad) A) 0 0 A := by
  refine Met.ofW (cc := cX5_isSeen) (maxL := 5) (ret := (some .boolean)) (by decide) rfl ?_
  intro p e s m args below meth c s₁ B hml hv
  obtain ⟨rfl, w0⟩ := hv
  have C : Cx cX5_isSeen 5 (some .boolean) wsX5_isSeen RX5 A D cA tb p s m _ meth c := ⟨B.exec, B.bytes, B.returns, hml, findClass_of_methodNamed B.named, atoms_spec (ws := wsX5_isSeen) B.pre, B.notSynchronized, w0.2.1, w0.2.2.2.1, w0.2.2.2.2⟩
  have hl := lv_entry ([.ref (ad 4), .int x1, .int x2, .int x3]) (n := 5) (Nat.le_of_ble_eq_true rfl)
  rw [lg_entry_eq]
  exact k_Sd4_isSeen C w0.wd hl
def F_Sd4_setFirstLine (x1 : Int32) (mu : Mu) : Mu := (if (F_Sd4_isSeen (mu 4 5) x1 2 mu) = (0 : Int32) then (ps mu 4 5 x1) else (if (F_Sd4_isKind 32 (ps (ps mu 4 5 x1) 4 3 ((mu 4 3) ||| 128))) = (0 : Int32) then (ps (ps mu 4 5 x1) 4 3 ((mu 4 3) ||| 128)) else (ps (ps (ps mu 4 5 x1) 4 3 ((mu 4 3) ||| 128)) 4 6 1)))
set_option maxHeartbeats 4000000 in
set_option maxRecDepth 100000 in
theorem k_Sd4_setFirstLine (C : Cx cX5_setFirstLine 3 none wsX5_setFirstLine RX5 A D cA tb p s m args meth c) {mu nu : Mu} {x1 : Int32} {H : Heap} {locs : List Loc} {ls : Array Slot} (w : Wd A D cA ad s mu nu H locs) (hl : lv_has ls 3 [(0, .ref (ad 4)), (1, .int x1)]) : W p l e { frames := 1, cells := 0, slots := 0, locals := 24 } s m args below meth c H locs 0 0 (QV A D cA ad below args s (F_Sd4_setFirstLine x1 mu) nu) (F0 m 0 ls []) := by
  have hx := C.1
  have hb := C.2.1
  have hts := C.2.2.2.2.2.1
  have hown := C.2.2.2.2.1
  unfold F_Sd4_setFirstLine
  refine lv_aload_n hx hb dX5_setFirstLine_0 rfl (lv_at hl 0 rfl) ?_
  refine lv_aload_n hx hb dX5_setFirstLine_1 rfl (lv_at hl 0 rfl) ?_
  refine gt_4_5 C (fun _ h => List.mem_cons_of_mem _ (List.mem_append_right _ h)) (hts _ (List.mem_of_getElem? (i := 1) rfl)) w (v := (mu 4 5)) rfl dX5_setFirstLine_2 ?_
  refine lv_iload_n hx hb dX5_setFirstLine_5 rfl (lv_at hl 1 rfl) ?_
  refine lv_iconst (v := 2) hx hb dX5_setFirstLine_6 (by decide) ?_
  refine kcI (k := 4) (ci := 5) (As := [.int ((mu 4 5)), .int x1, .int 2]) (rest := []) C w rfl rfl (c_Sd4_isSeen l A D cA tb ad mu nu (mu 4 5) x1 2) (cwV 3 hts gX5_setFirstLine_X5_isSeen rfl rfl rfl (by decide +kernel) ⟨Nat.le_of_ble_eq_true rfl, Nat.le_of_ble_eq_true rfl⟩) rfl rfl hl.1 (Nat.le_of_ble_eq_true rfl) dX5_setFirstLine_7 (fun H locs w => ?_)
  refine lv_istore_n (lv' := [(2, .int ((F_Sd4_isSeen (mu 4 5) x1 2 mu))), (0, .ref (ad 4)), (1, .int x1)]) hx hb dX5_setFirstLine_10 rfl hl (by decide) rfl (fun ls hl => ?_)
  refine lv_aload_n hx hb dX5_setFirstLine_11 rfl (lv_at hl 1 rfl) ?_
  refine lv_iload_n hx hb dX5_setFirstLine_12 rfl (lv_at hl 2 rfl) ?_
  refine pt_4_5 C (fun _ h => List.mem_cons_of_mem _ (List.mem_append_right _ h)) (hts _ (List.mem_of_getElem? (i := 1) rfl)) w dX5_setFirstLine_13 (fun H locs w => ?_)
  refine lv_iload_n hx hb dX5_setFirstLine_16 rfl (lv_at hl 0 rfl) ?_
  refine lv_if_eq (tgt := 46) hx hb dX5_setFirstLine_17 (by decide) (fun h17 => ?_) (fun h17 => ?_)
  · rw [if_pos h17]
    exact retV C w dX5_setFirstLine_46
  · rw [if_neg h17]
    refine lv_aload_n hx hb dX5_setFirstLine_20 rfl (lv_at hl 1 rfl) ?_
    refine lv_dup hx hb dX5_setFirstLine_21 rfl ?_
    refine gt_4_3 C (fun _ h => List.mem_cons_of_mem _ (List.mem_append_right _ h)) (hts _ (List.mem_of_getElem? (i := 2) rfl)) w (v := (mu 4 3)) rfl dX5_setFirstLine_22 ?_
    refine lv_sipush (v := 128) hx hb dX5_setFirstLine_25 (by decide) ?_
    refine lv_ior hx hb dX5_setFirstLine_28 ?_
    refine pt_4_3 C (fun _ h => List.mem_cons_of_mem _ (List.mem_append_right _ h)) (hts _ (List.mem_of_getElem? (i := 2) rfl)) w dX5_setFirstLine_29 (fun H locs w => ?_)
    refine lv_aload_n hx hb dX5_setFirstLine_32 rfl (lv_at hl 1 rfl) ?_
    refine lv_bipush (v := 32) hx hb dX5_setFirstLine_33 (by decide) ?_
    refine kcI (k := 4) (ci := 5) (As := [.int 32]) (rest := []) C w rfl rfl (c_Sd4_isKind l A D cA tb ad (ps (ps mu 4 5 x1) 4 3 ((mu 4 3) ||| 128)) nu 32) (cwV 1 hts gX5_setFirstLine_X5_isKind rfl rfl rfl (by decide +kernel) ⟨Nat.le_of_ble_eq_true rfl, Nat.le_of_ble_eq_true rfl⟩) rfl rfl hl.1 (Nat.le_of_ble_eq_true rfl) dX5_setFirstLine_35 (fun H locs w => ?_)
    refine lv_if_eq (tgt := 46) hx hb dX5_setFirstLine_38 (by decide) (fun h38 => ?_) (fun h38 => ?_)
    · rw [if_pos h38]
      exact retV C w dX5_setFirstLine_46
    · rw [if_neg h38]
      refine lv_aload_n hx hb dX5_setFirstLine_41 rfl (lv_at hl 1 rfl) ?_
      refine lv_iconst (v := 1) hx hb dX5_setFirstLine_42 (by decide) ?_
      refine pt_4_6 C (fun _ h => List.mem_cons_of_mem _ (List.mem_append_right _ h)) (hts _ (List.mem_of_getElem? (i := 3) rfl)) w dX5_setFirstLine_43 (fun H locs w => ?_)
      exact retV C w dX5_setFirstLine_46
set_option maxHeartbeats 4000000 in
set_option maxRecDepth 100000 in
theorem c_Sd4_setFirstLine (l : Launch) (A : Nat → Prop) (D : va_G) (cA : Nat → ClassId) (tb : Nat) (ad : Nat → Nat) (mu nu : Mu) (x1 : Int32) : Met l yX5_setFirstLine wsX5_setFirstLine ({ frames := 1, cells := 0, slots := 0, locals := 24 }) (va_Pc [.ref (ad 4), .int x1] (Pw A D cA tb ad mu nu)) (va_Qv (fun (u : Mu × Mu) => u = (F_Sd4_setFirstLine x1 mu, nu)) (Bw A D cA ad) A) 0 0 A := by
  refine Met.ofW (cc := cX5_setFirstLine) (maxL := 3) (ret := none) (by decide) rfl ?_
  intro p e s m args below meth c s₁ B hml hv
  obtain ⟨rfl, w0⟩ := hv
  have C : Cx cX5_setFirstLine 3 none wsX5_setFirstLine RX5 A D cA tb p s m _ meth c := ⟨B.exec, B.bytes, B.returns, hml, findClass_of_methodNamed B.named, atoms_spec (ws := wsX5_setFirstLine) B.pre, B.notSynchronized, w0.2.1, w0.2.2.2.1, w0.2.2.2.2⟩
  have hl := lv_entry ([.ref (ad 4), .int x1]) (n := 3) (Nat.le_of_ble_eq_true rfl)
  rw [lg_entry_eq]
  exact k_Sd4_setFirstLine C w0.wd hl
def F_Sd4_setSecondLine (x1 : Int32) (mu : Mu) : Mu := (if (F_Sd4_isSeen (mu 4 6) x1 16 mu) = (0 : Int32) then (ps mu 4 6 x1) else (ps (ps mu 4 6 x1) 4 3 ((mu 4 3) ||| 64)))
set_option maxHeartbeats 4000000 in
set_option maxRecDepth 100000 in
theorem k_Sd4_setSecondLine (C : Cx cX5_setSecondLine 3 none wsX5_setSecondLine RX5 A D cA tb p s m args meth c) {mu nu : Mu} {x1 : Int32} {H : Heap} {locs : List Loc} {ls : Array Slot} (w : Wd A D cA ad s mu nu H locs) (hl : lv_has ls 3 [(0, .ref (ad 4)), (1, .int x1)]) : W p l e { frames := 1, cells := 0, slots := 0, locals := 24 } s m args below meth c H locs 0 0 (QV A D cA ad below args s (F_Sd4_setSecondLine x1 mu) nu) (F0 m 0 ls []) := by
  have hx := C.1
  have hb := C.2.1
  have hts := C.2.2.2.2.2.1
  have hown := C.2.2.2.2.1
  unfold F_Sd4_setSecondLine
  refine lv_aload_n hx hb dX5_setSecondLine_0 rfl (lv_at hl 0 rfl) ?_
  refine lv_aload_n hx hb dX5_setSecondLine_1 rfl (lv_at hl 0 rfl) ?_
  refine gt_4_6 C (fun _ h => List.mem_cons_of_mem _ (List.mem_append_right _ h)) (hts _ (List.mem_of_getElem? (i := 1) rfl)) w (v := (mu 4 6)) rfl dX5_setSecondLine_2 ?_
  refine lv_iload_n hx hb dX5_setSecondLine_5 rfl (lv_at hl 1 rfl) ?_
  refine lv_bipush (v := 16) hx hb dX5_setSecondLine_6 (by decide) ?_
  refine kcI (k := 4) (ci := 5) (As := [.int ((mu 4 6)), .int x1, .int 16]) (rest := []) C w rfl rfl (c_Sd4_isSeen l A D cA tb ad mu nu (mu 4 6) x1 16) (cwV 3 hts gX5_setSecondLine_X5_isSeen rfl rfl rfl (by decide +kernel) ⟨Nat.le_of_ble_eq_true rfl, Nat.le_of_ble_eq_true rfl⟩) rfl rfl hl.1 (Nat.le_of_ble_eq_true rfl) dX5_setSecondLine_8 (fun H locs w => ?_)
  refine lv_istore_n (lv' := [(2, .int ((F_Sd4_isSeen (mu 4 6) x1 16 mu))), (0, .ref (ad 4)), (1, .int x1)]) hx hb dX5_setSecondLine_11 rfl hl (by decide) rfl (fun ls hl => ?_)
  refine lv_aload_n hx hb dX5_setSecondLine_12 rfl (lv_at hl 1 rfl) ?_
  refine lv_iload_n hx hb dX5_setSecondLine_13 rfl (lv_at hl 2 rfl) ?_
  refine pt_4_6 C (fun _ h => List.mem_cons_of_mem _ (List.mem_append_right _ h)) (hts _ (List.mem_of_getElem? (i := 1) rfl)) w dX5_setSecondLine_14 (fun H locs w => ?_)
  refine lv_iload_n hx hb dX5_setSecondLine_17 rfl (lv_at hl 0 rfl) ?_
  refine lv_if_eq (tgt := 32) hx hb dX5_setSecondLine_18 (by decide) (fun h18 => ?_) (fun h18 => ?_)
  · rw [if_pos h18]
    exact retV C w dX5_setSecondLine_32
  · rw [if_neg h18]
    refine lv_aload_n hx hb dX5_setSecondLine_21 rfl (lv_at hl 1 rfl) ?_
    refine lv_dup hx hb dX5_setSecondLine_22 rfl ?_
    refine gt_4_3 C (fun _ h => List.mem_cons_of_mem _ (List.mem_append_right _ h)) (hts _ (List.mem_of_getElem? (i := 2) rfl)) w (v := (mu 4 3)) rfl dX5_setSecondLine_23 ?_
    refine lv_bipush (v := 64) hx hb dX5_setSecondLine_26 (by decide) ?_
    refine lv_ior hx hb dX5_setSecondLine_28 ?_
    refine pt_4_3 C (fun _ h => List.mem_cons_of_mem _ (List.mem_append_right _ h)) (hts _ (List.mem_of_getElem? (i := 2) rfl)) w dX5_setSecondLine_29 (fun H locs w => ?_)
    exact retV C w dX5_setSecondLine_32
set_option maxHeartbeats 4000000 in
set_option maxRecDepth 100000 in
theorem c_Sd4_setSecondLine (l : Launch) (A : Nat → Prop) (D : va_G) (cA : Nat → ClassId) (tb : Nat) (ad : Nat → Nat) (mu nu : Mu) (x1 : Int32) : Met l yX5_setSecondLine wsX5_setSecondLine ({ frames := 1, cells := 0, slots := 0, locals := 24 }) (va_Pc [.ref (ad 4), .int x1] (Pw A D cA tb ad mu nu)) (va_Qv (fun (u : Mu × Mu) => u = (F_Sd4_setSecondLine x1 mu, nu)) (Bw A D cA ad) A) 0 0 A := by
  refine Met.ofW (cc := cX5_setSecondLine) (maxL := 3) (ret := none) (by decide) rfl ?_
  intro p e s m args below meth c s₁ B hml hv
  obtain ⟨rfl, w0⟩ := hv
  have C : Cx cX5_setSecondLine 3 none wsX5_setSecondLine RX5 A D cA tb p s m _ meth c := ⟨B.exec, B.bytes, B.returns, hml, findClass_of_methodNamed B.named, atoms_spec (ws := wsX5_setSecondLine) B.pre, B.notSynchronized, w0.2.1, w0.2.2.2.1, w0.2.2.2.2⟩
  have hl := lv_entry ([.ref (ad 4), .int x1]) (n := 3) (Nat.le_of_ble_eq_true rfl)
  rw [lg_entry_eq]
  exact k_Sd4_setSecondLine C w0.wd hl
end
